/-! ===== Ladder: build ===== -/
abbrev ab_eqo (lo hi : Nat) (h h' : ab_H) : Prop := ∀ a, (a < lo ∨ hi < a) → h' a = h a
/-- the tables hold what the law L makes, for levels up to u -/
def ab_bt (L A F : Int → Int) (u : Int) : Prop := (∀ b c, ab_bb b → ab_bb c → ab_LV b ≤ u → ab_LV c ≤ u → A (b * 19 + c) = ab_AT L (b * 19 + c)) ∧ (∀ b c, ab_bb b → ab_bb c → ab_LV b = ab_LV c → ab_LV b ≤ u → F (b * 19 + c) = ab_FT L (b * 19 + c))
def ab_lst (h : ab_H) (B A F Mv : Int → Int) (top : Int) : Prop := h 33 = some (ab_ld 34 40 41 42 43 44 top) ∧ ab_knd h ∧ h 40 = some (ab_ia 4 B) ∧ h 41 = some (ab_ia 361 A) ∧ h 42 = some (ab_ia 361 F) ∧ h 43 = some (ab_ia 7 Mv) ∧ ab_a01 A ∧ ab_a01 F
def ab_gst (h : ab_H) (M : Int → Int → Int) (g : Int → Int) (R C Fo P : Int) : Prop := h 44 = some (ab_gr 45 46 R C Fo P) ∧ h 45 = some (ab_ia 84 (ab_flt M)) ∧ h 46 = some (ab_ia 7 g) ∧ ab_v2 M
/-- the ladder's cells; its tables are good for L up to u -/
def ab_lad (h : ab_H) (L : Int → Int) (u : Int) : Prop := ∃ B A F Mv top, ab_lst h B A F Mv top ∧ (∃ M g R C Fo P, ab_gst h M g R C Fo P) ∧ ab_bt L A F u ∧ ab_bt B A F top ∧ top ≤ 5 ∧ -1 ≤ top ∧ ∀ j, 0 ≤ j → j < 4 → ab_inR (B j)
theorem ab_bt_no {L A F : Int → Int} : ab_bt L A F (-1) := ⟨fun b _ hb _ h _ => absurd (ab_lv_r hb).1 (by omega), fun b _ hb _ _ h => absurd (ab_lv_r hb).1 (by omega)⟩
theorem ab_bt_le {L A F : Int → Int} {u v : Int} (hu : v ≤ u) (h : ab_bt L A F u) : ab_bt L A F v := ⟨fun b c hb hc h1 h2 => h.1 b c hb hc (by omega) (by omega), fun b c hb hc h1 h2 => h.2 b c hb hc h1 (by omega)⟩
theorem ab_lad_any {h : ab_H} {L L' : Int → Int} {u : Int} (hl : ab_lad h L u) : ab_lad h L' (-1) := by
  obtain ⟨B, A, F, Mv, top, h1, h2, h3, h4⟩ := hl
  exact ⟨B, A, F, Mv, top, h1, h2, ab_bt_no, h4⟩
theorem ab_lad_le {h : ab_H} {L : Int → Int} {u v : Int} (hv : v ≤ u) (hl : ab_lad h L u) : ab_lad h L v := by
  obtain ⟨B, A, F, Mv, top, h1, h2, h3, h4⟩ := hl
  exact ⟨B, A, F, Mv, top, h1, h2, ab_bt_le hv h3, h4⟩
theorem ab_knd_fr {h h' : ab_H} (he : ∀ a, 33 ≤ a → a ≤ 46 → h' a = h a) (hk : ab_knd h) : ab_knd h' := by
  obtain ⟨k1, k2, k3, k4, k5, k6⟩ := hk
  exact ⟨(he 34 (by decide) (by decide)).trans k1, (he 35 (by decide) (by decide)).trans k2, (he 36 (by decide) (by decide)).trans k3, (he 37 (by decide) (by decide)).trans k4, (he 38 (by decide) (by decide)).trans k5, (he 39 (by decide) (by decide)).trans k6⟩
theorem ab_lad_fr {h h' : ab_H} {L : Int → Int} {u : Int} (he : ∀ a, 33 ≤ a → a ≤ 46 → h' a = h a) (hl : ab_lad h L u) : ab_lad h' L u := by
  obtain ⟨B, A, F, Mv, top, ⟨h1, h2, h3, h4, h5, h6, h7⟩, ⟨M, g, R, C, Fo, P, g1, g2, g3, g4⟩, h9⟩ := hl
  exact ⟨B, A, F, Mv, top, ⟨(he 33 (by decide) (by decide)).trans h1, ab_knd_fr he h2, (he 40 (by decide) (by decide)).trans h3, (he 41 (by decide) (by decide)).trans h4, (he 42 (by decide) (by decide)).trans h5, (he 43 (by decide) (by decide)).trans h6, h7⟩, ⟨M, g, R, C, Fo, P, (he 44 (by decide) (by decide)).trans g1, (he 45 (by decide) (by decide)).trans g2, (he 46 (by decide) (by decide)).trans g3, g4⟩, h9⟩
theorem ab_stat_fr {h h' : ab_H} {lo hi : Nat} (h6 : 6 ≤ lo) (he : ab_eqo lo hi h h') (hs : ab_stat h) : ab_stat h' := by
  obtain ⟨h1, h2, h3, h4, h5⟩ := hs
  exact ⟨(he 1 (by omega)).trans h1, (he 2 (by omega)).trans h2, (he 3 (by omega)).trans h3, (he 4 (by omega)).trans h4, (he 5 (by omega)).trans h5⟩
theorem ab_AT_cg {L B : Int → Int} (h : ∀ j, 0 ≤ j → j < 4 → L j = B j) : ab_AT L = ab_AT B := by
  have e0 := h 0 (by decide) (by decide)
  have e1 := h 1 (by decide) (by decide)
  have e2 := h 2 (by decide) (by decide)
  have e3 := h 3 (by decide) (by decide)
  have key : ∀ k, ab_att L k = ab_att B k := by
    intro k
    induction k with
    | zero => rfl
    | succ k ih =>
      funext j
      rw [ab_att, ab_att, ih]
      unfold ab_asq ab_asx ab_asy
      rw [e0, e1, e2, e3]
  exact key 6
theorem ab_FT_cg {L B : Int → Int} (h : ∀ j, 0 ≤ j → j < 4 → L j = B j) : ab_FT L = ab_FT B := by
  have key : ∀ k, ab_ftt L k = ab_ftt B k := by
    intro k
    induction k with
    | zero => rfl
    | succ k ih => rw [ab_ftt, ab_ftt, ih, ab_AT_cg h]
  exact key 6
theorem ab_bt_cg {L B A F : Int → Int} {u : Int} (h : ∀ j, 0 ≤ j → j < 4 → L j = B j) (hb : ab_bt L A F u) : ab_bt B A F u := by
  unfold ab_bt at hb ⊢
  rw [← ab_AT_cg h, ← ab_FT_cg h]
  exact hb
theorem ab_lv_lt {b b' : Int} (hb : ab_bb b) (hb' : ab_bb b') (h : ab_LV b' < ab_LV b) : b' < b := by
  have := ab_tb_all (P := fun b => ∀ k : Fin 19, ab_LV k.val < ab_LV b → (k.val : Int) < b) (m := 19) (by decide +kernel) hb.1 hb.2 ⟨b'.toNat, by have := hb'.2; have := hb'.1; omega⟩
  simp only [Int.toNat_of_nonneg hb'.1] at this
  exact this h
/-- the heap while tables are built -/
def ab_bh (h : ab_H) (u : Int) (L A F : Int → Int) : ab_H := ab_hs (ab_hs (ab_hs (ab_hs h 40 (ab_ia 4 L)) 33 (ab_ld 34 40 41 42 43 44 u)) 41 (ab_ia 361 A)) 42 (ab_ia 361 F)
section BH
variable {h : ab_H} {n : Nat} {Q : ab_Q} {u : Int} {L A F A' F' : Int → Int}
theorem ab_bh_33 : ab_bh h u L A F 33 = some (ab_ld 34 40 41 42 43 44 u) := (ab_hs_ne (by decide)).trans ((ab_hs_ne (by decide)).trans ab_hs_self)
theorem ab_bh_40 : ab_bh h u L A F 40 = some (ab_ia 4 L) := (ab_hs_ne (by decide)).trans ((ab_hs_ne (by decide)).trans ((ab_hs_ne (by decide)).trans ab_hs_self))
theorem ab_bh_41 : ab_bh h u L A F 41 = some (ab_ia 361 A) := (ab_hs_ne (by decide)).trans ab_hs_self
theorem ab_bh_42 : ab_bh h u L A F 42 = some (ab_ia 361 F) := ab_hs_self
theorem ab_bh_o {a : Nat} (h1 : a ≠ 33) (h2 : a ≠ 40) (h3 : a ≠ 41) (h4 : a ≠ 42) : ab_bh h u L A F a = h a := (ab_hs_ne h4).trans ((ab_hs_ne h3).trans ((ab_hs_ne h1).trans (ab_hs_ne h2)))
theorem ab_bh_stat (hs : ab_stat h) : ab_stat (ab_bh h u L A F) := ab_stat_hs (by decide) (ab_stat_hs (by decide) (ab_stat_hs (by decide) (ab_stat_hs (by decide) hs)))
theorem ab_bh_knd (hs : ab_knd h) : ab_knd (ab_bh h u L A F) := ab_knd_hs (by decide) (ab_knd_hs (by decide) (ab_knd_hs (by decide) (ab_knd_hs (by decide) hs)))
theorem ab_bh_u41 : ab_hs (ab_bh h u L A F) 41 (ab_ia 361 A') = ab_bh h u L A' F := by
  unfold ab_bh
  rw [ab_hs_cm (a := 42) (b := 41) (by decide), ab_hs_hs]
theorem ab_bh_u42 : ab_hs (ab_bh h u L A F) 42 (ab_ia 361 F') = ab_bh h u L A F' := ab_hs_hs
/-- what is there of the tables: rows of basis vectors below x, forms of levels below nn -/
def ab_bi (L A : Int → Int) (u x : Int) : Prop := ∀ b c, ab_bb b → ab_bb c → b < x → ab_LV c ≤ u → A (b * 19 + c) = ab_AT L (b * 19 + c)
def ab_bf (L F : Int → Int) (nn : Int) : Prop := ∀ b c, ab_bb b → ab_bb c → ab_LV b = ab_LV c → ab_LV b < nn → F (b * 19 + c) = ab_FT L (b * 19 + c)
theorem sp_rebuild {la : Nat} (hs : ab_stat h) (hk : ab_knd h) (hL : ab_lok L) (hu : 0 ≤ u ∧ u ≤ 5) (hA : ab_a01 A) (hF : ab_a01 F) (q : ∀ A F, ab_a01 A → ab_a01 F → ab_bt L A F u → Q none (ab_bh h u L A F) n) : ab_G 20 33 [some (vr 33), some (vr la), some (vi u), none, none, none] [] (ab_bh h u L A F) n (0, 0) Q := by
  have hur : ab_inR u = True := eq_true (by omega)
  simp only [s20_33, s20_34, true_and, and_true, true_implies, Option.toList_some, Option.toList_none, List.nil_append, List.cons_append, List.map_nil, List.map_cons, List.sum_nil, List.sum_cons, Nat.zero_le, ab_nl_n, ab_nl_i, ab_nl_r, ab_nl_0, ab_cat_i, ab_cat_r, ab_cat_l, Nat.reduceAdd, Nat.reduceLeDiff, Nat.add_zero, Nat.zero_add, reduceIte, List.getElem?_cons_succ, List.getElem?_cons_zero, List.length_cons, List.length_nil, List.set_cons_zero, List.set_cons_succ, true_or, or_true, Classical.not_not, not_true_eq_false, not_false_eq_true, ab_01r, ab_01z, ab_01n, false_implies, ab_tt, Nat.reduceLT, Nat.reduceEqDiff, Int.reduceNeg, Int.reduceLT, Int.reduceLE, Int.add_zero, Int.zero_add, List.append_nil, Int.reduceEq, ab_sum1, ab_ri_0, ab_ri_1, ab_ri_2, ab_ri_3, ab_ri_4, ab_ri_5, ab_ri_6, ab_ri_7, ab_ri_8, ab_ri_12, ab_ri_30, ab_ri_60, ab_ri_100, ab_ri_101, ab_ri_127, ab_ri_m1, ab_ri_m2, ab_ri_m3, ab_ri_m4, ab_ri_m5, ab_ri_m11, ab_ri_m13, ab_ri_m14, ab_ri_10]
  have key := ab_dn (P := fun i => ∀ A F, ab_a01 A → ab_a01 F → ab_bi L A u (ab_START i) → ab_bf L F i → ∀ l4 l5 : Option ab_V, ab_nl [l4, l5] = true → ab_nl [l5] = true → ab_G 20 35 [some (vr 33), some (vr la), some (vi u), some (vi i), l4, l5] [] (ab_bh h u L A F) n (0, 0) Q) (a := 0) (e := u + 1) (by omega) ?_ ?_
  · exact key A F hA hF (fun b _ hb _ h0 _ => absurd hb.1 (by have : ab_START 0 = 0 := rfl; omega)) (fun b _ hb _ _ h0 => absurd (ab_lv_r hb).1 (by omega)) none none rfl rfl
  · intro A F hA hF b1 b2 l4 l5 k4 k5
    have q := q A F hA hF ⟨fun b c hb hc h1 h2 => b1 b c hb hc (by
      have hw := ab_wd_eq (lv := ab_LV b) (by have := ab_lv_r hb; omega) (by omega)
      have hb3 := ab_lv_r hb
      have := ab_tb_all (P := fun u => ∀ k : Fin 19, ab_LV k.val ≤ u → (k.val : Int) < ab_START (u + 1)) (m := 6) (by decide +kernel) hu.1 (by omega) ⟨b.toNat, by have := hb.1; have := hb.2; omega⟩
      simp only [Int.toNat_of_nonneg hb.1] at this
      exact this h1) h2, fun b c hb hc h1 h2 => b2 b c hb hc h1 (by omega)⟩
    have c1 : u < u + 1 := by omega
    rw [s20_35]
    simp only [s20_36, s20_37, s20_100, true_and, and_true, true_implies, Option.toList_some, Option.toList_none, List.nil_append, List.cons_append, List.map_nil, List.map_cons, List.sum_nil, List.sum_cons, Nat.zero_le, ab_nl_n, ab_nl_i, ab_nl_r, ab_nl_0, ab_cat_i, ab_cat_r, ab_cat_l, Nat.reduceAdd, Nat.reduceLeDiff, Nat.add_zero, Nat.zero_add, reduceIte, List.getElem?_cons_succ, List.getElem?_cons_zero, List.length_cons, List.length_nil, List.set_cons_zero, List.set_cons_succ, true_or, or_true, Classical.not_not, not_true_eq_false, not_false_eq_true, ab_01r, ab_01z, ab_01n, false_implies, ab_tt, Nat.reduceLT, Nat.reduceEqDiff, Int.reduceNeg, Int.reduceLT, Int.reduceLE, Int.add_zero, Int.zero_add, List.append_nil, Int.reduceEq, ab_sum1, ab_ri_0, ab_ri_1, ab_ri_2, ab_ri_3, ab_ri_4, ab_ri_5, ab_ri_6, ab_ri_7, ab_ri_8, ab_ri_12, ab_ri_30, ab_ri_60, ab_ri_100, ab_ri_101, ab_ri_127, ab_ri_m1, ab_ri_m2, ab_ri_m3, ab_ri_m4, ab_ri_m5, ab_ri_m11, ab_ri_m13, ab_ri_m14, ab_ri_10, c1, q] <;> omega
  · intro i i0 i9 ih A F hA hF b1 b2 l4 l5 k4 k5
    have ci : ¬ u < i := by omega
    have i7 : i < ((7 : Nat) : Int) := by omega
    have i8 : i + 1 < ((7 : Nat) : Int) := by omega
    have i8' : 0 ≤ i + 1 := by omega
    have hw := ab_wd_eq i0 (by omega)
    have hir : ab_inR i = True := eq_true (by omega)
    rw [s20_35]
    simp only [s20_36, s20_37, s20_40, s20_43, s20_44, s20_45, true_and, and_true, true_implies, Option.toList_some, Option.toList_none, List.nil_append, List.cons_append, List.map_nil, List.map_cons, List.sum_nil, List.sum_cons, Nat.zero_le, ab_nl_n, ab_nl_i, ab_nl_r, ab_nl_0, ab_cat_i, ab_cat_r, ab_cat_l, Nat.reduceAdd, Nat.reduceLeDiff, Nat.add_zero, Nat.zero_add, reduceIte, List.getElem?_cons_succ, List.getElem?_cons_zero, List.length_cons, List.length_nil, List.set_cons_zero, List.set_cons_succ, true_or, or_true, Classical.not_not, not_true_eq_false, not_false_eq_true, ab_01r, ab_01z, ab_01n, false_implies, ab_tt, Nat.reduceLT, Nat.reduceEqDiff, Int.reduceNeg, Int.reduceLT, Int.reduceLE, Int.add_zero, Int.zero_add, List.append_nil, Int.reduceEq, ab_sum1, ab_ri_0, ab_ri_1, ab_ri_2, ab_ri_3, ab_ri_4, ab_ri_5, ab_ri_6, ab_ri_7, ab_ri_8, ab_ri_12, ab_ri_30, ab_ri_60, ab_ri_100, ab_ri_101, ab_ri_127, ab_ri_m1, ab_ri_m2, ab_ri_m3, ab_ri_m4, ab_ri_m5, ab_ri_m11, ab_ri_m13, ab_ri_m14, ab_ri_10, ab_ai, (ab_bh_stat hs).1, ci, hur, hir, i0, i7, k4, k5]
    have key := ab_dn (P := fun j => ∀ A, ab_a01 A → ab_bi L A u (ab_START i + j) → ∀ l5 : Option ab_V, ab_nl [l5] = true → ab_G 20 47 [some (vr 33), some (vr la), some (vi u), some (vi i), some (vi (ab_START i + j)), l5] [] (ab_bh h u L A F) n (0, 0) Q) (a := 0) (e := ab_wd i) (by omega) ?_ ?_
    · have := key A hA (by rw [Int.add_zero]; exact b1) l5 k5
      rw [Int.add_zero] at this
      exact this
    · intro A hA b1 l5 k5
      have e6 : ab_START i + ab_wd i = ab_START (i + 1) := hw.1.symm
      have ihA := ih A (ab_bk (ab_FT L) F (ab_START i) (ab_wd i) (ab_wd i) 0) hA (ab_bk_a01 ab_FT_r hF) (by rw [← e6]; exact b1) (by
        intro b c hb hc h1 h2
        have hb3 := ab_lv_r hb
        have hc3 := ab_lv_r hc
        obtain ⟨c0, c1⟩ := hc
        unfold ab_bk
        by_cases e : ab_LV b = i
        · rw [e] at hb3
          rw [← h1, e] at hc3
          rw [if_pos (Or.inl (by omega))]
        · have bl : b < ab_START i := by
            have hz := ab_wd_eq (lv := ab_LV b) (by omega) (by omega)
            have := ab_tb_all (P := fun u => ∀ k : Fin 19, ab_LV k.val < u → (k.val : Int) < ab_START u) (m := 6) (by decide +kernel) i0 (by omega) ⟨b.toNat, by have := hb.1; have := hb.2; omega⟩
            simp only [Int.toNat_of_nonneg hb.1] at this
            exact this (by omega)
          rw [if_neg (by omega)]
          exact b2 b c hb ⟨c0, c1⟩ h1 (by omega)) (some (vi (ab_START i + ab_wd i))) l5 k5 k5
      rw [s20_47]
      simp only [s20_49, s20_52, s20_53, s20_54, s20_55, s20_56, s20_89, s20_90, s20_91, true_and, and_true, true_implies, Option.toList_some, Option.toList_none, List.nil_append, List.cons_append, List.map_nil, List.map_cons, List.sum_nil, List.sum_cons, Nat.zero_le, ab_nl_n, ab_nl_i, ab_nl_r, ab_nl_0, ab_cat_i, ab_cat_r, ab_cat_l, Nat.reduceAdd, Nat.reduceLeDiff, Nat.add_zero, Nat.zero_add, reduceIte, List.getElem?_cons_succ, List.getElem?_cons_zero, List.length_cons, List.length_nil, List.set_cons_zero, List.set_cons_succ, true_or, or_true, Classical.not_not, not_true_eq_false, not_false_eq_true, ab_01r, ab_01z, ab_01n, false_implies, ab_tt, Nat.reduceLT, Nat.reduceEqDiff, Int.reduceNeg, Int.reduceLT, Int.reduceLE, Int.add_zero, Int.zero_add, List.append_nil, Int.reduceEq, ab_sum1, ab_ri_0, ab_ri_1, ab_ri_2, ab_ri_3, ab_ri_4, ab_ri_5, ab_ri_6, ab_ri_7, ab_ri_8, ab_ri_12, ab_ri_30, ab_ri_60, ab_ri_100, ab_ri_101, ab_ri_127, ab_ri_m1, ab_ri_m2, ab_ri_m3, ab_ri_m4, ab_ri_m5, ab_ri_m11, ab_ri_m13, ab_ri_m14, ab_ri_10, ab_ai, ab_vc, ab_sv_3_54, ab_sv_3_67, ab_sv_3_71, (ab_bh_stat hs).1, ab_bh_33, i8, i8', hw.1, Int.le_refl, Int.lt_irrefl]
      (repeat refine And.intro (by omega) ?_)
      refine sp_fillForms (L := L) (ab_bh_stat hs) ab_bh_33 ab_bh_41 ab_bh_42 hA hF ⟨i0, by omega⟩ (fun b c hb hc h1 h2 => b1 b c hb hc (by
        have := ab_tb_all (P := fun u => ∀ k : Fin 19, ab_LV k.val ≤ u → (k.val : Int) < ab_START u + ab_wd u) (m := 6) (by decide +kernel) i0 (by omega) ⟨b.toNat, by have := hb.1; have := hb.2; omega⟩
        simp only [Int.toNat_of_nonneg hb.1] at this
        exact this h1) (by omega)) b2 ?_
      rw [ab_bh_u42]
      simp only [s20_94, s20_97, true_and, and_true, true_implies, Option.toList_some, Option.toList_none, List.nil_append, List.cons_append, List.map_nil, List.map_cons, List.sum_nil, List.sum_cons, Nat.zero_le, ab_nl_n, ab_nl_i, ab_nl_r, ab_nl_0, ab_cat_i, ab_cat_r, ab_cat_l, Nat.reduceAdd, Nat.reduceLeDiff, Nat.add_zero, Nat.zero_add, reduceIte, List.getElem?_cons_succ, List.getElem?_cons_zero, List.length_cons, List.length_nil, List.set_cons_zero, List.set_cons_succ, true_or, or_true, Classical.not_not, not_true_eq_false, not_false_eq_true, ab_01r, ab_01z, ab_01n, false_implies, ab_tt, Nat.reduceLT, Nat.reduceEqDiff, Int.reduceNeg, Int.reduceLT, Int.reduceLE, Int.add_zero, Int.zero_add, List.append_nil, Int.reduceEq, ab_sum1, ab_ri_0, ab_ri_1, ab_ri_2, ab_ri_3, ab_ri_4, ab_ri_5, ab_ri_6, ab_ri_7, ab_ri_8, ab_ri_12, ab_ri_30, ab_ri_60, ab_ri_100, ab_ri_101, ab_ri_127, ab_ri_m1, ab_ri_m2, ab_ri_m3, ab_ri_m4, ab_ri_m5, ab_ri_m11, ab_ri_m13, ab_ri_m14, ab_ri_10, k5, ihA]
    · intro j j0 j9 jh A hA b1 l5 k5
      have nj : ¬ ab_START i + ab_wd i ≤ ab_START i + j := by omega
      have bj : ab_bb (ab_START i + j) := ⟨by omega, by omega⟩
      have lj := ab_lv_at i0 (by omega) j0 j9
      rw [s20_47]
      simp only [s20_49, s20_52, s20_53, s20_54, s20_55, s20_56, s20_59, s20_60, true_and, and_true, true_implies, Option.toList_some, Option.toList_none, List.nil_append, List.cons_append, List.map_nil, List.map_cons, List.sum_nil, List.sum_cons, Nat.zero_le, ab_nl_n, ab_nl_i, ab_nl_r, ab_nl_0, ab_cat_i, ab_cat_r, ab_cat_l, Nat.reduceAdd, Nat.reduceLeDiff, Nat.add_zero, Nat.zero_add, reduceIte, List.getElem?_cons_succ, List.getElem?_cons_zero, List.length_cons, List.length_nil, List.set_cons_zero, List.set_cons_succ, true_or, or_true, Classical.not_not, not_true_eq_false, not_false_eq_true, ab_01r, ab_01z, ab_01n, false_implies, ab_tt, Nat.reduceLT, Nat.reduceEqDiff, Int.reduceNeg, Int.reduceLT, Int.reduceLE, Int.add_zero, Int.zero_add, List.append_nil, Int.reduceEq, ab_sum1, ab_ri_0, ab_ri_1, ab_ri_2, ab_ri_3, ab_ri_4, ab_ri_5, ab_ri_6, ab_ri_7, ab_ri_8, ab_ri_12, ab_ri_30, ab_ri_60, ab_ri_100, ab_ri_101, ab_ri_127, ab_ri_m1, ab_ri_m2, ab_ri_m3, ab_ri_m4, ab_ri_m5, ab_ri_m11, ab_ri_m13, ab_ri_m14, ab_ri_10, ab_ai, (ab_bh_stat hs).1, i8, i8', hw.1, nj, k5]
      (repeat refine And.intro (by omega) ?_)
      have key := ab_dn (P := fun t => ∀ A, ab_a01 A → ab_bi L A u (ab_START i + j) → (∀ c, ab_bb c → ab_LV c < t → A ((ab_START i + j) * 19 + c) = ab_AT L ((ab_START i + j) * 19 + c)) → ab_G 20 62 [some (vr 33), some (vr la), some (vi u), some (vi i), some (vi (ab_START i + j)), some (vi t)] [] (ab_bh h u L A F) n (0, 0) Q) (a := 0) (e := u + 1) (by omega) ?_ ?_
      · exact key A hA b1 (fun c hc h0 => absurd (ab_lv_r hc).1 (by omega))
      · intro A hA b1 b3
        have jh := jh A hA (by
          intro b c hb hc h1 h2
          by_cases e : b = ab_START i + j
          · rw [e]; exact b3 c hc (by omega)
          · exact b1 b c hb hc (by omega) h2) (some (vi (u + 1))) rfl
        rw [show ab_START i + (j + 1) = ab_START i + j + 1 by omega] at jh
        have c1 : u < u + 1 := by omega
        rw [s20_62]
        simp only [s20_64, s20_65, s20_83, s20_86, true_and, and_true, true_implies, Option.toList_some, Option.toList_none, List.nil_append, List.cons_append, List.map_nil, List.map_cons, List.sum_nil, List.sum_cons, Nat.zero_le, ab_nl_n, ab_nl_i, ab_nl_r, ab_nl_0, ab_cat_i, ab_cat_r, ab_cat_l, Nat.reduceAdd, Nat.reduceLeDiff, Nat.add_zero, Nat.zero_add, reduceIte, List.getElem?_cons_succ, List.getElem?_cons_zero, List.length_cons, List.length_nil, List.set_cons_zero, List.set_cons_succ, true_or, or_true, Classical.not_not, not_true_eq_false, not_false_eq_true, ab_01r, ab_01z, ab_01n, false_implies, ab_tt, Nat.reduceLT, Nat.reduceEqDiff, Int.reduceNeg, Int.reduceLT, Int.reduceLE, Int.add_zero, Int.zero_add, List.append_nil, Int.reduceEq, ab_sum1, ab_ri_0, ab_ri_1, ab_ri_2, ab_ri_3, ab_ri_4, ab_ri_5, ab_ri_6, ab_ri_7, ab_ri_8, ab_ri_12, ab_ri_30, ab_ri_60, ab_ri_100, ab_ri_101, ab_ri_127, ab_ri_m1, ab_ri_m2, ab_ri_m3, ab_ri_m4, ab_ri_m5, ab_ri_m11, ab_ri_m13, ab_ri_m14, ab_ri_10, c1, jh] <;> omega
      · intro t t0 t9 th A hA b1 b3
        have ct : ¬ u < t := by omega
        have hv := ab_wd_eq t0 (by omega)
        have th := th (ab_fi (ab_AT L) A ((ab_START i + j) * 19 + ab_START t) ((ab_START i + j) * 19 + ab_START t + ab_wd t)) (ab_fi_a01 (ab_AT_r hL) hA) (by
          intro b c hb hc h1 h2
          obtain ⟨c0, c1⟩ := hc
          rw [ab_fi_no (by omega)]
          exact b1 b c hb ⟨c0, c1⟩ h1 h2) (by
          intro c hc h1
          have hc3 := ab_lv_r hc
          by_cases e : ab_LV c = t
          · rw [e] at hc3
            rw [ab_fi_lo (by omega)]
          · have nc : ¬ (ab_START t ≤ c ∧ c < ab_START t + ab_wd t) := fun z => e (ab_lv_in t0 (by omega) z.1 z.2)
            rw [ab_fi_no (by omega)]
            exact b3 c hc (by omega))
        rw [s20_62]
        simp only [s20_64, s20_65, s20_68, s20_69, s20_71, s20_72, s20_74, true_and, and_true, true_implies, Option.toList_some, Option.toList_none, List.nil_append, List.cons_append, List.map_nil, List.map_cons, List.sum_nil, List.sum_cons, Nat.zero_le, ab_nl_n, ab_nl_i, ab_nl_r, ab_nl_0, ab_cat_i, ab_cat_r, ab_cat_l, Nat.reduceAdd, Nat.reduceLeDiff, Nat.add_zero, Nat.zero_add, reduceIte, List.getElem?_cons_succ, List.getElem?_cons_zero, List.length_cons, List.length_nil, List.set_cons_zero, List.set_cons_succ, true_or, or_true, Classical.not_not, not_true_eq_false, not_false_eq_true, ab_01r, ab_01z, ab_01n, false_implies, ab_tt, Nat.reduceLT, Nat.reduceEqDiff, Int.reduceNeg, Int.reduceLT, Int.reduceLE, Int.add_zero, Int.zero_add, List.append_nil, Int.reduceEq, ab_sum1, ab_ri_0, ab_ri_1, ab_ri_2, ab_ri_3, ab_ri_4, ab_ri_5, ab_ri_6, ab_ri_7, ab_ri_8, ab_ri_12, ab_ri_30, ab_ri_60, ab_ri_100, ab_ri_101, ab_ri_127, ab_ri_m1, ab_ri_m2, ab_ri_m3, ab_ri_m4, ab_ri_m5, ab_ri_m11, ab_ri_m13, ab_ri_m14, ab_ri_10, ab_vc, ab_sv_3_54, ab_sv_3_67, ab_sv_3_71, ab_bh_33, ct, hur, hir]
        (repeat refine And.intro (by omega) ?_)
        refine sp_fillActs (ab_bh_stat hs) ab_bh_33 (ab_bh_knd hk) ab_bh_40 ab_bh_41 hL hA bj lj ⟨t0, by omega⟩ (fun b' c' hb' hc' h1 h2 => b1 b' c' hb' hc' (ab_lv_lt bj hb' h1) (by omega)) ?_
        rw [ab_bh_u41]
        simp only [s20_77, s20_80, true_and, and_true, true_implies, Option.toList_some, Option.toList_none, List.nil_append, List.cons_append, List.map_nil, List.map_cons, List.sum_nil, List.sum_cons, Nat.zero_le, ab_nl_n, ab_nl_i, ab_nl_r, ab_nl_0, ab_cat_i, ab_cat_r, ab_cat_l, Nat.reduceAdd, Nat.reduceLeDiff, Nat.add_zero, Nat.zero_add, reduceIte, List.getElem?_cons_succ, List.getElem?_cons_zero, List.length_cons, List.length_nil, List.set_cons_zero, List.set_cons_succ, true_or, or_true, Classical.not_not, not_true_eq_false, not_false_eq_true, ab_01r, ab_01z, ab_01n, false_implies, ab_tt, Nat.reduceLT, Nat.reduceEqDiff, Int.reduceNeg, Int.reduceLT, Int.reduceLE, Int.add_zero, Int.zero_add, List.append_nil, Int.reduceEq, ab_sum1, ab_ri_0, ab_ri_1, ab_ri_2, ab_ri_3, ab_ri_4, ab_ri_5, ab_ri_6, ab_ri_7, ab_ri_8, ab_ri_12, ab_ri_30, ab_ri_60, ab_ri_100, ab_ri_101, ab_ri_127, ab_ri_m1, ab_ri_m2, ab_ri_m3, ab_ri_m4, ab_ri_m5, ab_ri_m11, ab_ri_m13, ab_ri_m14, ab_ri_10, th]
/-- behind a call of build the tables are good for the law, up to the level -/
theorem sp_build {la : Nat} {L0 : Int → Int} {u0 : Int} (hs : ab_stat h) (hl : ab_lad h L0 u0) (h6 : 6 ≤ la) (hla : la < 33 ∨ 46 < la) (h2 : h la = some (ab_ia 4 L)) (hL : ab_lok L) (hu : 0 ≤ u ∧ u ≤ 5) (q : ∀ h', ab_eqo 33 46 h h' → ab_lad h' L u → Q none h' n) : ab_G 20 0 [some (vr 33), some (vr la), some (vi u), none, none, none] [] h n (0, 0) Q := by
  obtain ⟨B, A, F, Mv, top, ⟨k1, k2, k3, k4, k5, k6, k7, k8⟩, ⟨M, g, R, C, Fo, P, g1, g2, g3, g4⟩, -, hbt, ht5, ht1, hB⟩ := hl
  have hL4 : ∀ j, 0 ≤ j → j < 4 → ab_inR (L j) := by
    intro j j0 j4
    obtain ⟨l0, l1, l2, l3⟩ := hL
    have : j = 0 ∨ j = 1 ∨ j = 2 ∨ j = 3 := by omega
    rcases this with rfl | rfl | rfl | rfl <;> omega
  have again : ab_G 20 17 [some (vr 33), some (vr la), some (vi u), none, none, none] [] h n (0, 0) Q := by
    have hcg : ∀ j, 0 ≤ j → j < 4 → ab_fi L B 0 4 j = L j := fun j j0 j4 => ab_fi_lo ⟨j0, j4⟩
    have hL' : ab_lok (ab_fi L B 0 4) := by
      unfold ab_lok
      rw [hcg 0 (by decide) (by decide), hcg 1 (by decide) (by decide), hcg 2 (by decide) (by decide), hcg 3 (by decide) (by decide)]
      exact hL
    simp only [s20_17, s20_18, s20_19, s20_20, s20_23, s20_24, true_and, and_true, true_implies, Option.toList_some, Option.toList_none, List.nil_append, List.cons_append, List.map_nil, List.map_cons, List.sum_nil, List.sum_cons, Nat.zero_le, ab_nl_n, ab_nl_i, ab_nl_r, ab_nl_0, ab_cat_i, ab_cat_r, ab_cat_l, Nat.reduceAdd, Nat.reduceLeDiff, Nat.add_zero, Nat.zero_add, reduceIte, List.getElem?_cons_succ, List.getElem?_cons_zero, List.length_cons, List.length_nil, List.set_cons_zero, List.set_cons_succ, true_or, or_true, Classical.not_not, not_true_eq_false, not_false_eq_true, ab_01r, ab_01z, ab_01n, false_implies, ab_tt, Nat.reduceLT, Nat.reduceEqDiff, Int.reduceNeg, Int.reduceLT, Int.reduceLE, Int.add_zero, Int.zero_add, List.append_nil, Int.reduceEq, ab_sum1, ab_ri_0, ab_ri_1, ab_ri_2, ab_ri_3, ab_ri_4, ab_ri_5, ab_ri_6, ab_ri_7, ab_ri_8, ab_ri_12, ab_ri_30, ab_ri_60, ab_ri_100, ab_ri_101, ab_ri_127, ab_ri_m1, ab_ri_m2, ab_ri_m3, ab_ri_m4, ab_ri_m5, ab_ri_m11, ab_ri_m13, ab_ri_m14, ab_ri_10, ab_fd, k1, Nat.reduceLeDiff]
    refine s20_25 ⟨h6, by decide, by decide, ?_⟩
    simp only [ab_cp, h2, k3, true_and, and_true, true_implies, Option.toList_some, Option.toList_none, List.nil_append, List.cons_append, List.map_nil, List.map_cons, List.sum_nil, List.sum_cons, Nat.zero_le, ab_nl_n, ab_nl_i, ab_nl_r, ab_nl_0, ab_cat_i, ab_cat_r, ab_cat_l, Nat.reduceAdd, Nat.reduceLeDiff, Nat.add_zero, Nat.zero_add, reduceIte, List.getElem?_cons_succ, List.getElem?_cons_zero, List.length_cons, List.length_nil, List.set_cons_zero, List.set_cons_succ, true_or, or_true, Classical.not_not, not_true_eq_false, not_false_eq_true, ab_01r, ab_01z, ab_01n, false_implies, ab_tt, Nat.reduceLT, Nat.reduceEqDiff, Int.reduceNeg, Int.reduceLT, Int.reduceLE, Int.add_zero, Int.zero_add, List.append_nil, Int.reduceEq, ab_sum1, ab_ri_0, ab_ri_1, ab_ri_2, ab_ri_3, ab_ri_4, ab_ri_5, ab_ri_6, ab_ri_7, ab_ri_8, ab_ri_12, ab_ri_30, ab_ri_60, ab_ri_100, ab_ri_101, ab_ri_127, ab_ri_m1, ab_ri_m2, ab_ri_m3, ab_ri_m4, ab_ri_m5, ab_ri_m11, ab_ri_m13, ab_ri_m14, ab_ri_10, ab_cpy0]
    have e1 : ab_hs (ab_hs h 40 (ab_ia 4 (ab_fi L B 0 4))) 33 (ab_ld 34 40 41 42 43 44 u) = ab_bh h u (ab_fi L B 0 4) A F := by
      unfold ab_bh
      rw [ab_hs_id (h := ab_hs (ab_hs h 40 (ab_ia 4 (ab_fi L B 0 4))) 33 (ab_ld 34 40 41 42 43 44 u)) (a := 41) ((ab_hs_ne (by decide)).trans ((ab_hs_ne (by decide)).trans k4)), ab_hs_id (a := 42) ((ab_hs_ne (by decide)).trans ((ab_hs_ne (by decide)).trans k5))]
    have r := sp_rebuild (la := la) hs k2 hL' hu k7 k8 (n := n) (Q := Q) (fun A' F' hA' hF' hb => q _ (fun a ha => ab_bh_o (by omega) (by omega) (by omega) (by omega)) ⟨ab_fi L B 0 4, A', F', Mv, u, ⟨ab_bh_33, ab_bh_knd k2, ab_bh_40, ab_bh_41, ab_bh_42, (ab_bh_o (by decide) (by decide) (by decide) (by decide)).trans k6, hA', hF'⟩, ⟨M, g, R, C, Fo, P, (ab_bh_o (by decide) (by decide) (by decide) (by decide)).trans g1, (ab_bh_o (by decide) (by decide) (by decide) (by decide)).trans g2, (ab_bh_o (by decide) (by decide) (by decide) (by decide)).trans g3, g4⟩, ab_bt_cg hcg hb, hb, hu.2, by omega, fun j j0 j4 => by rw [hcg j j0 j4]; exact hL4 j j0 j4⟩)
    simp only [s20_28, s20_29, s20_30, true_and, and_true, true_implies, Option.toList_some, Option.toList_none, List.nil_append, List.cons_append, List.map_nil, List.map_cons, List.sum_nil, List.sum_cons, Nat.zero_le, ab_nl_n, ab_nl_i, ab_nl_r, ab_nl_0, ab_cat_i, ab_cat_r, ab_cat_l, Nat.reduceAdd, Nat.reduceLeDiff, Nat.add_zero, Nat.zero_add, reduceIte, List.getElem?_cons_succ, List.getElem?_cons_zero, List.length_cons, List.length_nil, List.set_cons_zero, List.set_cons_succ, true_or, or_true, Classical.not_not, not_true_eq_false, not_false_eq_true, ab_01r, ab_01z, ab_01n, false_implies, ab_tt, Nat.reduceLT, Nat.reduceEqDiff, Int.reduceNeg, Int.reduceLT, Int.reduceLE, Int.add_zero, Int.zero_add, List.append_nil, Int.reduceEq, ab_sum1, ab_ri_0, ab_ri_1, ab_ri_2, ab_ri_3, ab_ri_4, ab_ri_5, ab_ri_6, ab_ri_7, ab_ri_8, ab_ri_12, ab_ri_30, ab_ri_60, ab_ri_100, ab_ri_101, ab_ri_127, ab_ri_m1, ab_ri_m2, ab_ri_m3, ab_ri_m4, ab_ri_m5, ab_ri_m11, ab_ri_m13, ab_ri_m14, ab_ri_10, ab_fs, ab_fit, ab_tyf, tyX3, ab_hs_ne (show 33 ≠ 40 by decide), k1, Nat.reduceLeDiff]
    rw [e1]
    exact ⟨by omega, by omega, r⟩
  have hur : ab_inR u = True := eq_true (by omega)
  have htr : ab_inR top = True := eq_true (by omega)
  by_cases c : top < u
  · simp only [s20_0, s20_1, s20_2, s20_5, true_and, and_true, true_implies, Option.toList_some, Option.toList_none, List.nil_append, List.cons_append, List.map_nil, List.map_cons, List.sum_nil, List.sum_cons, Nat.zero_le, ab_nl_n, ab_nl_i, ab_nl_r, ab_nl_0, ab_cat_i, ab_cat_r, ab_cat_l, Nat.reduceAdd, Nat.reduceLeDiff, Nat.add_zero, Nat.zero_add, reduceIte, List.getElem?_cons_succ, List.getElem?_cons_zero, List.length_cons, List.length_nil, List.set_cons_zero, List.set_cons_succ, true_or, or_true, Classical.not_not, not_true_eq_false, not_false_eq_true, ab_01r, ab_01z, ab_01n, false_implies, ab_tt, Nat.reduceLT, Nat.reduceEqDiff, Int.reduceNeg, Int.reduceLT, Int.reduceLE, Int.add_zero, Int.zero_add, List.append_nil, Int.reduceEq, ab_sum1, ab_ri_0, ab_ri_1, ab_ri_2, ab_ri_3, ab_ri_4, ab_ri_5, ab_ri_6, ab_ri_7, ab_ri_8, ab_ri_12, ab_ri_30, ab_ri_60, ab_ri_100, ab_ri_101, ab_ri_127, ab_ri_m1, ab_ri_m2, ab_ri_m3, ab_ri_m4, ab_ri_m5, ab_ri_m11, ab_ri_m13, ab_ri_m14, ab_ri_10, ab_fd, k1, c, hur, htr, again, Nat.reduceLeDiff]
  · simp only [s20_0, s20_1, s20_2, s20_5, s20_8, s20_9, s20_10, true_and, and_true, true_implies, Option.toList_some, Option.toList_none, List.nil_append, List.cons_append, List.map_nil, List.map_cons, List.sum_nil, List.sum_cons, Nat.zero_le, ab_nl_n, ab_nl_i, ab_nl_r, ab_nl_0, ab_cat_i, ab_cat_r, ab_cat_l, Nat.reduceAdd, Nat.reduceLeDiff, Nat.add_zero, Nat.zero_add, reduceIte, List.getElem?_cons_succ, List.getElem?_cons_zero, List.length_cons, List.length_nil, List.set_cons_zero, List.set_cons_succ, true_or, or_true, Classical.not_not, not_true_eq_false, not_false_eq_true, ab_01r, ab_01z, ab_01n, false_implies, ab_tt, Nat.reduceLT, Nat.reduceEqDiff, Int.reduceNeg, Int.reduceLT, Int.reduceLE, Int.add_zero, Int.zero_add, List.append_nil, Int.reduceEq, ab_sum1, ab_ri_0, ab_ri_1, ab_ri_2, ab_ri_3, ab_ri_4, ab_ri_5, ab_ri_6, ab_ri_7, ab_ri_8, ab_ri_12, ab_ri_30, ab_ri_60, ab_ri_100, ab_ri_101, ab_ri_127, ab_ri_m1, ab_ri_m2, ab_ri_m3, ab_ri_m4, ab_ri_m5, ab_ri_m11, ab_ri_m13, ab_ri_m14, ab_ri_10, ab_fd, ab_vc, ab_sv_3_54, ab_sv_3_67, ab_sv_3_71, k1, c, hur, htr, Nat.reduceLeDiff]
    refine sp_isBuilt (by decide) (by decide) h6 k1 k3 h2 hB hL4 (fun he => ?_) (fun _ => ?_)
    · have q := q h (fun _ _ => rfl) ⟨B, A, F, Mv, top, ⟨k1, k2, k3, k4, k5, k6, k7, k8⟩, ⟨M, g, R, C, Fo, P, g1, g2, g3, g4⟩, ab_bt_cg he (ab_bt_le (by omega) hbt), hbt, ht5, ht1, hB⟩
      simp only [s20_13, s20_16, true_and, and_true, true_implies, Option.toList_some, Option.toList_none, List.nil_append, List.cons_append, List.map_nil, List.map_cons, List.sum_nil, List.sum_cons, Nat.zero_le, ab_nl_n, ab_nl_i, ab_nl_r, ab_nl_0, ab_cat_i, ab_cat_r, ab_cat_l, Nat.reduceAdd, Nat.reduceLeDiff, Nat.add_zero, Nat.zero_add, reduceIte, List.getElem?_cons_succ, List.getElem?_cons_zero, List.length_cons, List.length_nil, List.set_cons_zero, List.set_cons_succ, true_or, or_true, Classical.not_not, not_true_eq_false, not_false_eq_true, ab_01r, ab_01z, ab_01n, false_implies, ab_tt, Nat.reduceLT, Nat.reduceEqDiff, Int.reduceNeg, Int.reduceLT, Int.reduceLE, Int.add_zero, Int.zero_add, List.append_nil, Int.reduceEq, ab_sum1, ab_ri_0, ab_ri_1, ab_ri_2, ab_ri_3, ab_ri_4, ab_ri_5, ab_ri_6, ab_ri_7, ab_ri_8, ab_ri_12, ab_ri_30, ab_ri_60, ab_ri_100, ab_ri_101, ab_ri_127, ab_ri_m1, ab_ri_m2, ab_ri_m3, ab_ri_m4, ab_ri_m5, ab_ri_m11, ab_ri_m13, ab_ri_m14, ab_ri_10, q] <;> omega
    · simp only [s20_13, true_and, and_true, true_implies, Option.toList_some, Option.toList_none, List.nil_append, List.cons_append, List.map_nil, List.map_cons, List.sum_nil, List.sum_cons, Nat.zero_le, ab_nl_n, ab_nl_i, ab_nl_r, ab_nl_0, ab_cat_i, ab_cat_r, ab_cat_l, Nat.reduceAdd, Nat.reduceLeDiff, Nat.add_zero, Nat.zero_add, reduceIte, List.getElem?_cons_succ, List.getElem?_cons_zero, List.length_cons, List.length_nil, List.set_cons_zero, List.set_cons_succ, true_or, or_true, Classical.not_not, not_true_eq_false, not_false_eq_true, ab_01r, ab_01z, ab_01n, false_implies, ab_tt, Nat.reduceLT, Nat.reduceEqDiff, Int.reduceNeg, Int.reduceLT, Int.reduceLE, Int.add_zero, Int.zero_add, List.append_nil, Int.reduceEq, ab_sum1, ab_ri_0, ab_ri_1, ab_ri_2, ab_ri_3, ab_ri_4, ab_ri_5, ab_ri_6, ab_ri_7, ab_ri_8, ab_ri_12, ab_ri_30, ab_ri_60, ab_ri_100, ab_ri_101, ab_ri_127, ab_ri_m1, ab_ri_m2, ab_ri_m3, ab_ri_m4, ab_ri_m5, ab_ri_m11, ab_ri_m13, ab_ri_m14, ab_ri_10, again] <;> omega
end BH
