/-! ===== the call read ===== -/
section JH
variable {h : ab_H} {n : Nat} {Q : ab_Q} {X : ab_X} {Y : Int → Int64}
abbrev ab_frt (h h' : ab_H) : Prop := ∀ a, (a < 33 ∨ (46 < a ∧ a < 52) ∨ (53 < a ∧ a < 58) ∨ 61 < a) → h' a = h a
theorem ab_stat_frt {h h' : ab_H} (e2 : ab_frt h h') (hs : ab_stat h) : ab_stat h' := ⟨(e2 1 (by decide)).trans hs.1, (e2 2 (by decide)).trans hs.2.1, (e2 3 (by decide)).trans hs.2.2.1, (e2 4 (by decide)).trans hs.2.2.2.1, (e2 5 (by decide)).trans hs.2.2.2.2⟩
theorem sp_addTerm {hi lv s p nu mc : Int} {L g sg : Int → Int} (hs : ab_stat h) (hl : ab_lad h L 5) (h6 : h 6 = some (ab_mn hi)) (ht : ∃ t g, h 58 = some (ab_vec 59 t) ∧ h 59 = some (ab_ia 7 g)) (u1 : h 60 = some (ab_vec 61 lv)) (u2 : h 61 = some (ab_ia 7 sg)) (t1 : h 52 = some (ab_txt 54 s p nu 53 mc)) (t2 : h 53 = some (ab_ia 30 g)) (hmc : 0 ≤ mc ∧ mc ≤ 30) (hg : ∀ j, 0 ≤ j → j < mc → -5 ≤ g j ∧ g j ≤ 5) (hnu : 0 ≤ nu ∧ nu ≤ 100) (hsg : ∀ i, 0 ≤ i → i < 7 → 0 ≤ sg i ∧ sg i ≤ 100)
    (q : ∀ h' sg', (∀ a, (a < 33 ∨ (46 < a ∧ a < 58) ∨ a = 60 ∨ 61 < a) → h' a = h a) → ab_lad h' L 5 → (∃ t g, h' 58 = some (ab_vec 59 t) ∧ h' 59 = some (ab_ia 7 g)) → h' 61 = some (ab_ia 7 sg') → (∀ i, 0 ≤ i → i < 7 → sg' i = ab_sma (ab_AT L) (nu, mc, g) sg i) → Q none h' n) : ab_G 114 0 [some (vr 6), none, none] [] h n (0, 0) Q := by
  obtain ⟨t, gt, b1, b2⟩ := ht
  simp only [s114_0, s114_1, s114_4, s114_5, s114_6, true_and, and_true, true_implies, Option.toList_some, Option.toList_none, List.nil_append, List.cons_append, List.map_nil, List.map_cons, List.sum_nil, List.sum_cons, Nat.zero_le, ab_nl_n, ab_nl_i, ab_nl_r, ab_nl_0, ab_cat_i, ab_cat_r, ab_cat_l, Nat.reduceAdd, Nat.reduceLeDiff, Nat.add_zero, Nat.zero_add, reduceIte, List.getElem?_cons_succ, List.getElem?_cons_zero, List.length_cons, List.length_nil, List.set_cons_zero, List.set_cons_succ, true_or, or_true, Classical.not_not, not_true_eq_false, not_false_eq_true, ab_01r, ab_01z, ab_01n, false_implies, ab_tt, Nat.reduceLT, Nat.reduceEqDiff, Int.reduceNeg, Int.reduceLT, Int.reduceLE, Int.add_zero, Int.zero_add, List.append_nil, Int.reduceEq, ab_sum1, ab_ri_0, ab_ri_1, ab_ri_2, ab_ri_3, ab_ri_4, ab_ri_5, ab_ri_6, ab_ri_7, ab_ri_8, ab_ri_12, ab_ri_30, ab_ri_60, ab_ri_100, ab_ri_101, ab_ri_127, ab_ri_m1, ab_ri_m2, ab_ri_m3, ab_ri_m4, ab_ri_m5, ab_ri_m11, ab_ri_m13, ab_ri_m14, ab_ri_10, ab_fd, ab_vc, ab_sv_11_187, ab_sv_11_200, ab_sv_11_204, h6, b1, Nat.reduceLeDiff]
  refine sp_becomeBasis (by decide) (by decide) (by decide) b1 b2 ⟨by decide, by decide⟩ ?_
  have o6 : ∀ c d, ab_hs (ab_hs h 58 c) 59 d 6 = some (ab_mn hi) := fun c d => (ab_hs_ne (by decide)).trans ((ab_hs_ne (by decide)).trans h6)
  have o52 : ∀ c d, ab_hs (ab_hs h 58 c) 59 d 52 = some (ab_txt 54 s p nu 53 mc) := fun c d => (ab_hs_ne (by decide)).trans ((ab_hs_ne (by decide)).trans t1)
  simp only [s114_9, s114_10, s114_13, s114_16, s114_17, s114_18, true_and, and_true, true_implies, Option.toList_some, Option.toList_none, List.nil_append, List.cons_append, List.map_nil, List.map_cons, List.sum_nil, List.sum_cons, Nat.zero_le, ab_nl_n, ab_nl_i, ab_nl_r, ab_nl_0, ab_cat_i, ab_cat_r, ab_cat_l, Nat.reduceAdd, Nat.reduceLeDiff, Nat.add_zero, Nat.zero_add, reduceIte, List.getElem?_cons_succ, List.getElem?_cons_zero, List.length_cons, List.length_nil, List.set_cons_zero, List.set_cons_succ, true_or, or_true, Classical.not_not, not_true_eq_false, not_false_eq_true, ab_01r, ab_01z, ab_01n, false_implies, ab_tt, Nat.reduceLT, Nat.reduceEqDiff, Int.reduceNeg, Int.reduceLT, Int.reduceLE, Int.add_zero, Int.zero_add, List.append_nil, Int.reduceEq, ab_sum1, ab_ri_0, ab_ri_1, ab_ri_2, ab_ri_3, ab_ri_4, ab_ri_5, ab_ri_6, ab_ri_7, ab_ri_8, ab_ri_12, ab_ri_30, ab_ri_60, ab_ri_100, ab_ri_101, ab_ri_127, ab_ri_m1, ab_ri_m2, ab_ri_m3, ab_ri_m4, ab_ri_m5, ab_ri_m11, ab_ri_m13, ab_ri_m14, ab_ri_10, ab_fd, o6, o52, Nat.reduceLeDiff]
  have key : ∀ k : Nat, (k : Int) ≤ mc → ∀ h' hgt f ff (l2 : Option ab_V), ab_nl [l2] = true → (∀ a, (a < 33 ∨ (46 < a ∧ a < 58) ∨ a = 60 ∨ a = 61 ∨ 61 < a) → h' a = h a) → ab_lad h' L 5 → h' 58 = some (ab_vec 59 hgt) → h' 59 = some (ab_ia 7 ff) → (∀ i, 0 ≤ i → i < 7 → ff i = f i ∧ 0 ≤ f i ∧ f i ≤ 100) → (0 ≤ hgt ∧ hgt ≤ 5) → (∀ h' sg', (∀ a, (a < 33 ∨ (46 < a ∧ a < 58) ∨ a = 60 ∨ 61 < a) → h' a = h a) → ab_lad h' L 5 → (∃ t g, h' 58 = some (ab_vec 59 t) ∧ h' 59 = some (ab_ia 7 g)) → h' 61 = some (ab_ia 7 sg') → (∀ i, 0 ≤ i → i < 7 → sg' i = (match ab_adt (ab_AT L) g k hgt f with | some z => fun i => (sg i + nu * z.2 i) % 101 | none => sg) i) → Q none h' n) → ab_G 114 19 [some (vr 6), some (vi ((k : Int) - 1)), l2] [] h' n (0, 0) Q := by
    intro k
    induction k with
    | zero =>
      intro _ h1 hgt f ff l2 z2 e1 lad x1 x2 hf hg0 q
      have y6 := (e1 6 (by decide)).trans h6
      have y60 := (e1 60 (by decide)).trans u1
      have y61 := (e1 61 (by decide)).trans u2
      have y52 := (e1 52 (by decide)).trans t1
      have c1 : ((0 : Nat) : Int) - 1 < 0 := by omega
      rw [s114_19]
      simp only [s114_20, s114_67, s114_68, s114_71, s114_72, s114_75, s114_76, s114_79, s114_82, true_and, and_true, true_implies, Option.toList_some, Option.toList_none, List.nil_append, List.cons_append, List.map_nil, List.map_cons, List.sum_nil, List.sum_cons, Nat.zero_le, ab_nl_n, ab_nl_i, ab_nl_r, ab_nl_0, ab_cat_i, ab_cat_r, ab_cat_l, Nat.reduceAdd, Nat.reduceLeDiff, Nat.add_zero, Nat.zero_add, reduceIte, List.getElem?_cons_succ, List.getElem?_cons_zero, List.length_cons, List.length_nil, List.set_cons_zero, List.set_cons_succ, true_or, or_true, Classical.not_not, not_true_eq_false, not_false_eq_true, ab_01r, ab_01z, ab_01n, false_implies, ab_tt, Nat.reduceLT, Nat.reduceEqDiff, Int.reduceNeg, Int.reduceLT, Int.reduceLE, Int.add_zero, Int.zero_add, List.append_nil, Int.reduceEq, ab_sum1, ab_ri_0, ab_ri_1, ab_ri_2, ab_ri_3, ab_ri_4, ab_ri_5, ab_ri_6, ab_ri_7, ab_ri_8, ab_ri_12, ab_ri_30, ab_ri_60, ab_ri_100, ab_ri_101, ab_ri_127, ab_ri_m1, ab_ri_m2, ab_ri_m3, ab_ri_m4, ab_ri_m5, ab_ri_m11, ab_ri_m13, ab_ri_m14, ab_ri_10, ab_fd, ab_vc, ab_sv_11_187, ab_sv_11_200, ab_sv_11_204, c1, y6, y60, y52, Nat.reduceLeDiff]
      (repeat refine And.intro (by omega) ?_)
      refine sp_addTimes (by decide) (by decide) (by decide) (by decide) (by decide) (by decide) y60 y61 x1 x2 hnu hsg (fun i i0 i7 => by have := hf i i0 i7; rw [this.1]; exact this.2) ?_
      have q := q (ab_hs h1 61 (ab_ia 7 (ab_fi (fun i => (sg i + nu * ff i) % 101) sg 0 7))) _ (fun a ha => (ab_hs_ne (by omega)).trans (e1 a (by omega))) (ab_lad_fr (fun a _ _ => ab_hs_ne (by omega)) lad) ⟨hgt, ff, (ab_hs_ne (by decide)).trans x1, (ab_hs_ne (by decide)).trans x2⟩ ab_hs_self (fun i i0 i7 => by
        rw [ab_fi_lo ⟨i0, i7⟩, (hf i i0 i7).1]
        rfl)
      simp only [s114_85, true_and, and_true, true_implies, Option.toList_some, Option.toList_none, List.nil_append, List.cons_append, List.map_nil, List.map_cons, List.sum_nil, List.sum_cons, Nat.zero_le, ab_nl_n, ab_nl_i, ab_nl_r, ab_nl_0, ab_cat_i, ab_cat_r, ab_cat_l, Nat.reduceAdd, Nat.reduceLeDiff, Nat.add_zero, Nat.zero_add, reduceIte, List.getElem?_cons_succ, List.getElem?_cons_zero, List.length_cons, List.length_nil, List.set_cons_zero, List.set_cons_succ, true_or, or_true, Classical.not_not, not_true_eq_false, not_false_eq_true, ab_01r, ab_01z, ab_01n, false_implies, ab_tt, Nat.reduceLT, Nat.reduceEqDiff, Int.reduceNeg, Int.reduceLT, Int.reduceLE, Int.add_zero, Int.zero_add, List.append_nil, Int.reduceEq, ab_sum1, ab_ri_0, ab_ri_1, ab_ri_2, ab_ri_3, ab_ri_4, ab_ri_5, ab_ri_6, ab_ri_7, ab_ri_8, ab_ri_12, ab_ri_30, ab_ri_60, ab_ri_100, ab_ri_101, ab_ri_127, ab_ri_m1, ab_ri_m2, ab_ri_m3, ab_ri_m4, ab_ri_m5, ab_ri_m11, ab_ri_m13, ab_ri_m14, ab_ri_10, q]
    | succ k ih =>
      intro hk h1 hgt f ff l2 z2 e1 lad x1 x2 hf hg0 q
      have ek : ((k + 1 : Nat) : Int) - 1 = k := by omega
      have y6 := (e1 6 (by decide)).trans h6
      have y52 := (e1 52 (by decide)).trans t1
      have y53 := (e1 53 (by decide)).trans t2
      have c1 : ¬ (k : Int) < 0 := by omega
      have k0 : (0 : Int) ≤ k := by omega
      have k30 : (k : Int) < ((30 : Nat) : Int) := by omega
      have hgk := hg k k0 (by omega)
      have hir : ab_inR (hgt - g k) := by omega
      rw [ek, s114_19]
      simp only [ab_adt] at q
      by_cases c2 : 0 ≤ hgt - g k ∧ hgt - g k ≤ 5
      · rw [if_pos c2] at q
        obtain ⟨B, A, F, Mv, top, ⟨d1, -⟩, -⟩ := id lad
        simp only [s114_20, s114_23, s114_24, s114_27, s114_30, s114_31, s114_32, s114_33, s114_34, s114_37, s114_40, s114_41, s114_42, s114_45, s114_48, s114_49, s114_50, s114_53, s114_54, s114_57, s114_58, true_and, and_true, true_implies, Option.toList_some, Option.toList_none, List.nil_append, List.cons_append, List.map_nil, List.map_cons, List.sum_nil, List.sum_cons, Nat.zero_le, ab_nl_n, ab_nl_i, ab_nl_r, ab_nl_0, ab_cat_i, ab_cat_r, ab_cat_l, Nat.reduceAdd, Nat.reduceLeDiff, Nat.add_zero, Nat.zero_add, reduceIte, List.getElem?_cons_succ, List.getElem?_cons_zero, List.length_cons, List.length_nil, List.set_cons_zero, List.set_cons_succ, true_or, or_true, Classical.not_not, not_true_eq_false, not_false_eq_true, ab_01r, ab_01z, ab_01n, false_implies, ab_tt, Nat.reduceLT, Nat.reduceEqDiff, Int.reduceNeg, Int.reduceLT, Int.reduceLE, Int.add_zero, Int.zero_add, List.append_nil, Int.reduceEq, ab_sum1, ab_ri_0, ab_ri_1, ab_ri_2, ab_ri_3, ab_ri_4, ab_ri_5, ab_ri_6, ab_ri_7, ab_ri_8, ab_ri_12, ab_ri_30, ab_ri_60, ab_ri_100, ab_ri_101, ab_ri_127, ab_ri_m1, ab_ri_m2, ab_ri_m3, ab_ri_m4, ab_ri_m5, ab_ri_m11, ab_ri_m13, ab_ri_m14, ab_ri_10, ab_fd, ab_ai, ab_vc, ab_sv_11_187, ab_sv_11_200, ab_sv_11_204, sp_isLevel hir, ab_01n, ab_01z, c1, k0, k30, c2, y6, y52, y53, x1, d1, z2, Nat.reduceLeDiff]
        (repeat refine And.intro (by omega) ?_)
        have hs1 : ab_stat h1 := ⟨(e1 1 (by decide)).trans hs.1, (e1 2 (by decide)).trans hs.2.1, (e1 3 (by decide)).trans hs.2.2.1, (e1 4 (by decide)).trans hs.2.2.2.1, (e1 5 (by decide)).trans hs.2.2.2.2⟩
        refine sp_move hs1 lad ⟨by decide, by decide⟩ ⟨by decide, by decide⟩ (by decide) x1 x2 hg0 c2 (Int.le_refl 5) (fun i i0 i7 => by have := hf i i0 i7; rw [this.1]; exact this.2) fun h2 e2 w1 w2 lad2 => ?_
        have ih := ih (by omega) h2 (hgt - g k) (ab_mv (ab_AT L) f hgt (hgt - g k)) _ (some (vi (g k))) rfl (fun a ha => (e2 a (by omega) (by omega) (by omega)).trans (e1 a ha)) lad2 w1 w2 (fun j j0 j7 => ⟨by rw [ab_fi_lo ⟨j0, j7⟩, ab_mv_cg hg0 (fun i i0 i7 => (hf i i0 i7).1)], ab_mv_r⟩) c2 q
        have em : (k : Int) + -1 = (k : Int) - 1 := rfl
        simp only [s114_61, s114_64, true_and, and_true, true_implies, Option.toList_some, Option.toList_none, List.nil_append, List.cons_append, List.map_nil, List.map_cons, List.sum_nil, List.sum_cons, Nat.zero_le, ab_nl_n, ab_nl_i, ab_nl_r, ab_nl_0, ab_cat_i, ab_cat_r, ab_cat_l, Nat.reduceAdd, Nat.reduceLeDiff, Nat.add_zero, Nat.zero_add, reduceIte, List.getElem?_cons_succ, List.getElem?_cons_zero, List.length_cons, List.length_nil, List.set_cons_zero, List.set_cons_succ, true_or, or_true, Classical.not_not, not_true_eq_false, not_false_eq_true, ab_01r, ab_01z, ab_01n, false_implies, ab_tt, Nat.reduceLT, Nat.reduceEqDiff, Int.reduceNeg, Int.reduceLT, Int.reduceLE, Int.add_zero, Int.zero_add, List.append_nil, Int.reduceEq, ab_sum1, ab_ri_0, ab_ri_1, ab_ri_2, ab_ri_3, ab_ri_4, ab_ri_5, ab_ri_6, ab_ri_7, ab_ri_8, ab_ri_12, ab_ri_30, ab_ri_60, ab_ri_100, ab_ri_101, ab_ri_127, ab_ri_m1, ab_ri_m2, ab_ri_m3, ab_ri_m4, ab_ri_m5, ab_ri_m11, ab_ri_m13, ab_ri_m14, ab_ri_10, em, ih]
      · rw [if_neg c2] at q
        have q := q h1 sg (fun a ha => e1 a (by omega)) lad ⟨_, _, x1, x2⟩ ((e1 61 (by decide)).trans u2) (fun i _ _ => rfl)
        simp only [s114_20, s114_23, s114_24, s114_27, s114_30, s114_31, s114_32, s114_33, s114_34, s114_37, s114_40, s114_41, s114_42, s114_45, s114_48, true_and, and_true, true_implies, Option.toList_some, Option.toList_none, List.nil_append, List.cons_append, List.map_nil, List.map_cons, List.sum_nil, List.sum_cons, Nat.zero_le, ab_nl_n, ab_nl_i, ab_nl_r, ab_nl_0, ab_cat_i, ab_cat_r, ab_cat_l, Nat.reduceAdd, Nat.reduceLeDiff, Nat.add_zero, Nat.zero_add, reduceIte, List.getElem?_cons_succ, List.getElem?_cons_zero, List.length_cons, List.length_nil, List.set_cons_zero, List.set_cons_succ, true_or, or_true, Classical.not_not, not_true_eq_false, not_false_eq_true, ab_01r, ab_01z, ab_01n, false_implies, ab_tt, Nat.reduceLT, Nat.reduceEqDiff, Int.reduceNeg, Int.reduceLT, Int.reduceLE, Int.add_zero, Int.zero_add, List.append_nil, Int.reduceEq, ab_sum1, ab_ri_0, ab_ri_1, ab_ri_2, ab_ri_3, ab_ri_4, ab_ri_5, ab_ri_6, ab_ri_7, ab_ri_8, ab_ri_12, ab_ri_30, ab_ri_60, ab_ri_100, ab_ri_101, ab_ri_127, ab_ri_m1, ab_ri_m2, ab_ri_m3, ab_ri_m4, ab_ri_m5, ab_ri_m11, ab_ri_m13, ab_ri_m14, ab_ri_10, ab_fd, ab_ai, sp_isLevel hir, ab_01n, ab_01z, c1, k0, k30, c2, y6, y52, y53, x1, z2, Nat.reduceLeDiff, q] <;> omega
  have := key mc.toNat (by omega) (ab_hs (ab_hs h 58 (ab_vec 59 0)) 59 (ab_ia 7 (ab_ui (ab_fi (fun _ => 0) gt 0 7) 0 1))) 0 (ab_un1 0) _ none rfl (fun a ha => (ab_hs_ne (by omega)).trans (ab_hs_ne (by omega))) (ab_lad_fr (fun a _ _ => (ab_hs_ne (by omega)).trans (ab_hs_ne (by omega))) hl) ((ab_hs_ne (by decide)).trans ab_hs_self) ab_hs_self (fun j j0 j7 => by
    unfold ab_un1
    by_cases e : j = 0
    · rw [e, ab_ui_at, if_pos rfl]; decide
    · rw [ab_ui_ne e, if_neg e, ab_fi_lo ⟨j0, j7⟩]; decide) ⟨by decide, by decide⟩ q
  rw [Int.toNat_of_nonneg hmc.1] at this
  exact this
theorem ab_sma_cg {T : Int → Int} {x y : ab_TM} {sm sm' : Int → Int} (h1 : x.1 = y.1) (h2 : x.2.1 = y.2.1) (h3 : ∀ j, 0 ≤ j → j < x.2.1 → x.2.2 j = y.2.2 j) {i : Int} (hm : sm i = sm' i) : ab_sma T x sm i = ab_sma T y sm' i := by
  unfold ab_sma
  have e := ab_adt_cg (T := T) (g := x.2.2) (g' := y.2.2) x.2.1.toNat 0 (ab_un1 0) (fun j j0 j1 => h3 j j0 (by omega))
  rw [e, h1, h2]
  generalize ab_adt T y.2.2 y.2.1.toNat 0 (ab_un1 0) = o
  cases o with
  | some z =>
    show (sm i + _) % 101 = (sm' i + _) % 101
    rw [hm]
  | none => exact hm
theorem ab_sma_r {T : Int → Int} {x : ab_TM} {sm : Int → Int} {i : Int} (hm : 0 ≤ sm i ∧ sm i ≤ 100) : 0 ≤ ab_sma T x sm i ∧ ab_sma T x sm i ≤ 100 := by
  unfold ab_sma
  generalize ab_adt T x.2.2 x.2.1.toNat 0 (ab_un1 0) = o
  cases o with
  | some z =>
    show 0 ≤ (sm i + x.1 * z.2 i) % 101 ∧ (sm i + x.1 * z.2 i) % 101 ≤ 100
    omega
  | none => exact hm
theorem ab_lvt_cg {g g' : Int → Int} {mc : Int} (h0 : 0 ≤ mc) (h : ∀ j, 0 ≤ j → j < mc → g j = g' j) : ab_lvt g mc = ab_lvt g' mc := by
  have e : ∀ k : Nat, (k : Int) ≤ mc → ab_tog g mc k = ab_tog g' mc k := fun k hk => ab_tog_cg k hk h
  unfold ab_lvt
  rw [e mc.toNat (by omega)]
  by_cases c : ∀ j : Nat, j < mc.toNat + 1 → -5 ≤ ab_tog g mc j
  · rw [if_pos c, if_pos (fun j hj => by rw [← e j (by omega)]; exact c j hj)]
  · rw [if_neg c, if_neg (fun z => c (fun j hj => by rw [e j (by omega)]; exact z j hj))]
theorem sp_lvt {a b m : Nat} {s p nu mc : Int} {g : Int → Int} (h6 : 6 ≤ a) (hm6 : 6 ≤ m) (h1 : h a = some (ab_txt b s p nu m mc)) (h2 : h m = some (ab_ia 30 g)) (hc : 0 ≤ mc ∧ mc ≤ 30) (hg : ∀ i, 0 ≤ i → i < mc → -5 ≤ g i ∧ g i ≤ 5) (q : Q (some (vi (ab_lvt g mc))) h n) : ab_G 51 0 [some (vr a), none, none] [] h n (0, 0) Q := by
  unfold ab_lvt at q
  refine sp_termLevel h6 hm6 h1 h2 hc (fun i i0 i1 => by have := hg i i0 i1; omega) (fun k => ?_) (fun k k0 k1 k2 => ?_)
  · rw [if_pos (fun j hj => k j (by omega))] at q
    exact q
  · rw [if_neg (fun z => by have := z (k + 1) (by omega); omega)] at q
    exact q
theorem ab_lvt_r {g : Int → Int} {mc : Int} : -1 ≤ ab_lvt g mc ∧ ab_lvt g mc ≤ 5 := by
  unfold ab_lvt
  by_cases c : ∀ j : Nat, j < mc.toNat + 1 → -5 ≤ ab_tog g mc j
  · rw [if_pos c]
    have := c mc.toNat (by omega)
    split <;> omega
  · rw [if_neg c]; omega
theorem ab_clt_cg {T : Int → Int} : ∀ (l : List ab_TM) (c lv : Int) (sm sm' : Int → Int), (0 ≤ c) → (0 < c → ∀ i, 0 ≤ i → i < 7 → sm i = sm' i) → (ab_clt T l c lv sm).1 = (ab_clt T l c lv sm').1 ∧ (0 < c ∨ l ≠ [] → ∀ i, 0 ≤ i → i < 7 → 0 ≤ (ab_clt T l c lv sm).1 → (ab_clt T l c lv sm).2 i = (ab_clt T l c lv sm').2 i)
  | [], c, lv, sm, sm', _, h => ⟨rfl, fun z i i0 i7 _ => h (z.elim id (fun e => absurd rfl e)) i i0 i7⟩
  | x :: r, c, lv, sm, sm', c0, h => by
    unfold ab_clt
    by_cases d : ab_lvt x.2.2 x.2.1 < 0 ∨ (0 < c ∧ ab_lvt x.2.2 x.2.1 ≠ lv)
    · rw [if_pos d, if_pos d]
      exact ⟨rfl, fun _ i _ _ z => absurd z (by show ¬ (0 : Int) ≤ -3; decide)⟩
    · rw [if_neg d, if_neg d]
      have ih := ab_clt_cg (T := T) r (c + 1) (ab_lvt x.2.2 x.2.1) (ab_sma T x (if c = 0 then fun _ => 0 else sm)) (ab_sma T x (if c = 0 then fun _ => 0 else sm')) (by omega) (fun _ i i0 i7 => by
        refine ab_sma_cg rfl rfl (fun _ _ _ => rfl) ?_
        by_cases e : c = 0
        · rw [if_pos e, if_pos e]
        · rw [if_neg e, if_neg e]; exact h (by omega) i i0 i7)
      exact ⟨ih.1, fun _ => ih.2 (Or.inl (by omega))⟩
theorem sp_sumOfTerms {hi s p0 nu0 mc0 : Int} {L g0 t : Int → Int} (hs : ab_stat h) (hl : ab_lad h L 5) (h6 : h 6 = some (ab_mn hi)) (hsc : ab_scr h) (t1 : h 52 = some (ab_txt 54 s p0 nu0 53 mc0)) (t2 : h 53 = some (ab_ia 30 g0)) (t3 : h 54 = some (ab_ba 60 t)) (hk : ab_tok t s) (ht : ∀ i, 0 ≤ i → i < s → 0 ≤ t i ∧ t i < 128)
    (q : ∀ h', ab_frt h h' → ab_lad h' L 5 → ab_scr h' → (∃ p nu mc g, h' 52 = some (ab_txt 54 s p nu 53 mc) ∧ h' 53 = some (ab_ia 30 g)) → (0 ≤ (ab_clt (ab_AT L) (ab_tls t s 60 0) 0 (-3) (fun _ => 0)).1 → h' 60 = some (ab_vec 61 (ab_clt (ab_AT L) (ab_tls t s 60 0) 0 (-3) (fun _ => 0)).1) ∧ ∃ sg, h' 61 = some (ab_ia 7 sg) ∧ ∀ i, 0 ≤ i → i < 7 → sg i = (ab_clt (ab_AT L) (ab_tls t s 60 0) 0 (-3) (fun _ => 0)).2 i ∧ 0 ≤ sg i ∧ sg i ≤ 100) → Q (some (vi (ab_clt (ab_AT L) (ab_tls t s 60 0) 0 (-3) (fun _ => 0)).1)) h' n) : ab_G 113 0 [some (vr 6), none, none, none] [] h n (0, 0) Q := by
  simp only [s113_0, s113_2, s113_3, s113_4, s113_7, true_and, and_true, true_implies, Option.toList_some, Option.toList_none, List.nil_append, List.cons_append, List.map_nil, List.map_cons, List.sum_nil, List.sum_cons, Nat.zero_le, ab_nl_n, ab_nl_i, ab_nl_r, ab_nl_0, ab_cat_i, ab_cat_r, ab_cat_l, Nat.reduceAdd, Nat.reduceLeDiff, Nat.add_zero, Nat.zero_add, reduceIte, List.getElem?_cons_succ, List.getElem?_cons_zero, List.length_cons, List.length_nil, List.set_cons_zero, List.set_cons_succ, true_or, or_true, Classical.not_not, not_true_eq_false, not_false_eq_true, ab_01r, ab_01z, ab_01n, false_implies, ab_tt, Nat.reduceLT, Nat.reduceEqDiff, Int.reduceNeg, Int.reduceLT, Int.reduceLE, Int.add_zero, Int.zero_add, List.append_nil, Int.reduceEq, ab_sum1, ab_ri_0, ab_ri_1, ab_ri_2, ab_ri_3, ab_ri_4, ab_ri_5, ab_ri_6, ab_ri_7, ab_ri_8, ab_ri_12, ab_ri_30, ab_ri_60, ab_ri_100, ab_ri_101, ab_ri_127, ab_ri_m1, ab_ri_m2, ab_ri_m3, ab_ri_m4, ab_ri_m5, ab_ri_m11, ab_ri_m13, ab_ri_m14, ab_ri_10, ab_fd, ab_vc, ab_sv_11_264, ab_sv_11_267, ab_sv_11_270, ab_sv_11_273, ab_sv_11_276, h6, t1, Nat.reduceLeDiff]
  refine sp_rewind (by decide) t1 ?_
  simp only [s113_10, s113_11, true_and, and_true, true_implies, Option.toList_some, Option.toList_none, List.nil_append, List.cons_append, List.map_nil, List.map_cons, List.sum_nil, List.sum_cons, Nat.zero_le, ab_nl_n, ab_nl_i, ab_nl_r, ab_nl_0, ab_cat_i, ab_cat_r, ab_cat_l, Nat.reduceAdd, Nat.reduceLeDiff, Nat.add_zero, Nat.zero_add, reduceIte, List.getElem?_cons_succ, List.getElem?_cons_zero, List.length_cons, List.length_nil, List.set_cons_zero, List.set_cons_succ, true_or, or_true, Classical.not_not, not_true_eq_false, not_false_eq_true, ab_01r, ab_01z, ab_01n, false_implies, ab_tt, Nat.reduceLT, Nat.reduceEqDiff, Int.reduceNeg, Int.reduceLT, Int.reduceLE, Int.add_zero, Int.zero_add, List.append_nil, Int.reduceEq, ab_sum1, ab_ri_0, ab_ri_1, ab_ri_2, ab_ri_3, ab_ri_4, ab_ri_5, ab_ri_6, ab_ri_7, ab_ri_8, ab_ri_12, ab_ri_30, ab_ri_60, ab_ri_100, ab_ri_101, ab_ri_127, ab_ri_m1, ab_ri_m2, ab_ri_m3, ab_ri_m4, ab_ri_m5, ab_ri_m11, ab_ri_m13, ab_ri_m14, ab_ri_10]
  have s60 := hk.2.1
  have s0 := hk.1
  have h60 : ab_inR 60 = True := eq_true (by omega)
  have key : ∀ k : Nat, k ≤ 60 → ∀ h' p nu mc g lv sm (l3 : Option ab_V), ab_nl [l3] = true → ab_tbeg t s p → ab_frt h h' → ab_lad h' L 5 → ab_scr h' → h' 52 = some (ab_txt 54 s p nu 53 mc) → h' 53 = some (ab_ia 30 g) → (-3 ≤ lv ∧ lv ≤ 5) → (k < 60 → h' 60 = some (ab_vec 61 lv) ∧ ∃ sg, h' 61 = some (ab_ia 7 sg) ∧ ∀ i, 0 ≤ i → i < 7 → sg i = sm i ∧ 0 ≤ sg i ∧ sg i ≤ 100) → (k = 60 → lv = -3) → (∀ h', ab_frt h h' → ab_lad h' L 5 → ab_scr h' → (∃ p nu mc g, h' 52 = some (ab_txt 54 s p nu 53 mc) ∧ h' 53 = some (ab_ia 30 g)) → (0 ≤ (ab_clt (ab_AT L) (ab_tls t s k p) (60 - k) lv sm).1 → h' 60 = some (ab_vec 61 (ab_clt (ab_AT L) (ab_tls t s k p) (60 - k) lv sm).1) ∧ ∃ sg, h' 61 = some (ab_ia 7 sg) ∧ ∀ i, 0 ≤ i → i < 7 → sg i = (ab_clt (ab_AT L) (ab_tls t s k p) (60 - k) lv sm).2 i ∧ 0 ≤ sg i ∧ sg i ≤ 100) → Q (some (vi (ab_clt (ab_AT L) (ab_tls t s k p) (60 - k) lv sm).1)) h' n) → ab_G 113 12 [some (vr 6), some (vi lv), some (vi (60 - k)), l3] [] h' n (0, 0) Q := by
    intro k
    induction k with
    | zero =>
      intro _ h1 p nu mc g lv sm l3 z3 hp e1 lad scr x1 x2 hlv hsm hfirst q
      have q := q h1 e1 lad scr ⟨_, _, _, _, x1, x2⟩ (fun _ => hsm (by decide))
      have c1 : (60 : Int) ≤ 60 - ((0 : Nat) : Int) := by omega
      have hlr : ab_inR lv = True := eq_true (by omega)
      have e0 : (ab_clt (ab_AT L) (ab_tls t s 0 p) (60 - ((0 : Nat) : Int)) lv sm).1 = lv := rfl
      rw [e0] at q
      rw [s113_12]
      simp only [s113_13, s113_15, s113_76, s113_77, true_and, and_true, true_implies, Option.toList_some, Option.toList_none, List.nil_append, List.cons_append, List.map_nil, List.map_cons, List.sum_nil, List.sum_cons, Nat.zero_le, ab_nl_n, ab_nl_i, ab_nl_r, ab_nl_0, ab_cat_i, ab_cat_r, ab_cat_l, Nat.reduceAdd, Nat.reduceLeDiff, Nat.add_zero, Nat.zero_add, reduceIte, List.getElem?_cons_succ, List.getElem?_cons_zero, List.length_cons, List.length_nil, List.set_cons_zero, List.set_cons_succ, true_or, or_true, Classical.not_not, not_true_eq_false, not_false_eq_true, ab_01r, ab_01z, ab_01n, false_implies, ab_tt, Nat.reduceLT, Nat.reduceEqDiff, Int.reduceNeg, Int.reduceLT, Int.reduceLE, Int.add_zero, Int.zero_add, List.append_nil, Int.reduceEq, ab_sum1, ab_ri_0, ab_ri_1, ab_ri_2, ab_ri_3, ab_ri_4, ab_ri_5, ab_ri_6, ab_ri_7, ab_ri_8, ab_ri_12, ab_ri_30, ab_ri_60, ab_ri_100, ab_ri_101, ab_ri_127, ab_ri_m1, ab_ri_m2, ab_ri_m3, ab_ri_m4, ab_ri_m5, ab_ri_m11, ab_ri_m13, ab_ri_m14, ab_ri_10, c1, h60, q] <;> omega
    | succ k ih =>
      intro hk60 h1 p nu mc g lv sm l3 z3 hp e1 lad scr x1 x2 hlv hsm hfirst q
      have c1 : ¬ (60 : Int) ≤ 60 - ((k + 1 : Nat) : Int) := by omega
      have hcr : ab_inR (60 - ((k + 1 : Nat) : Int)) = True := eq_true (by omega)
      have y6 := (e1 6 (by decide)).trans h6
      have y54 := (e1 54 (by decide)).trans t3
      have he := ab_en_ok (t := t) hp.2.1
      have p0 := hp.1
      have hri : ∀ k : Nat, p + k ≤ ab_en t s p → ab_ri (ab_sts t (p + k).toNat) (ab_nts t p g k) k := fun k hk' => ab_ri_at (g := g) hk hp k (by omega) (fun i i0 i1 => he.2.2.1 i i0 (by omega))
      rw [s113_12]
      simp only [s113_13, s113_15, s113_18, s113_19, s113_22, true_and, and_true, true_implies, Option.toList_some, Option.toList_none, List.nil_append, List.cons_append, List.map_nil, List.map_cons, List.sum_nil, List.sum_cons, Nat.zero_le, ab_nl_n, ab_nl_i, ab_nl_r, ab_nl_0, ab_cat_i, ab_cat_r, ab_cat_l, Nat.reduceAdd, Nat.reduceLeDiff, Nat.add_zero, Nat.zero_add, reduceIte, List.getElem?_cons_succ, List.getElem?_cons_zero, List.length_cons, List.length_nil, List.set_cons_zero, List.set_cons_succ, true_or, or_true, Classical.not_not, not_true_eq_false, not_false_eq_true, ab_01r, ab_01z, ab_01n, false_implies, ab_tt, Nat.reduceLT, Nat.reduceEqDiff, Int.reduceNeg, Int.reduceLT, Int.reduceLE, Int.add_zero, Int.zero_add, List.append_nil, Int.reduceEq, ab_sum1, ab_ri_0, ab_ri_1, ab_ri_2, ab_ri_3, ab_ri_4, ab_ri_5, ab_ri_6, ab_ri_7, ab_ri_8, ab_ri_12, ab_ri_30, ab_ri_60, ab_ri_100, ab_ri_101, ab_ri_127, ab_ri_m1, ab_ri_m2, ab_ri_m3, ab_ri_m4, ab_ri_m5, ab_ri_m11, ab_ri_m13, ab_ri_m14, ab_ri_10, ab_fd, ab_vc, ab_sv_11_264, ab_sv_11_267, ab_sv_11_270, ab_sv_11_273, ab_sv_11_276, y6, x1, c1, hcr, h60, Nat.reduceLeDiff]
      have hte := ab_term_ok hk hp
      refine sp_nextTerm (e := ab_en t s p) (by decide) (by decide) (by decide) (by decide) (by decide) (by decide) x1 x2 y54 s0 p0 he.1 (fun z => he.2.2.2 z) (fun z => Or.inl (by have := he.2.1; omega)) (fun i i0 i1 => ⟨by have := he.2.1; omega, he.2.2.1 i i0 i1⟩) (by omega) (by decide) (by have := he.2.1; omega) ht (fun k hk' => by have := hri k hk'; exact ⟨this.2.2.1, by have := this.2.2.2.1; omega⟩) ?_
      have hlast := hri (ab_en t s p - p).toNat (by omega)
      have cg := ab_nts_cg (f := t) (g := g) (g' := fun _ => 0) (p := p) (ab_en t s p - p).toNat
      rcases hte with ⟨hps, hes⟩ | ⟨hlt, hes, h93, hin, hnext⟩
      · -- the end
        have etl : ab_tls t s (k + 1) p = [] := by
          unfold ab_tls
          rw [if_neg (by omega)]
        rw [etl] at q
        have e0 : (ab_nts t p g (ab_en t s p - p).toNat).1 = 0 := by
          rw [hes, hps, Int.sub_self]
          rfl
        rw [e0]
        have fr : ∀ c d a, a ≠ 52 → a ≠ 53 → ab_hs (ab_hs h1 53 c) 52 d a = h1 a := fun c d a z1 z2 => (ab_hs_ne z1).trans (ab_hs_ne z2)
        have q := q (ab_hs (ab_hs h1 53 (ab_ia 30 (ab_nts t p g (ab_en t s p - p).toNat).2.2.2.1)) 52 (ab_txt 54 s (ab_en t s p + 1) (if (ab_nts t p g (ab_en t s p - p).toNat).2.2.1 = 0 then 1 else (ab_nts t p g (ab_en t s p - p).toNat).2.2.1) 53 (ab_nts t p g (ab_en t s p - p).toNat).2.2.2.2)) (fun a ha => (fr _ _ a (by omega) (by omega)).trans (e1 a ha)) (ab_lad_fr (fun a _ _ => fr _ _ a (by omega) (by omega)) lad) (ab_scr_fr (fun a _ _ => fr _ _ a (by omega) (by omega)) scr) ⟨_, _, _, _, ab_hs_self, (ab_hs_ne (by decide)).trans ab_hs_self⟩ (fun z => by
          have z : 0 ≤ lv := z
          by_cases c60 : k + 1 = 60
          · have := hfirst c60; omega
          · obtain ⟨a1, sg, a2, a3⟩ := hsm (by omega)
            exact ⟨(fr _ _ 60 (by decide) (by decide)).trans a1, sg, (fr _ _ 61 (by decide) (by decide)).trans a2, a3⟩)
        have e0 : (ab_clt (ab_AT L) [] (60 - ((k + 1 : Nat) : Int)) lv sm).1 = lv := rfl
        rw [e0] at q
        simp only [s113_25, s113_76, s113_77, true_and, and_true, true_implies, Option.toList_some, Option.toList_none, List.nil_append, List.cons_append, List.map_nil, List.map_cons, List.sum_nil, List.sum_cons, Nat.zero_le, ab_nl_n, ab_nl_i, ab_nl_r, ab_nl_0, ab_cat_i, ab_cat_r, ab_cat_l, Nat.reduceAdd, Nat.reduceLeDiff, Nat.add_zero, Nat.zero_add, reduceIte, List.getElem?_cons_succ, List.getElem?_cons_zero, List.length_cons, List.length_nil, List.set_cons_zero, List.set_cons_succ, true_or, or_true, Classical.not_not, not_true_eq_false, not_false_eq_true, ab_01r, ab_01z, ab_01n, false_implies, ab_tt, Nat.reduceLT, Nat.reduceEqDiff, Int.reduceNeg, Int.reduceLT, Int.reduceLE, Int.add_zero, Int.zero_add, List.append_nil, Int.reduceEq, ab_sum1, ab_ri_0, ab_ri_1, ab_ri_2, ab_ri_3, ab_ri_4, ab_ri_5, ab_ri_6, ab_ri_7, ab_ri_8, ab_ri_12, ab_ri_30, ab_ri_60, ab_ri_100, ab_ri_101, ab_ri_127, ab_ri_m1, ab_ri_m2, ab_ri_m3, ab_ri_m4, ab_ri_m5, ab_ri_m11, ab_ri_m13, ab_ri_m14, ab_ri_10, q] <;> omega
      · have hin := hin g
        rw [hin]
        have etl : ab_tls t s (k + 1) p = ab_tmz (ab_nts t p (fun _ => 0) (ab_en t s p - p).toNat) :: ab_tls t s k (ab_en t s p + 1) := by
          rw [ab_tls, if_pos hlt]
        rw [etl] at q
        revert hlast cg q
        generalize ab_nts t p g (ab_en t s p - p).toNat = z
        generalize ab_nts t p (fun _ => 0) (ab_en t s p - p).toNat = w
        obtain ⟨zi, zs, zn, zg, zc⟩ := z
        obtain ⟨wi, ws, wn, wg, wc⟩ := w
        intro q hlast cg
        obtain ⟨g1, g2, g3, g4, g5⟩ := cg
        simp only at g1 g2 g3 g4 g5
        subst g1 g2 g3 g4
        obtain ⟨r1, r2, r3, r4, r5⟩ := hlast
        simp only at r1 r2 r3 r4 r5
        have hd60 : ((ab_en t s p - p).toNat : Int) < 60 := by omega
        have hzc : 0 ≤ zc ∧ zc ≤ 30 := by omega
        have elv : ab_lvt wg zc = ab_lvt zg zc := (ab_lvt_cg r2 g5).symm
        simp only [ab_tmz] at q
        unfold ab_clt at q
        simp only [elv] at q
        have hlt5 := ab_lvt_r (g := zg) (mc := zc)
        have hlr : ab_inR (ab_lvt zg zc) = True := eq_true (by omega)
        have hlvr : ab_inR lv = True := eq_true (by omega)
        have fr : ∀ c d a, a ≠ 52 → a ≠ 53 → ab_hs (ab_hs h1 53 c) 52 d a = h1 a := fun c d a z1 z2 => (ab_hs_ne z1).trans (ab_hs_ne z2)
        generalize hnum : (if zn = 0 then (1 : Int) else zn) = num at q
        have hnumr : 0 ≤ num ∧ num ≤ 100 := by rw [← hnum]; split <;> omega
        simp only [hnum]
        have w6 := fun c d => (fr c d 6 (by decide) (by decide)).trans y6
        have v52 : ∀ c, ab_hs (ab_hs h1 53 c) 52 (ab_txt 54 s (ab_en t s p + 1) num 53 zc) 52 = some (ab_txt 54 s (ab_en t s p + 1) num 53 zc) := fun c => ab_hs_self
        have v53 : ∀ d, ab_hs (ab_hs h1 53 (ab_ia 30 zg)) 52 d 53 = some (ab_ia 30 zg) := fun d => (ab_hs_ne (by decide)).trans ab_hs_self
        simp only [s113_25, s113_28, s113_29, s113_32, true_and, and_true, true_implies, Option.toList_some, Option.toList_none, List.nil_append, List.cons_append, List.map_nil, List.map_cons, List.sum_nil, List.sum_cons, Nat.zero_le, ab_nl_n, ab_nl_i, ab_nl_r, ab_nl_0, ab_cat_i, ab_cat_r, ab_cat_l, Nat.reduceAdd, Nat.reduceLeDiff, Nat.add_zero, Nat.zero_add, reduceIte, List.getElem?_cons_succ, List.getElem?_cons_zero, List.length_cons, List.length_nil, List.set_cons_zero, List.set_cons_succ, true_or, or_true, Classical.not_not, not_true_eq_false, not_false_eq_true, ab_01r, ab_01z, ab_01n, false_implies, ab_tt, Nat.reduceLT, Nat.reduceEqDiff, Int.reduceNeg, Int.reduceLT, Int.reduceLE, Int.add_zero, Int.zero_add, List.append_nil, Int.reduceEq, ab_sum1, ab_ri_0, ab_ri_1, ab_ri_2, ab_ri_3, ab_ri_4, ab_ri_5, ab_ri_6, ab_ri_7, ab_ri_8, ab_ri_12, ab_ri_30, ab_ri_60, ab_ri_100, ab_ri_101, ab_ri_127, ab_ri_m1, ab_ri_m2, ab_ri_m3, ab_ri_m4, ab_ri_m5, ab_ri_m11, ab_ri_m13, ab_ri_m14, ab_ri_10, ab_fd, ab_vc, ab_sv_11_264, ab_sv_11_267, ab_sv_11_270, ab_sv_11_273, ab_sv_11_276, w6, v52, Nat.reduceLeDiff]
        (repeat refine And.intro (by omega) ?_)
        refine sp_lvt (by decide) (by decide) (v52 _) (v53 _) hzc r1 ?_
        -- the heap from here on
        have hE : ab_frt h (ab_hs (ab_hs h1 53 (ab_ia 30 zg)) 52 (ab_txt 54 s (ab_en t s p + 1) num 53 zc)) := fun a ha => (fr _ _ a (by omega) (by omega)).trans (e1 a ha)
        have hlad2 : ab_lad (ab_hs (ab_hs h1 53 (ab_ia 30 zg)) 52 (ab_txt 54 s (ab_en t s p + 1) num 53 zc)) L 5 := ab_lad_fr (fun a _ _ => fr _ _ a (by omega) (by omega)) lad
        have hscr2 : ab_scr (ab_hs (ab_hs h1 53 (ab_ia 30 zg)) 52 (ab_txt 54 s (ab_en t s p + 1) num 53 zc)) := ab_scr_fr (fun a _ _ => fr _ _ a (by omega) (by omega)) scr
        have hsm2 : k + 1 < 60 → ab_hs (ab_hs h1 53 (ab_ia 30 zg)) 52 (ab_txt 54 s (ab_en t s p + 1) num 53 zc) 60 = some (ab_vec 61 lv) ∧ ∃ sg, ab_hs (ab_hs h1 53 (ab_ia 30 zg)) 52 (ab_txt 54 s (ab_en t s p + 1) num 53 zc) 61 = some (ab_ia 7 sg) ∧ ∀ i, 0 ≤ i → i < 7 → sg i = sm i ∧ 0 ≤ sg i ∧ sg i ≤ 100 := fun z => by
          obtain ⟨a1, sg, a2, a3⟩ := hsm z
          exact ⟨(fr _ _ 60 (by decide) (by decide)).trans a1, sg, (fr _ _ 61 (by decide) (by decide)).trans a2, a3⟩
        have m52 := v52 (ab_ia 30 zg)
        have m53 := v53 (ab_txt 54 s (ab_en t s p + 1) num 53 zc)
        revert hE hlad2 hscr2 hsm2 m52 m53
        generalize ab_hs (ab_hs h1 53 (ab_ia 30 zg)) 52 (ab_txt 54 s (ab_en t s p + 1) num 53 zc) = h2
        intro hE hlad2 hscr2 hsm2 m52 m53
        have n6 := (hE 6 (by decide)).trans h6
        by_cases c2 : ab_lvt zg zc < 0
        · rw [if_pos (Or.inl c2)] at q
          have q := q h2 hE hlad2 hscr2 ⟨_, _, _, _, m52, m53⟩ (fun z => absurd z (by show ¬ (0 : Int) ≤ -3; decide))
          simp only [s113_35, s113_36, s113_37, s113_40, s113_41, s113_44, s113_45, s113_46, s113_49, s113_51, true_and, and_true, true_implies, Option.toList_some, Option.toList_none, List.nil_append, List.cons_append, List.map_nil, List.map_cons, List.sum_nil, List.sum_cons, Nat.zero_le, ab_nl_n, ab_nl_i, ab_nl_r, ab_nl_0, ab_cat_i, ab_cat_r, ab_cat_l, Nat.reduceAdd, Nat.reduceLeDiff, Nat.add_zero, Nat.zero_add, reduceIte, List.getElem?_cons_succ, List.getElem?_cons_zero, List.length_cons, List.length_nil, List.set_cons_zero, List.set_cons_succ, true_or, or_true, Classical.not_not, not_true_eq_false, not_false_eq_true, ab_01r, ab_01z, ab_01n, false_implies, ab_tt, Nat.reduceLT, Nat.reduceEqDiff, Int.reduceNeg, Int.reduceLT, Int.reduceLE, Int.add_zero, Int.zero_add, List.append_nil, Int.reduceEq, ab_sum1, ab_ri_0, ab_ri_1, ab_ri_2, ab_ri_3, ab_ri_4, ab_ri_5, ab_ri_6, ab_ri_7, ab_ri_8, ab_ri_12, ab_ri_30, ab_ri_60, ab_ri_100, ab_ri_101, ab_ri_127, ab_ri_m1, ab_ri_m2, ab_ri_m3, ab_ri_m4, ab_ri_m5, ab_ri_m11, ab_ri_m13, ab_ri_m14, ab_ri_10, c2, hlr, z3, q] <;> omega
        · -- the term counts
          have goon : (k + 1 = 60 ∨ ab_lvt zg zc = lv) → ∀ h3 sg0, ab_frt h h3 → ab_lad h3 L 5 → ab_scr h3 → h3 52 = some (ab_txt 54 s (ab_en t s p + 1) num 53 zc) → h3 53 = some (ab_ia 30 zg) → h3 60 = some (ab_vec 61 (ab_lvt zg zc)) → h3 61 = some (ab_ia 7 sg0) → (∀ i, 0 ≤ i → i < 7 → sg0 i = (if k + 1 = 60 then (0 : Int) else sm i) ∧ 0 ≤ sg0 i ∧ sg0 i ≤ 100) → ab_G 113 64 [some (vr 6), some (vi lv), some (vi (60 - ((k + 1 : Nat) : Int))), some (vi (ab_lvt zg zc))] [] h3 n (0, 0) Q := by
            intro hor h3 sg0 E3 lad3 scr3 x52 x53 x60 x61 hsg0
            rw [if_neg (by rcases hor with z | z <;> omega)] at q
            have z6 := (E3 6 (by decide)).trans h6
            simp only [s113_64, s113_65, s113_66, s113_67, true_and, and_true, true_implies, Option.toList_some, Option.toList_none, List.nil_append, List.cons_append, List.map_nil, List.map_cons, List.sum_nil, List.sum_cons, Nat.zero_le, ab_nl_n, ab_nl_i, ab_nl_r, ab_nl_0, ab_cat_i, ab_cat_r, ab_cat_l, Nat.reduceAdd, Nat.reduceLeDiff, Nat.add_zero, Nat.zero_add, reduceIte, List.getElem?_cons_succ, List.getElem?_cons_zero, List.length_cons, List.length_nil, List.set_cons_zero, List.set_cons_succ, true_or, or_true, Classical.not_not, not_true_eq_false, not_false_eq_true, ab_01r, ab_01z, ab_01n, false_implies, ab_tt, Nat.reduceLT, Nat.reduceEqDiff, Int.reduceNeg, Int.reduceLT, Int.reduceLE, Int.add_zero, Int.zero_add, List.append_nil, Int.reduceEq, ab_sum1, ab_ri_0, ab_ri_1, ab_ri_2, ab_ri_3, ab_ri_4, ab_ri_5, ab_ri_6, ab_ri_7, ab_ri_8, ab_ri_12, ab_ri_30, ab_ri_60, ab_ri_100, ab_ri_101, ab_ri_127, ab_ri_m1, ab_ri_m2, ab_ri_m3, ab_ri_m4, ab_ri_m5, ab_ri_m11, ab_ri_m13, ab_ri_m14, ab_ri_10, ab_vc, ab_sv_11_264, ab_sv_11_267, ab_sv_11_270, ab_sv_11_273, ab_sv_11_276, z6, Nat.reduceLeDiff]
            obtain ⟨f1, f2, f3, f4, f5, f6, f7, f8⟩ := scr3
            refine sp_addTerm (ab_stat_frt E3 hs) lad3 z6 ⟨_, _, f5, f6⟩ x60 x61 x52 x53 hzc r1 hnumr (fun i i0 i7 => (hsg0 i i0 i7).2) fun h4 sg4 e4 lad4 th4 x61' hsg4 => ?_
            obtain ⟨tt, tg, b1, b2⟩ := th4
            have ec : (60 : Int) - ((k + 1 : Nat) : Int) + 1 = 60 - (k : Int) := by omega
            have ih := ih (by omega) h4 (ab_en t s p + 1) num zc zg (ab_lvt zg zc) (ab_sma (ab_AT L) (num, zc, wg) (if (60 : Int) - ((k + 1 : Nat) : Int) = 0 then fun _ => 0 else sm)) (some (vi (ab_lvt zg zc))) rfl hnext (fun a ha => (e4 a (by omega)).trans (E3 a ha)) lad4 ⟨tt, _, tg, sg4, b1, b2, (e4 60 (by decide)).trans x60, x61'⟩ ((e4 52 (by decide)).trans x52) ((e4 53 (by decide)).trans x53) (by omega) (fun _ => ⟨(e4 60 (by decide)).trans x60, sg4, x61', fun i i0 i7 => by
              rw [hsg4 i i0 i7]
              refine ⟨ab_sma_cg (x := (num, zc, zg)) (y := (num, zc, wg)) (sm := sg0) (sm' := if (60 : Int) - ((k + 1 : Nat) : Int) = 0 then fun _ => 0 else sm) rfl rfl g5 ?_, ab_sma_r (hsg0 i i0 i7).2⟩
              rw [(hsg0 i i0 i7).1]
              by_cases e : k + 1 = 60
              · rw [if_pos e, if_pos (by omega)]
              · rw [if_neg e, if_neg (by omega)]⟩) (fun z => by omega) (by rw [← ec]; exact q)
            rw [← ec] at ih
            simp only [s113_70, s113_73, true_and, and_true, true_implies, Option.toList_some, Option.toList_none, List.nil_append, List.cons_append, List.map_nil, List.map_cons, List.sum_nil, List.sum_cons, Nat.zero_le, ab_nl_n, ab_nl_i, ab_nl_r, ab_nl_0, ab_cat_i, ab_cat_r, ab_cat_l, Nat.reduceAdd, Nat.reduceLeDiff, Nat.add_zero, Nat.zero_add, reduceIte, List.getElem?_cons_succ, List.getElem?_cons_zero, List.length_cons, List.length_nil, List.set_cons_zero, List.set_cons_succ, true_or, or_true, Classical.not_not, not_true_eq_false, not_false_eq_true, ab_01r, ab_01z, ab_01n, false_implies, ab_tt, Nat.reduceLT, Nat.reduceEqDiff, Int.reduceNeg, Int.reduceLT, Int.reduceLE, Int.add_zero, Int.zero_add, List.append_nil, Int.reduceEq, ab_sum1, ab_ri_0, ab_ri_1, ab_ri_2, ab_ri_3, ab_ri_4, ab_ri_5, ab_ri_6, ab_ri_7, ab_ri_8, ab_ri_12, ab_ri_30, ab_ri_60, ab_ri_100, ab_ri_101, ab_ri_127, ab_ri_m1, ab_ri_m2, ab_ri_m3, ab_ri_m4, ab_ri_m5, ab_ri_m11, ab_ri_m13, ab_ri_m14, ab_ri_10, ih]
          obtain ⟨f1, f2, f3, f4, f5, f6, f7, f8⟩ := id hscr2
          by_cases c3 : k + 1 = 60
          · have cz : (60 : Int) - ((k + 1 : Nat) : Int) = 0 := by omega
            have g2 := goon (Or.inl c3) (ab_hs (ab_hs h2 60 (ab_vec 61 (ab_lvt zg zc))) 61 (ab_ia 7 (ab_fi (fun _ => 0) f4 0 7))) _ (fun a ha => (ab_hs_ne (by omega)).trans ((ab_hs_ne (by omega)).trans (hE a ha))) (ab_lad_fr (fun a _ _ => (ab_hs_ne (by omega)).trans (ab_hs_ne (by omega))) hlad2) ⟨f1, _, f3, _, (ab_hs_ne (by decide)).trans ((ab_hs_ne (by decide)).trans f5), (ab_hs_ne (by decide)).trans ((ab_hs_ne (by decide)).trans f6), (ab_hs_ne (by decide)).trans ab_hs_self, ab_hs_self⟩ ((ab_hs_ne (by decide)).trans ((ab_hs_ne (by decide)).trans m52)) ((ab_hs_ne (by decide)).trans ((ab_hs_ne (by decide)).trans m53)) ((ab_hs_ne (by decide)).trans ab_hs_self) ab_hs_self (fun i i0 i7 => by rw [ab_fi_lo ⟨i0, i7⟩, if_pos c3]; decide)
            have cl : (60 : Int) - ((k + 1 : Nat) : Int) ≤ 0 := by omega
            simp only [s113_35, s113_36, s113_37, s113_40, s113_41, s113_44, s113_45, s113_46, s113_49, s113_51, s113_52, s113_53, s113_56, s113_57, s113_60, s113_61, true_and, and_true, true_implies, Option.toList_some, Option.toList_none, List.nil_append, List.cons_append, List.map_nil, List.map_cons, List.sum_nil, List.sum_cons, Nat.zero_le, ab_nl_n, ab_nl_i, ab_nl_r, ab_nl_0, ab_cat_i, ab_cat_r, ab_cat_l, Nat.reduceAdd, Nat.reduceLeDiff, Nat.add_zero, Nat.zero_add, reduceIte, List.getElem?_cons_succ, List.getElem?_cons_zero, List.length_cons, List.length_nil, List.set_cons_zero, List.set_cons_succ, true_or, or_true, Classical.not_not, not_true_eq_false, not_false_eq_true, ab_01r, ab_01z, ab_01n, false_implies, ab_tt, Nat.reduceLT, Nat.reduceEqDiff, Int.reduceNeg, Int.reduceLT, Int.reduceLE, Int.add_zero, Int.zero_add, List.append_nil, Int.reduceEq, ab_sum1, ab_ri_0, ab_ri_1, ab_ri_2, ab_ri_3, ab_ri_4, ab_ri_5, ab_ri_6, ab_ri_7, ab_ri_8, ab_ri_12, ab_ri_30, ab_ri_60, ab_ri_100, ab_ri_101, ab_ri_127, ab_ri_m1, ab_ri_m2, ab_ri_m3, ab_ri_m4, ab_ri_m5, ab_ri_m11, ab_ri_m13, ab_ri_m14, ab_ri_10, ab_fd, ab_vc, ab_sv_11_264, ab_sv_11_267, ab_sv_11_270, ab_sv_11_273, ab_sv_11_276, c2, cl, eq_true cz, n6, f7, hlr, hcr, z3, Nat.reduceLeDiff]
            refine sp_becomeZero (by decide) (by decide) (by decide) f7 f8 ?_
            exact g2
          · have cz : ¬ (60 : Int) - ((k + 1 : Nat) : Int) = 0 := by omega
            have cl : ¬ (60 : Int) - ((k + 1 : Nat) : Int) ≤ 0 := by omega
            by_cases c4 : ab_lvt zg zc = lv
            · obtain ⟨a1, sg, a2, a3⟩ := hsm2 (by omega)
              have g2 := goon (Or.inr c4) h2 sg hE hlad2 hscr2 m52 m53 (by rw [c4]; exact a1) a2 (fun i i0 i7 => by rw [if_neg c3]; exact a3 i i0 i7)
              simp only [s113_35, s113_36, s113_37, s113_40, s113_41, s113_44, s113_45, s113_46, s113_49, s113_51, s113_52, s113_53, true_and, and_true, true_implies, Option.toList_some, Option.toList_none, List.nil_append, List.cons_append, List.map_nil, List.map_cons, List.sum_nil, List.sum_cons, Nat.zero_le, ab_nl_n, ab_nl_i, ab_nl_r, ab_nl_0, ab_cat_i, ab_cat_r, ab_cat_l, Nat.reduceAdd, Nat.reduceLeDiff, Nat.add_zero, Nat.zero_add, reduceIte, List.getElem?_cons_succ, List.getElem?_cons_zero, List.length_cons, List.length_nil, List.set_cons_zero, List.set_cons_succ, true_or, or_true, Classical.not_not, not_true_eq_false, not_false_eq_true, ab_01r, ab_01z, ab_01n, false_implies, ab_tt, Nat.reduceLT, Nat.reduceEqDiff, Int.reduceNeg, Int.reduceLT, Int.reduceLE, Int.add_zero, Int.zero_add, List.append_nil, Int.reduceEq, ab_sum1, ab_ri_0, ab_ri_1, ab_ri_2, ab_ri_3, ab_ri_4, ab_ri_5, ab_ri_6, ab_ri_7, ab_ri_8, ab_ri_12, ab_ri_30, ab_ri_60, ab_ri_100, ab_ri_101, ab_ri_127, ab_ri_m1, ab_ri_m2, ab_ri_m3, ab_ri_m4, ab_ri_m5, ab_ri_m11, ab_ri_m13, ab_ri_m14, ab_ri_10, c2, cl, cz, eq_true c4, hlr, hlvr, hcr, z3, g2]
            · rw [if_pos (Or.inr ⟨by omega, c4⟩)] at q
              have q := q h2 hE hlad2 hscr2 ⟨_, _, _, _, m52, m53⟩ (fun z => absurd z (by show ¬ (0 : Int) ≤ -3; decide))
              simp only [s113_35, s113_36, s113_37, s113_40, s113_41, s113_44, s113_45, s113_46, s113_49, s113_51, true_and, and_true, true_implies, Option.toList_some, Option.toList_none, List.nil_append, List.cons_append, List.map_nil, List.map_cons, List.sum_nil, List.sum_cons, Nat.zero_le, ab_nl_n, ab_nl_i, ab_nl_r, ab_nl_0, ab_cat_i, ab_cat_r, ab_cat_l, Nat.reduceAdd, Nat.reduceLeDiff, Nat.add_zero, Nat.zero_add, reduceIte, List.getElem?_cons_succ, List.getElem?_cons_zero, List.length_cons, List.length_nil, List.set_cons_zero, List.set_cons_succ, true_or, or_true, Classical.not_not, not_true_eq_false, not_false_eq_true, ab_01r, ab_01z, ab_01n, false_implies, ab_tt, Nat.reduceLT, Nat.reduceEqDiff, Int.reduceNeg, Int.reduceLT, Int.reduceLE, Int.add_zero, Int.zero_add, List.append_nil, Int.reduceEq, ab_sum1, ab_ri_0, ab_ri_1, ab_ri_2, ab_ri_3, ab_ri_4, ab_ri_5, ab_ri_6, ab_ri_7, ab_ri_8, ab_ri_12, ab_ri_30, ab_ri_60, ab_ri_100, ab_ri_101, ab_ri_127, ab_ri_m1, ab_ri_m2, ab_ri_m3, ab_ri_m4, ab_ri_m5, ab_ri_m11, ab_ri_m13, ab_ri_m14, ab_ri_10, c2, cl, c4, hlr, hlvr, hcr, z3, q]
  have := key 60 (Nat.le_refl 60) (ab_hs h 52 (ab_txt 54 s 0 nu0 53 mc0)) 0 nu0 mc0 g0 (-3) (fun _ => 0) none rfl ⟨Int.le_refl 0, s0, Or.inr rfl⟩ (fun a ha => ab_hs_ne (by omega)) (ab_lad_fr (fun a _ _ => ab_hs_ne (by omega)) hl) (ab_scr_fr (fun a _ _ => ab_hs_ne (by omega)) hsc) ab_hs_self ((ab_hs_ne (by decide)).trans t2) ⟨by decide, by decide⟩ (fun z => absurd z (by decide)) (fun _ => rfl) q
  exact this
def ab_rdf (X : ab_X) : Int := ab_ft (X 6) 0 (X 5 1).toNat
def ab_rdr (X : ab_X) : Int × (Int → Int) := ab_clt (ab_AT (X 0)) (ab_tls (X 6) (X 5 1) 60 0) 0 (-3) (fun _ => 0)
def ab_s_read (X : ab_X) (v : Int) : Int := if ab_isV v then (if ab_rdf X < 0 then (ab_rdr X).1 else -100 - ab_rdf X) else -1
def ab_n_read (X : ab_X) (v : Int) : ab_X := if ab_isV v then ab_up (if ab_rdf X < 0 ∧ 0 ≤ (ab_rdr X).1 then ab_sv X v (ab_rdr X).1 (ab_rdr X).2 else X) 5 (ab_ui (X 5) 1 0) else X
theorem ab_sts_cg {f g : Int → Int} {s : Int} (h : ∀ i, 0 ≤ i → i < s → f i = g i) : ∀ k : Nat, (k : Int) ≤ s → ab_sts f k = ab_sts g k
  | 0, _ => rfl
  | k + 1, hk => by
    have ih := ab_sts_cg h k (by omega)
    unfold ab_sts
    rw [ih, h k (by omega) (by omega)]
theorem ab_nts_cgf {f f' : Int → Int} {s p : Int} {g : Int → Int} (h : ∀ i, 0 ≤ i → i < s → f i = f' i) (p0 : 0 ≤ p) : ∀ k : Nat, p + k ≤ s → ab_nts f p g k = ab_nts f' p g k
  | 0, _ => rfl
  | k + 1, hk => by
    have ih := ab_nts_cgf (g := g) h p0 k (by omega)
    rw [ab_nts, ab_nts, ih, h _ (by omega) (by omega)]
theorem ab_enx_cg {f f' : Int → Int} {s : Int} (h : ∀ i, 0 ≤ i → i < s → f i = f' i) : ∀ (k : Nat) (p : Int), 0 ≤ p → p + k ≤ s → ab_enx f p k = ab_enx f' p k
  | 0, _, _, _ => rfl
  | k + 1, p, p0, hk => by
    have ih := ab_enx_cg h k (p + 1) (by omega) (by omega)
    unfold ab_enx
    rw [ih, h p p0 (by omega)]
theorem ab_tls_cg {f f' : Int → Int} {s : Int} (h : ∀ i, 0 ≤ i → i < s → f i = f' i) : ∀ (k : Nat) (p : Int), 0 ≤ p → ab_tls f s k p = ab_tls f' s k p
  | 0, _, _ => rfl
  | k + 1, p, p0 => by
    unfold ab_tls
    by_cases c : p < s
    · rw [if_pos c, if_pos c]
      have he := ab_en_ok (t := f) (s := s) (p := p) (by omega)
      have e : ab_en f s p = ab_en f' s p := ab_enx_cg h _ p p0 (by omega)
      rw [ab_tls_cg h k _ (by omega), ab_nts_cgf h p0 _ (by omega), e]
    · rw [if_neg c, if_neg c]
theorem xc_read {v : Int} (hs : ab_stat h) (J : ab_JC X Y h) (I : ab_XI X) (hv : ab_inR v) (q : ∀ h', ab_eqo 6 67 h h' → ab_JC (ab_n_read X v) Y h' → Q (some (vi (ab_s_read X v))) h' n) : ab_G 81 0 [some (vr 6), some (vi v), none, none] [] h n (0, 0) Q := by
  have J' := J
  obtain ⟨j1, j2, j3, j4, j5, j6, j7, j8, j9⟩ := J'
  obtain ⟨l, hvv, f, ws, bs, ⟨k1, k2, k3, k4, k5, k6⟩, k7, k8, k9, k10, k11⟩ := ab_now_o j2
  have hl := ab_lok_cg k7 I.1.1
  have hs60 := I.2.1
  have hby := I.2.2.1
  unfold ab_s_read ab_n_read at q
  by_cases c1 : ab_isV v
  · have va := ab_va_r (s := 7) (v := v) (by omega)
    have a6 : 6 ≤ ab_va 7 v := by omega
    obtain ⟨v1, v2⟩ := k4 v c1.1 (by omega)
    have v4 : v < ((4 : Nat) : Int) := by omega
    have v0 : 0 ≤ v := c1.1
    have v04 : 0 ≤ v ∧ v < 4 := ⟨v0, by omega⟩
    have hh := I.1.2.1 v v0 (by omega)
    have hx := k8 v v0 (by omega)
    have hf : ∀ i, 0 ≤ i → i < 7 → 0 ≤ f v i ∧ f v i ≤ 100 := fun i i0 i7 => by rw [k9 v i v0 (by omega) i0 i7]; exact I.1.2.2.1 _ (by omega) (by omega)
    rw [if_pos c1, if_pos c1] at q
    obtain ⟨B, A, F, Mv, top, ⟨d1, -⟩, -⟩ := id j4
    simp (disch := omega) only [s81_0, s81_1, s81_4, s81_7, s81_8, s81_9, s81_10, s81_13, s81_14, s81_17, s81_20, s81_21, true_and, and_true, true_implies, Option.toList_some, Option.toList_none, List.nil_append, List.cons_append, List.map_nil, List.map_cons, List.sum_nil, List.sum_cons, Nat.zero_le, ab_nl_n, ab_nl_i, ab_nl_r, ab_nl_0, ab_cat_i, ab_cat_r, ab_cat_l, Nat.reduceAdd, Nat.reduceLeDiff, Nat.add_zero, Nat.zero_add, reduceIte, List.getElem?_cons_succ, List.getElem?_cons_zero, List.length_cons, List.length_nil, List.set_cons_zero, List.set_cons_succ, true_or, or_true, Classical.not_not, not_true_eq_false, not_false_eq_true, ab_01r, ab_01z, ab_01n, false_implies, ab_tt, Nat.reduceLT, Nat.reduceEqDiff, Int.reduceNeg, Int.reduceLT, Int.reduceLE, Int.add_zero, Int.zero_add, List.append_nil, Int.reduceEq, ab_sum1, ab_ri_0, ab_ri_1, ab_ri_2, ab_ri_3, ab_ri_4, ab_ri_5, ab_ri_6, ab_ri_7, ab_ri_8, ab_ri_12, ab_ri_30, ab_ri_60, ab_ri_100, ab_ri_101, ab_ri_127, ab_ri_m1, ab_ri_m2, ab_ri_m3, ab_ri_m4, ab_ri_m5, ab_ri_m11, ab_ri_m13, ab_ri_m14, ab_ri_10, sp_isVector, ab_01n, ab_01z, c1, ab_fd, ab_vc, ab_sv_11_115, ab_sv_11_169, ab_sv_11_173, ab_sv_11_180, ab_sv_11_184, j1, k1, d1, Nat.reduceLeDiff]
    refine sp_build hs j4 (by decide) (by decide) k2 hl (by decide) fun h1 he lad => ?_
    have hs' := ab_stat_fr (by decide) he hs
    obtain ⟨p, nu, mc, t, g, t1, t2, t3, t4⟩ := id j6
    have e6 := (he 6 (by decide)).trans j1
    have e52 := (he 52 (by decide)).trans t1
    have e53 := (he 53 (by decide)).trans t2
    have e54 := (he 54 (by decide)).trans t3
    have scr1 := ab_scr_fr (fun a _ _ => he a (by omega)) j8
    have sts := ab_sts_cg t4
    have s0 := hs60.1
    have es : ((X 5 1).toNat : Int) = X 5 1 := Int.toNat_of_nonneg s0
    -- the end of it: tape cleared
    have last : ∀ ans h2, ab_inR ans → h2 6 = some (ab_mn (X 5 3)) → (∃ p nu mc g, h2 52 = some (ab_txt 54 (X 5 1) p nu 53 mc) ∧ h2 53 = some (ab_ia 30 g)) → ∀ l2 l3 : Option ab_V, (∀ h3, (∀ a, a ≠ 52 → h3 a = h2 a) → (∃ p nu mc, h3 52 = some (ab_txt 54 0 p nu 53 mc)) → Q (some (vi ans)) h3 n) → ab_G 81 68 [some (vr 6), some (vi v), l2, some (vi ans)] [] h2 n (0, 0) Q := by
      intro ans h2 ansr y6 ⟨p, nu, mc, g, y52, y53⟩ l2 l3 q
      simp only [s81_68, s81_69, s81_72, true_and, and_true, true_implies, Option.toList_some, Option.toList_none, List.nil_append, List.cons_append, List.map_nil, List.map_cons, List.sum_nil, List.sum_cons, Nat.zero_le, ab_nl_n, ab_nl_i, ab_nl_r, ab_nl_0, ab_cat_i, ab_cat_r, ab_cat_l, Nat.reduceAdd, Nat.reduceLeDiff, Nat.add_zero, Nat.zero_add, reduceIte, List.getElem?_cons_succ, List.getElem?_cons_zero, List.length_cons, List.length_nil, List.set_cons_zero, List.set_cons_succ, true_or, or_true, Classical.not_not, not_true_eq_false, not_false_eq_true, ab_01r, ab_01z, ab_01n, false_implies, ab_tt, Nat.reduceLT, Nat.reduceEqDiff, Int.reduceNeg, Int.reduceLT, Int.reduceLE, Int.add_zero, Int.zero_add, List.append_nil, Int.reduceEq, ab_sum1, ab_ri_0, ab_ri_1, ab_ri_2, ab_ri_3, ab_ri_4, ab_ri_5, ab_ri_6, ab_ri_7, ab_ri_8, ab_ri_12, ab_ri_30, ab_ri_60, ab_ri_100, ab_ri_101, ab_ri_127, ab_ri_m1, ab_ri_m2, ab_ri_m3, ab_ri_m4, ab_ri_m5, ab_ri_m11, ab_ri_m13, ab_ri_m14, ab_ri_10, ab_fd, ab_vc, ab_sv_11_115, ab_sv_11_169, ab_sv_11_173, ab_sv_11_180, ab_sv_11_184, y6, y52, Nat.reduceLeDiff]
      refine sp_clear (by decide) y52 ?_
      have q := q _ (fun a ha => ab_hs_ne ha) ⟨p, nu, mc, ab_hs_self⟩
      simp only [s81_75, s81_76, true_and, and_true, true_implies, Option.toList_some, Option.toList_none, List.nil_append, List.cons_append, List.map_nil, List.map_cons, List.sum_nil, List.sum_cons, Nat.zero_le, ab_nl_n, ab_nl_i, ab_nl_r, ab_nl_0, ab_cat_i, ab_cat_r, ab_cat_l, Nat.reduceAdd, Nat.reduceLeDiff, Nat.add_zero, Nat.zero_add, reduceIte, List.getElem?_cons_succ, List.getElem?_cons_zero, List.length_cons, List.length_nil, List.set_cons_zero, List.set_cons_succ, true_or, or_true, Classical.not_not, not_true_eq_false, not_false_eq_true, ab_01r, ab_01z, ab_01n, false_implies, ab_tt, Nat.reduceLT, Nat.reduceEqDiff, Int.reduceNeg, Int.reduceLT, Int.reduceLE, Int.add_zero, Int.zero_add, List.append_nil, Int.reduceEq, ab_sum1, ab_ri_0, ab_ri_1, ab_ri_2, ab_ri_3, ab_ri_4, ab_ri_5, ab_ri_6, ab_ri_7, ab_ri_8, ab_ri_12, ab_ri_30, ab_ri_60, ab_ri_100, ab_ri_101, ab_ri_127, ab_ri_m1, ab_ri_m2, ab_ri_m3, ab_ri_m4, ab_ri_m5, ab_ri_m11, ab_ri_m13, ab_ri_m14, ab_ri_10, q]
    simp only [s81_24, s81_25, s81_28, true_and, and_true, true_implies, Option.toList_some, Option.toList_none, List.nil_append, List.cons_append, List.map_nil, List.map_cons, List.sum_nil, List.sum_cons, Nat.zero_le, ab_nl_n, ab_nl_i, ab_nl_r, ab_nl_0, ab_cat_i, ab_cat_r, ab_cat_l, Nat.reduceAdd, Nat.reduceLeDiff, Nat.add_zero, Nat.zero_add, reduceIte, List.getElem?_cons_succ, List.getElem?_cons_zero, List.length_cons, List.length_nil, List.set_cons_zero, List.set_cons_succ, true_or, or_true, Classical.not_not, not_true_eq_false, not_false_eq_true, ab_01r, ab_01z, ab_01n, false_implies, ab_tt, Nat.reduceLT, Nat.reduceEqDiff, Int.reduceNeg, Int.reduceLT, Int.reduceLE, Int.add_zero, Int.zero_add, List.append_nil, Int.reduceEq, ab_sum1, ab_ri_0, ab_ri_1, ab_ri_2, ab_ri_3, ab_ri_4, ab_ri_5, ab_ri_6, ab_ri_7, ab_ri_8, ab_ri_12, ab_ri_30, ab_ri_60, ab_ri_100, ab_ri_101, ab_ri_127, ab_ri_m1, ab_ri_m2, ab_ri_m3, ab_ri_m4, ab_ri_m5, ab_ri_m11, ab_ri_m13, ab_ri_m14, ab_ri_10, ab_fd, ab_vc, ab_sv_11_115, ab_sv_11_169, ab_sv_11_173, ab_sv_11_180, ab_sv_11_184, e6, e52, Nat.reduceLeDiff]
    have fault : ∀ x : Int, 0 ≤ x → x ≤ 60 → ab_rdf X = x → ab_G 81 31 [some (vr 6), some (vi v), none, none] [vi x] h1 n (0, 0) Q := by
      intro x x0 x60 hx
      rw [hx, if_neg (show ¬ (x < 0) by omega), if_neg (fun z => by omega)] at q
      have c2 : 0 ≤ x := x0
      have hxr : ab_inR x = True := eq_true (by omega)
      have c3 : -100 - x < 0 := by omega
      have t := last (-100 - x) h1 (by omega) e6 ⟨p, nu, mc, g, e52, e53⟩ (some (vi x)) none (fun h3 e3 y52 => by
        obtain ⟨p', nu', mc', y52⟩ := y52
        refine q h3 (fun a ha => (e3 a (by omega)).trans (he a (by omega))) ?_
        have fr : ∀ a, (a < 33 ∨ 46 < a) → a ≠ 52 → h3 a = h a := fun a h1 h2 => (e3 a h2).trans (he a (by omega))
        refine ⟨(fr 6 (by decide) (by decide)).trans j1, ab_now_fr (fun a _ _ => fr a (by omega) (by omega)) j2, ab_kep_fr (fun a _ _ => fr a (by omega) (by omega)) j3, ab_lad_any (ab_lad_fr (fun a _ _ => e3 a (by omega)) lad), ab_swp_fr (fun a _ _ => fr a (by omega) (by omega)) j5, ⟨p', nu', mc', t, g, y52, (fr 53 (by decide) (by decide)).trans t2, (fr 54 (by decide) (by decide)).trans t3, fun i i0 i1 => absurd i0 (by have i1 : i < 0 := i1; omega)⟩, ab_pag_fr (fun a _ _ => fr a (by omega) (by omega)) j7, ab_scr_fr (fun a _ _ => fr a (by omega) (by omega)) j8, ab_lis_fr (fun a _ _ => fr a (by omega) (by omega)) j9⟩)
      simp only [s81_31, s81_32, s81_33, s81_43, s81_45, s81_46, s81_47, s81_48, s81_49, true_and, and_true, true_implies, Option.toList_some, Option.toList_none, List.nil_append, List.cons_append, List.map_nil, List.map_cons, List.sum_nil, List.sum_cons, Nat.zero_le, ab_nl_n, ab_nl_i, ab_nl_r, ab_nl_0, ab_cat_i, ab_cat_r, ab_cat_l, Nat.reduceAdd, Nat.reduceLeDiff, Nat.add_zero, Nat.zero_add, reduceIte, List.getElem?_cons_succ, List.getElem?_cons_zero, List.length_cons, List.length_nil, List.set_cons_zero, List.set_cons_succ, true_or, or_true, Classical.not_not, not_true_eq_false, not_false_eq_true, ab_01r, ab_01z, ab_01n, false_implies, ab_tt, Nat.reduceLT, Nat.reduceEqDiff, Int.reduceNeg, Int.reduceLT, Int.reduceLE, Int.add_zero, Int.zero_add, List.append_nil, Int.reduceEq, ab_sum1, ab_ri_0, ab_ri_1, ab_ri_2, ab_ri_3, ab_ri_4, ab_ri_5, ab_ri_6, ab_ri_7, ab_ri_8, ab_ri_12, ab_ri_30, ab_ri_60, ab_ri_100, ab_ri_101, ab_ri_127, ab_ri_m1, ab_ri_m2, ab_ri_m3, ab_ri_m4, ab_ri_m5, ab_ri_m11, ab_ri_m13, ab_ri_m14, ab_ri_10, c2, c3, hxr, t] <;> omega
    refine sp_fault (by decide) (by decide) e52 e54 s0 (by omega) (by decide) (fun i i0 i1 => by rw [t4 i i0 i1]; have := hby i i0 i1; omega) (fun hok => ?_) (fun i i1 hok hbad => ?_)
    · have hok' : ∀ j : Nat, (j : Int) < X 5 1 → 0 ≤ ab_sts (X 6) (j + 1) := fun j hj => by rw [← sts (j + 1) (by omega)]; exact hok j hj
      have eF : ab_rdf X = if ab_sts (X 6) (X 5 1).toNat = 7 then -1 else X 5 1 := by
        unfold ab_rdf
        rw [ab_ft_no _ 0 (fun j _ hj => hok' j (by omega)), Nat.zero_add, es]
      rw [sts _ (by omega)]
      by_cases c2 : ab_sts (X 6) (X 5 1).toNat = 7
      · rw [if_pos c2] at eF ⊢
        have hk : ab_tok t (X 5 1) := ⟨s0, hs60.2, hok, by rw [sts _ (by omega)]; exact c2⟩
        simp only [s81_31, s81_32, s81_33, s81_36, s81_37, true_and, and_true, true_implies, Option.toList_some, Option.toList_none, List.nil_append, List.cons_append, List.map_nil, List.map_cons, List.sum_nil, List.sum_cons, Nat.zero_le, ab_nl_n, ab_nl_i, ab_nl_r, ab_nl_0, ab_cat_i, ab_cat_r, ab_cat_l, Nat.reduceAdd, Nat.reduceLeDiff, Nat.add_zero, Nat.zero_add, reduceIte, List.getElem?_cons_succ, List.getElem?_cons_zero, List.length_cons, List.length_nil, List.set_cons_zero, List.set_cons_succ, true_or, or_true, Classical.not_not, not_true_eq_false, not_false_eq_true, ab_01r, ab_01z, ab_01n, false_implies, ab_tt, Nat.reduceLT, Nat.reduceEqDiff, Int.reduceNeg, Int.reduceLT, Int.reduceLE, Int.add_zero, Int.zero_add, List.append_nil, Int.reduceEq, ab_sum1, ab_ri_0, ab_ri_1, ab_ri_2, ab_ri_3, ab_ri_4, ab_ri_5, ab_ri_6, ab_ri_7, ab_ri_8, ab_ri_12, ab_ri_30, ab_ri_60, ab_ri_100, ab_ri_101, ab_ri_127, ab_ri_m1, ab_ri_m2, ab_ri_m3, ab_ri_m4, ab_ri_m5, ab_ri_m11, ab_ri_m13, ab_ri_m14, ab_ri_10, ab_vc, ab_sv_11_115, ab_sv_11_169, ab_sv_11_173, ab_sv_11_180, ab_sv_11_184, e6, Nat.reduceLeDiff]
        (repeat refine And.intro (by omega) ?_)
        refine sp_sumOfTerms hs' lad e6 scr1 e52 e53 e54 hk (fun i i0 i1 => by rw [t4 i i0 i1]; have := hby i i0 i1; omega) fun h2 e2 lad2 scr2 tap2 hsum => ?_
        rw [ab_tls_cg t4 60 0 (Int.le_refl 0), ab_AT_cg k7] at hsum ⊢
        have er : ab_clt (ab_AT (X 0)) (ab_tls (X 6) (X 5 1) 60 0) 0 (-3) (fun _ => 0) = ab_rdr X := rfl
        rw [er] at hsum ⊢
        rw [eF, if_pos (show (-1 : Int) < 0 by decide)] at q
        have y6 := (e2 6 (by decide)).trans e6
        have y7 := (e2 7 (by decide)).trans ((he 7 (by decide)).trans k1)
        have y9 := (e2 9 (by decide)).trans ((he 9 (by decide)).trans k3)
        have hrr : -3 ≤ (ab_rdr X).1 ∧ (ab_rdr X).1 ≤ 5 := by
          have key : ∀ (T : Int → Int) (l : List ab_TM) (c lv : Int) (sm : Int → Int), -3 ≤ lv → lv ≤ 5 → -3 ≤ (ab_clt T l c lv sm).1 ∧ (ab_clt T l c lv sm).1 ≤ 5 := by
            intro T l
            induction l with
            | nil => intro c lv sm h1 h2; exact ⟨h1, h2⟩
            | cons x r ih =>
              intro c lv sm h1 h2
              unfold ab_clt
              split
              · exact ⟨by show (-3 : Int) ≤ -3; decide, by show (-3 : Int) ≤ 5; decide⟩
              · have := ab_lvt_r (g := x.2.2) (mc := x.2.1)
                exact ih _ _ _ (by omega) (by omega)
          exact key _ _ _ _ _ (by decide) (by decide)
        have hansr : ab_inR (ab_rdr X).1 := by omega
        by_cases c3 : 0 ≤ (ab_rdr X).1
        · rw [if_pos ⟨by decide, c3⟩] at q
          have c3n : ¬ (ab_rdr X).1 < 0 := by omega
          obtain ⟨x60, sg, x61, hsg⟩ := hsum c3
          have w1 := (e2 (ab_va 7 v) (by omega)).trans ((he _ (by omega)).trans v1)
          have w2 := (e2 (ab_vb 7 v) (by omega)).trans ((he _ (by omega)).trans v2)
          simp only [s81_40, s81_47, s81_48, s81_49, s81_52, s81_53, s81_56, s81_59, s81_60, s81_61, s81_62, s81_65, true_and, and_true, true_implies, Option.toList_some, Option.toList_none, List.nil_append, List.cons_append, List.map_nil, List.map_cons, List.sum_nil, List.sum_cons, Nat.zero_le, ab_nl_n, ab_nl_i, ab_nl_r, ab_nl_0, ab_cat_i, ab_cat_r, ab_cat_l, Nat.reduceAdd, Nat.reduceLeDiff, Nat.add_zero, Nat.zero_add, reduceIte, List.getElem?_cons_succ, List.getElem?_cons_zero, List.length_cons, List.length_nil, List.set_cons_zero, List.set_cons_succ, true_or, or_true, Classical.not_not, not_true_eq_false, not_false_eq_true, ab_01r, ab_01z, ab_01n, false_implies, ab_tt, Nat.reduceLT, Nat.reduceEqDiff, Int.reduceNeg, Int.reduceLT, Int.reduceLE, Int.add_zero, Int.zero_add, List.append_nil, Int.reduceEq, ab_sum1, ab_ri_0, ab_ri_1, ab_ri_2, ab_ri_3, ab_ri_4, ab_ri_5, ab_ri_6, ab_ri_7, ab_ri_8, ab_ri_12, ab_ri_30, ab_ri_60, ab_ri_100, ab_ri_101, ab_ri_127, ab_ri_m1, ab_ri_m2, ab_ri_m3, ab_ri_m4, ab_ri_m5, ab_ri_m11, ab_ri_m13, ab_ri_m14, ab_ri_10, ab_fd, ab_ar, ab_vc, ab_sv_11_115, ab_sv_11_169, ab_sv_11_173, ab_sv_11_180, ab_sv_11_184, y6, y7, y9, v0, v4, v04, a6, w1, c3n, eq_true hansr, Nat.reduceLeDiff]
          refine sp_vecCopy a6 (by omega) (by decide) (by decide) (by omega) (by omega) (by omega) (by omega) (by omega) w1 w2 x60 x61 ?_
          have fr3 : ∀ a, a ≠ ab_va 7 v → a ≠ ab_vb 7 v → ab_hs (ab_hs h2 (ab_va 7 v) (ab_vec (ab_vb 7 v) (ab_rdr X).1)) (ab_vb 7 v) (ab_ia 7 (ab_fi sg (f v) 0 7)) a = h2 a := fun a g1 g2 => (ab_hs_ne g2).trans (ab_hs_ne g1)
          obtain ⟨p', nu', mc', g', y52, y53⟩ := tap2
          refine last (ab_rdr X).1 _ hansr ((fr3 6 (by omega) (by omega)).trans y6) ⟨p', nu', mc', g', (fr3 52 (by omega) (by omega)).trans y52, (fr3 53 (by omega) (by omega)).trans y53⟩ _ none (fun h4 e4 y52' => ?_)
          obtain ⟨p2, nu2, mc2, y52'⟩ := y52'
          have fr4 : ∀ a, (a < 10 ∨ (17 < a ∧ a < 33) ∨ (46 < a ∧ a < 52) ∨ (53 < a ∧ a < 58) ∨ 61 < a) → h4 a = h a := fun a ha => (e4 a (by omega)).trans ((fr3 a (by omega) (by omega)).trans ((e2 a (by omega)).trans (he a (by omega))))
          refine q h4 (fun a ha => fr4 a (by omega)) ?_
          have nw : ab_now h4 (ab_sv X v (ab_rdr X).1 (ab_rdr X).2) := ab_now_sv j2 v04 (fun a a1 a2 a3 a4 => (e4 a (by omega)).trans ((fr3 a a3 a4).trans ((e2 a (by omega)).trans (he a (by omega))))) ((e4 _ (by omega)).trans ((ab_hs_ne (by omega)).trans ab_hs_self)) ((e4 _ (by omega)).trans ab_hs_self) (fun i i0 i7 => by rw [ab_fi_lo ⟨i0, i7⟩]; exact (hsg i i0 i7).1)
          refine ⟨(fr4 6 (by decide)).trans j1, nw, ab_kep_fr (fun a _ _ => fr4 a (by omega)) j3, ab_lad_any (ab_lad_fr (fun a _ _ => (e4 a (by omega)).trans (fr3 a (by omega) (by omega))) lad2), ab_swp_fr (fun a _ _ => fr4 a (by omega)) j5, ⟨p2, nu2, mc2, t, g', y52', (e4 53 (by decide)).trans ((fr3 53 (by omega) (by omega)).trans y53), (fr4 54 (by decide)).trans t3, fun i i0 i1 => absurd i0 (by have i1 : i < 0 := i1; omega)⟩, ab_pag_fr (fun a _ _ => fr4 a (by omega)) j7, ab_scr_fr (fun a _ _ => (e4 a (by omega)).trans (fr3 a (by omega) (by omega))) scr2, ab_lis_fr (fun a _ _ => fr4 a (by omega)) j9⟩
        · rw [if_neg (fun z => c3 z.2)] at q
          have c3n : (ab_rdr X).1 < 0 := by omega
          obtain ⟨p', nu', mc', g', y52, y53⟩ := tap2
          have t := last (ab_rdr X).1 h2 hansr y6 ⟨p', nu', mc', g', y52, y53⟩ (some (vi (-1))) none (fun h4 e4 y52' => by
            obtain ⟨p2, nu2, mc2, y52'⟩ := y52'
            have fr4 : ∀ a, (a < 33 ∨ (46 < a ∧ a < 52) ∨ (53 < a ∧ a < 58) ∨ 61 < a) → h4 a = h a := fun a ha => (e4 a (by omega)).trans ((e2 a (by omega)).trans (he a (by omega)))
            refine q h4 (fun a ha => fr4 a (by omega)) ?_
            refine ⟨(fr4 6 (by decide)).trans j1, ab_now_fr (fun a _ _ => fr4 a (by omega)) j2, ab_kep_fr (fun a _ _ => fr4 a (by omega)) j3, ab_lad_any (ab_lad_fr (fun a _ _ => e4 a (by omega)) lad2), ab_swp_fr (fun a _ _ => fr4 a (by omega)) j5, ⟨p2, nu2, mc2, t, g', y52', (e4 53 (by decide)).trans y53, (fr4 54 (by decide)).trans t3, fun i i0 i1 => absurd i0 (by have i1 : i < 0 := i1; omega)⟩, ab_pag_fr (fun a _ _ => fr4 a (by omega)) j7, ab_scr_fr (fun a _ _ => e4 a (by omega)) scr2, ab_lis_fr (fun a _ _ => fr4 a (by omega)) j9⟩)
          simp only [s81_40, s81_47, s81_48, s81_49, true_and, and_true, true_implies, Option.toList_some, Option.toList_none, List.nil_append, List.cons_append, List.map_nil, List.map_cons, List.sum_nil, List.sum_cons, Nat.zero_le, ab_nl_n, ab_nl_i, ab_nl_r, ab_nl_0, ab_cat_i, ab_cat_r, ab_cat_l, Nat.reduceAdd, Nat.reduceLeDiff, Nat.add_zero, Nat.zero_add, reduceIte, List.getElem?_cons_succ, List.getElem?_cons_zero, List.length_cons, List.length_nil, List.set_cons_zero, List.set_cons_succ, true_or, or_true, Classical.not_not, not_true_eq_false, not_false_eq_true, ab_01r, ab_01z, ab_01n, false_implies, ab_tt, Nat.reduceLT, Nat.reduceEqDiff, Int.reduceNeg, Int.reduceLT, Int.reduceLE, Int.add_zero, Int.zero_add, List.append_nil, Int.reduceEq, ab_sum1, ab_ri_0, ab_ri_1, ab_ri_2, ab_ri_3, ab_ri_4, ab_ri_5, ab_ri_6, ab_ri_7, ab_ri_8, ab_ri_12, ab_ri_30, ab_ri_60, ab_ri_100, ab_ri_101, ab_ri_127, ab_ri_m1, ab_ri_m2, ab_ri_m3, ab_ri_m4, ab_ri_m5, ab_ri_m11, ab_ri_m13, ab_ri_m14, ab_ri_10, c3n, eq_true hansr, t]
      · rw [if_neg c2] at eF ⊢
        exact fault (X 5 1) s0 hs60.2 eF
    · have hok' : ∀ j : Nat, j < i → 0 ≤ ab_sts (X 6) (j + 1) := fun j hj => by rw [← sts (j + 1) (by omega)]; exact hok j hj
      refine fault i (by omega) (by omega) ?_
      unfold ab_rdf
      exact ab_ft_at _ 0 i (Nat.zero_le _) (by omega) (fun j _ hj => hok' j hj) (by rw [← sts (i + 1) (by omega)]; exact hbad)
  · rw [if_neg c1, if_neg c1] at q
    have q := q h (fun _ _ => rfl) J
    simp (disch := omega) only [s81_0, s81_1, s81_4, s81_7, s81_8, true_and, and_true, true_implies, Option.toList_some, Option.toList_none, List.nil_append, List.cons_append, List.map_nil, List.map_cons, List.sum_nil, List.sum_cons, Nat.zero_le, ab_nl_n, ab_nl_i, ab_nl_r, ab_nl_0, ab_cat_i, ab_cat_r, ab_cat_l, Nat.reduceAdd, Nat.reduceLeDiff, Nat.add_zero, Nat.zero_add, reduceIte, List.getElem?_cons_succ, List.getElem?_cons_zero, List.length_cons, List.length_nil, List.set_cons_zero, List.set_cons_succ, true_or, or_true, Classical.not_not, not_true_eq_false, not_false_eq_true, ab_01r, ab_01z, ab_01n, false_implies, ab_tt, Nat.reduceLT, Nat.reduceEqDiff, Int.reduceNeg, Int.reduceLT, Int.reduceLE, Int.add_zero, Int.zero_add, List.append_nil, Int.reduceEq, ab_sum1, ab_ri_0, ab_ri_1, ab_ri_2, ab_ri_3, ab_ri_4, ab_ri_5, ab_ri_6, ab_ri_7, ab_ri_8, ab_ri_12, ab_ri_30, ab_ri_60, ab_ri_100, ab_ri_101, ab_ri_127, ab_ri_m1, ab_ri_m2, ab_ri_m3, ab_ri_m4, ab_ri_m5, ab_ri_m11, ab_ri_m13, ab_ri_m14, ab_ri_10, sp_isVector, ab_01n, ab_01z, c1, q]
end JH
