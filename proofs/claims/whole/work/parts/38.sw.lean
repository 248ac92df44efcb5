/-! ===== Sweep ===== -/
abbrev ab_sp : ab_C := .inl (6, [vr 48, vr 49, vr 50, vr 51])
def ab_DT (L : Int → Int) (l : Int) : Int := (ab_fr L l).2.2.2
theorem ab_DT_r {L : Int → Int} {l : Int} (h0 : 0 ≤ l) (h1 : l ≤ 5) : 0 ≤ ab_DT L l ∧ ab_DT L l ≤ 100 := by
  have hw := ab_wd_eq h0 (by omega)
  have ok := ab_rd_ok (R := ab_wd l) (C := ab_wd l) (M := ab_fm L l) (g := fun _ => 0) (by omega) (by omega) (fun r c _ _ _ _ => ab_FT_r _) (ab_wd l).toNat
  exact ok.2.2.2
theorem ab_fr_cg {L B : Int → Int} (h : ∀ j, 0 ≤ j → j < 4 → L j = B j) (l : Int) : ab_fr L l = ab_fr B l := by
  unfold ab_fr ab_fm
  rw [ab_FT_cg h]
theorem ab_DT_cg {L B : Int → Int} (h : ∀ j, 0 ≤ j → j < 4 → L j = B j) (l : Int) : ab_DT L l = ab_DT B l := by
  unfold ab_DT
  rw [ab_fr_cg h]
def ab_dl (f : Int → Int) : Nat → Int → Int
  | 0 => f
  | r + 1 => fun x => ab_dl f r (x + 1) - ab_dl f r x
/-- the sweep's cells; what is known is so -/
def ab_sws (h : ab_H) (V K T E : Int → Int) : Prop := h 47 = some ab_sp ∧ h 48 = some (ab_ia 606 V) ∧ h 49 = some (.inr (.inl (2, 6, K))) ∧ h 50 = some (ab_ia 4 T) ∧ h 51 = some (ab_ia 21 E)
def ab_swv (T V : Int → Int) (l : Int) : Prop := ∀ x, 0 ≤ x → x < 101 → V (l * 101 + x) = ab_DT (ab_ui T 2 x) l
def ab_swp (h : ab_H) : Prop := ∃ V K T E, ab_sws h V K T E ∧ (∀ l, 0 ≤ l → l < 6 → K l = 0 ∨ (K l = 1 ∧ ab_swv T V l)) ∧ ∀ j, 0 ≤ j → j < 4 → ab_inR (T j)
theorem ab_swp_fr {h h' : ab_H} (he : ∀ a, 47 ≤ a → a ≤ 51 → h' a = h a) (hl : ab_swp h) : ab_swp h' := by
  obtain ⟨V, K, T, E, ⟨h1, h2, h3, h4, h5⟩, h6⟩ := hl
  exact ⟨V, K, T, E, ⟨(he 47 (by decide) (by decide)).trans h1, (he 48 (by decide) (by decide)).trans h2, (he 49 (by decide) (by decide)).trans h3, (he 50 (by decide) (by decide)).trans h4, (he 51 (by decide) (by decide)).trans h5⟩, h6⟩
section SW
variable {h : ab_H} {n : Nat} {Q : ab_Q} {V K T E D : Int → Int} {l d : Int}
theorem ab_sub_md {x y : Int} : (x % 101 - y % 101) % 101 = (x - y) % 101 := by omega
theorem ab_add_md {x y : Int} : (x % 101 + y % 101) % 101 = (x + y) % 101 := by omega
/-- edges after r rounds of differences -/
def ab_ee (D : Int → Int) (d r j : Int) : Int := ab_dl D (if j ≤ d - r then r else d - j).toNat j % 101
theorem sp_extend1 (h1 : h 47 = some ab_sp) (hd : 0 ≤ d ∧ d ≤ 20)
    (q : ∀ E, (∀ j, 0 ≤ j → j ≤ d → E j = ab_dl D (d - j).toNat j % 101) → ∀ l3 l4 : Option ab_V, ab_nl [l3, l4] = true → ab_nl [l4] = true → ab_G 38 56 [some (vr 47), some (vi l), some (vi d), l3, l4] [] (ab_hs h 51 (ab_ia 21 E)) n (0, 0) Q)
    (hE : ∀ j, 0 ≤ j → j ≤ d → E j = D j % 101) : ab_G 38 0 [some (vr 47), some (vi l), some (vi d), none, none] [] (ab_hs h 51 (ab_ia 21 E)) n (0, 0) Q := by
  have H47 : ∀ c, ab_hs h 51 c 47 = some ab_sp := fun c => (ab_hs_ne (by decide)).trans h1
  simp only [s38_0, s38_1, s38_2, s38_3, true_and, and_true, true_implies, Option.toList_some, Option.toList_none, List.nil_append, List.cons_append, List.map_nil, List.map_cons, List.sum_nil, List.sum_cons, Nat.zero_le, ab_nl_n, ab_nl_i, ab_nl_r, ab_nl_0, ab_cat_i, ab_cat_r, ab_cat_l, Nat.reduceAdd, Nat.reduceLeDiff, Nat.add_zero, Nat.zero_add, reduceIte, List.getElem?_cons_succ, List.getElem?_cons_zero, List.length_cons, List.length_nil, List.set_cons_zero, List.set_cons_succ, true_or, or_true, Classical.not_not, not_true_eq_false, not_false_eq_true, ab_01r, ab_01z, ab_01n, false_implies, ab_tt, Nat.reduceLT, Nat.reduceEqDiff, Int.reduceNeg, Int.reduceLT, Int.reduceLE, Int.add_zero, Int.zero_add, List.append_nil, Int.reduceEq, ab_sum1, ab_ri_0, ab_ri_1, ab_ri_2, ab_ri_3, ab_ri_4, ab_ri_5, ab_ri_6, ab_ri_7, ab_ri_8, ab_ri_12, ab_ri_30, ab_ri_60, ab_ri_100, ab_ri_101, ab_ri_127, ab_ri_m1, ab_ri_m2, ab_ri_m3, ab_ri_m4, ab_ri_m5, ab_ri_m11, ab_ri_m13, ab_ri_m14, ab_ri_10]
  have key := ab_dn (P := fun r => ∀ E, (∀ j, 0 ≤ j → j ≤ d → E j = ab_ee D d r j) → ∀ l4 : Option ab_V, ab_nl [l4] = true → ab_G 38 4 [some (vr 47), some (vi l), some (vi d), some (vi (d - 1 - r)), l4] [] (ab_hs h 51 (ab_ia 21 E)) n (0, 0) Q) (a := 0) (e := d) hd.1 ?_ ?_
  · have := key E (fun j j0 j1 => by rw [hE j j0 j1]; unfold ab_ee; rw [if_pos (by omega)]; rfl) none rfl
    rw [Int.sub_zero] at this
    exact this
  · intro E hE l4 z4
    have q := q E (fun j j0 j1 => by
      rw [hE j j0 j1]
      unfold ab_ee
      by_cases e : j ≤ d - d
      · rw [if_pos e, show d - j = d by omega]
      · rw [if_neg e]) (some (vi (d - 1 - d))) l4 z4 z4
    have c1 : d - 1 - d < 0 := by omega
    rw [s38_4]
    simp only [s38_5, true_and, and_true, true_implies, Option.toList_some, Option.toList_none, List.nil_append, List.cons_append, List.map_nil, List.map_cons, List.sum_nil, List.sum_cons, Nat.zero_le, ab_nl_n, ab_nl_i, ab_nl_r, ab_nl_0, ab_cat_i, ab_cat_r, ab_cat_l, Nat.reduceAdd, Nat.reduceLeDiff, Nat.add_zero, Nat.zero_add, reduceIte, List.getElem?_cons_succ, List.getElem?_cons_zero, List.length_cons, List.length_nil, List.set_cons_zero, List.set_cons_succ, true_or, or_true, Classical.not_not, not_true_eq_false, not_false_eq_true, ab_01r, ab_01z, ab_01n, false_implies, ab_tt, Nat.reduceLT, Nat.reduceEqDiff, Int.reduceNeg, Int.reduceLT, Int.reduceLE, Int.add_zero, Int.zero_add, List.append_nil, Int.reduceEq, ab_sum1, ab_ri_0, ab_ri_1, ab_ri_2, ab_ri_3, ab_ri_4, ab_ri_5, ab_ri_6, ab_ri_7, ab_ri_8, ab_ri_12, ab_ri_30, ab_ri_60, ab_ri_100, ab_ri_101, ab_ri_127, ab_ri_m1, ab_ri_m2, ab_ri_m3, ab_ri_m4, ab_ri_m5, ab_ri_m11, ab_ri_m13, ab_ri_m14, ab_ri_10, c1, q] <;> omega
  · intro r r0 r9 rh E hE l4 z4
    have c1 : ¬ d - 1 - r < 0 := by omega
    rw [s38_4]
    simp only [s38_5, s38_8, s38_9, true_and, and_true, true_implies, Option.toList_some, Option.toList_none, List.nil_append, List.cons_append, List.map_nil, List.map_cons, List.sum_nil, List.sum_cons, Nat.zero_le, ab_nl_n, ab_nl_i, ab_nl_r, ab_nl_0, ab_cat_i, ab_cat_r, ab_cat_l, Nat.reduceAdd, Nat.reduceLeDiff, Nat.add_zero, Nat.zero_add, reduceIte, List.getElem?_cons_succ, List.getElem?_cons_zero, List.length_cons, List.length_nil, List.set_cons_zero, List.set_cons_succ, true_or, or_true, Classical.not_not, not_true_eq_false, not_false_eq_true, ab_01r, ab_01z, ab_01n, false_implies, ab_tt, Nat.reduceLT, Nat.reduceEqDiff, Int.reduceNeg, Int.reduceLT, Int.reduceLE, Int.add_zero, Int.zero_add, List.append_nil, Int.reduceEq, ab_sum1, ab_ri_0, ab_ri_1, ab_ri_2, ab_ri_3, ab_ri_4, ab_ri_5, ab_ri_6, ab_ri_7, ab_ri_8, ab_ri_12, ab_ri_30, ab_ri_60, ab_ri_100, ab_ri_101, ab_ri_127, ab_ri_m1, ab_ri_m2, ab_ri_m3, ab_ri_m4, ab_ri_m5, ab_ri_m11, ab_ri_m13, ab_ri_m14, ab_ri_10, c1, z4]
    (repeat refine And.intro (by omega) ?_)
    have key := ab_dn (P := fun i => ∀ E, (∀ j, 0 ≤ j → j ≤ d → E j = if j < i then ab_dl D (r.toNat + 1) j % 101 else ab_ee D d r j) → ab_G 38 11 [some (vr 47), some (vi l), some (vi d), some (vi (d - 1 - r)), some (vi i)] [] (ab_hs h 51 (ab_ia 21 E)) n (0, 0) Q) (a := 0) (e := d - r) (by omega) ?_ ?_
    · exact key E (fun j j0 j1 => by rw [if_neg (by omega)]; exact hE j j0 j1)
    · intro E hE
      have rh := rh E (fun j j0 j1 => by
        rw [hE j j0 j1]
        unfold ab_ee
        by_cases e : j < d - r
        · rw [if_pos e, if_pos (by omega), show (r + 1).toNat = r.toNat + 1 by omega]
        · rw [if_neg e, if_neg (show ¬ j ≤ d - (r + 1) by omega)]
          by_cases f : j ≤ d - r
          · rw [if_pos f, show d - j = r by omega]
          · rw [if_neg f]) (some (vi (d - r))) rfl
      have c2 : d - 1 - r < d - r := by omega
      have en : d - 1 - r + -1 = d - 1 - (r + 1) := by omega
      rw [s38_11]
      simp only [s38_13, s38_14, s38_50, s38_53, true_and, and_true, true_implies, Option.toList_some, Option.toList_none, List.nil_append, List.cons_append, List.map_nil, List.map_cons, List.sum_nil, List.sum_cons, Nat.zero_le, ab_nl_n, ab_nl_i, ab_nl_r, ab_nl_0, ab_cat_i, ab_cat_r, ab_cat_l, Nat.reduceAdd, Nat.reduceLeDiff, Nat.add_zero, Nat.zero_add, reduceIte, List.getElem?_cons_succ, List.getElem?_cons_zero, List.length_cons, List.length_nil, List.set_cons_zero, List.set_cons_succ, true_or, or_true, Classical.not_not, not_true_eq_false, not_false_eq_true, ab_01r, ab_01z, ab_01n, false_implies, ab_tt, Nat.reduceLT, Nat.reduceEqDiff, Int.reduceNeg, Int.reduceLT, Int.reduceLE, Int.add_zero, Int.zero_add, List.append_nil, Int.reduceEq, ab_sum1, ab_ri_0, ab_ri_1, ab_ri_2, ab_ri_3, ab_ri_4, ab_ri_5, ab_ri_6, ab_ri_7, ab_ri_8, ab_ri_12, ab_ri_30, ab_ri_60, ab_ri_100, ab_ri_101, ab_ri_127, ab_ri_m1, ab_ri_m2, ab_ri_m3, ab_ri_m4, ab_ri_m5, ab_ri_m11, ab_ri_m13, ab_ri_m14, ab_ri_10, c2, en, rh] <;> omega
    · intro i i0 i9 ih E hE
      have c2 : ¬ d - 1 - r < i := by omega
      have f0 : 0 ≤ i + 1 := by omega
      have f1 : i < ((21 : Nat) : Int) := by omega
      have f2 : i + 1 < ((21 : Nat) : Int) := by omega
      have e1 := hE i i0 (by omega)
      have e2 := hE (i + 1) (by omega) (by omega)
      rw [if_neg (by omega)] at e1 e2
      unfold ab_ee at e1 e2
      rw [if_pos (by omega)] at e1 e2
      have mr : ab_inR (E (i + 1) - E i) := by omega
      have ih := ih (ab_ui E i ((E (i + 1) - E i) % 101)) (fun j j0 j1 => by
        by_cases e : j = i
        · rw [e, ab_ui_at, if_pos (by omega), e1, e2, ab_sub_md]
          rfl
        · rw [ab_ui_ne e, hE j j0 j1]
          by_cases f : j < i
          · rw [if_pos f, if_pos (by omega)]
          · rw [if_neg f, if_neg (by omega)])
      rw [s38_11]
      simp only [s38_13, s38_14, s38_17, s38_18, s38_21, s38_23, s38_24, s38_27, s38_29, s38_30, s38_31, s38_32, s38_33, s38_36, s38_38, s38_39, s38_40, s38_43, s38_44, s38_47, true_and, and_true, true_implies, Option.toList_some, Option.toList_none, List.nil_append, List.cons_append, List.map_nil, List.map_cons, List.sum_nil, List.sum_cons, Nat.zero_le, ab_nl_n, ab_nl_i, ab_nl_r, ab_nl_0, ab_cat_i, ab_cat_r, ab_cat_l, Nat.reduceAdd, Nat.reduceLeDiff, Nat.add_zero, Nat.zero_add, reduceIte, List.getElem?_cons_succ, List.getElem?_cons_zero, List.length_cons, List.length_nil, List.set_cons_zero, List.set_cons_succ, true_or, or_true, Classical.not_not, not_true_eq_false, not_false_eq_true, ab_01r, ab_01z, ab_01n, false_implies, ab_tt, Nat.reduceLT, Nat.reduceEqDiff, Int.reduceNeg, Int.reduceLT, Int.reduceLE, Int.add_zero, Int.zero_add, List.append_nil, Int.reduceEq, ab_sum1, ab_ri_0, ab_ri_1, ab_ri_2, ab_ri_3, ab_ri_4, ab_ri_5, ab_ri_6, ab_ri_7, ab_ri_8, ab_ri_12, ab_ri_30, ab_ri_60, ab_ri_100, ab_ri_101, ab_ri_127, ab_ri_m1, ab_ri_m2, ab_ri_m3, ab_ri_m4, ab_ri_m5, ab_ri_m11, ab_ri_m13, ab_ri_m14, ab_ri_10, ab_fd, ab_ai, ab_as, H47, ab_hs_self, ab_hs_hs, c2, i0, f0, f1, f2, sp_modulo mr, Nat.reduceLeDiff, ih] <;> omega
theorem sp_extend2 (h1 : h 47 = some ab_sp) (hd : 0 ≤ d ∧ d ≤ 20) (hl : 0 ≤ l ∧ l ≤ 5) (hp : ∀ x, ab_dl D (d.toNat + 1) x % 101 = 0) (hD : ∀ x, 0 ≤ x → x < 101 → 0 ≤ D x ∧ D x ≤ 100)
    (q : ∀ E V', (∀ j, 0 ≤ j → j < 101 → V' (l * 101 + j) = D j) → (∀ j, ¬ (l * 101 ≤ j ∧ j < l * 101 + 101) → V' j = V j) → Q none (ab_hs (ab_hs h 51 (ab_ia 21 E)) 48 (ab_ia 606 V')) n)
    (hV : ∀ j, 0 ≤ j → j ≤ d → V (l * 101 + j) = D j) (hE : ∀ j, 0 ≤ j → j ≤ d → E j = ab_dl D (d - j).toNat j % 101) {l3 l4 : Option ab_V} (z3 : ab_nl [l3, l4] = true) (z4 : ab_nl [l4] = true) : ab_G 38 56 [some (vr 47), some (vi l), some (vi d), l3, l4] [] (ab_hs (ab_hs h 51 (ab_ia 21 E)) 48 (ab_ia 606 V)) n (0, 0) Q := by
  have H47 : ∀ c c', ab_hs (ab_hs h 51 c) 48 c' 47 = some ab_sp := fun c c' => (ab_hs_ne (by decide)).trans ((ab_hs_ne (by decide)).trans h1)
  have H51 : ∀ c c', ab_hs (ab_hs h 51 c) 48 c' 51 = some c := fun c c' => (ab_hs_ne (by decide)).trans ab_hs_self
  have U51 : ∀ c c' c2, ab_hs (ab_hs (ab_hs h 51 c) 48 c') 51 c2 = ab_hs (ab_hs h 51 c2) 48 c' := fun c c' c2 => by rw [ab_hs_cm (a := 48) (b := 51) (by decide), ab_hs_hs]
  simp only [s38_56, s38_57, s38_58, s38_59, true_and, and_true, true_implies, Option.toList_some, Option.toList_none, List.nil_append, List.cons_append, List.map_nil, List.map_cons, List.sum_nil, List.sum_cons, Nat.zero_le, ab_nl_n, ab_nl_i, ab_nl_r, ab_nl_0, ab_cat_i, ab_cat_r, ab_cat_l, Nat.reduceAdd, Nat.reduceLeDiff, Nat.add_zero, Nat.zero_add, reduceIte, List.getElem?_cons_succ, List.getElem?_cons_zero, List.length_cons, List.length_nil, List.set_cons_zero, List.set_cons_succ, true_or, or_true, Classical.not_not, not_true_eq_false, not_false_eq_true, ab_01r, ab_01z, ab_01n, false_implies, ab_tt, Nat.reduceLT, Nat.reduceEqDiff, Int.reduceNeg, Int.reduceLT, Int.reduceLE, Int.add_zero, Int.zero_add, List.append_nil, Int.reduceEq, ab_sum1, ab_ri_0, ab_ri_1, ab_ri_2, ab_ri_3, ab_ri_4, ab_ri_5, ab_ri_6, ab_ri_7, ab_ri_8, ab_ri_12, ab_ri_30, ab_ri_60, ab_ri_100, ab_ri_101, ab_ri_127, ab_ri_m1, ab_ri_m2, ab_ri_m3, ab_ri_m4, ab_ri_m5, ab_ri_m11, ab_ri_m13, ab_ri_m14, ab_ri_10, z3]
  have key := ab_dn (P := fun x => ∀ E V', (∀ j, 0 ≤ j → j ≤ d → E j = ab_dl D (d - j).toNat (j + (x - d - 1)) % 101) → (∀ j, 0 ≤ j → j < x → V' (l * 101 + j) = D j) → (∀ j, ¬ (l * 101 ≤ j ∧ j < l * 101 + 101) → V' j = V j) → ∀ l4 : Option ab_V, ab_nl [l4] = true → ab_G 38 60 [some (vr 47), some (vi l), some (vi d), some (vi x), l4] [] (ab_hs (ab_hs h 51 (ab_ia 21 E)) 48 (ab_ia 606 V')) n (0, 0) Q) (a := d + 1) (e := 101) (by omega) ?_ ?_
  · exact key E V (fun j j0 j1 => by rw [hE j j0 j1, show j + (d + 1 - d - 1) = j by omega]) (fun j j0 j1 => hV j j0 (by omega)) (fun _ _ => rfl) l4 z4
  · intro E V' hE hV hO l4 z4
    have q := q E V' hV hO
    rw [s38_60]
    simp only [s38_61, s38_63, s38_131, true_and, and_true, true_implies, Option.toList_some, Option.toList_none, List.nil_append, List.cons_append, List.map_nil, List.map_cons, List.sum_nil, List.sum_cons, Nat.zero_le, ab_nl_n, ab_nl_i, ab_nl_r, ab_nl_0, ab_cat_i, ab_cat_r, ab_cat_l, Nat.reduceAdd, Nat.reduceLeDiff, Nat.add_zero, Nat.zero_add, reduceIte, List.getElem?_cons_succ, List.getElem?_cons_zero, List.length_cons, List.length_nil, List.set_cons_zero, List.set_cons_succ, true_or, or_true, Classical.not_not, not_true_eq_false, not_false_eq_true, ab_01r, ab_01z, ab_01n, false_implies, ab_tt, Nat.reduceLT, Nat.reduceEqDiff, Int.reduceNeg, Int.reduceLT, Int.reduceLE, Int.add_zero, Int.zero_add, List.append_nil, Int.reduceEq, ab_sum1, ab_ri_0, ab_ri_1, ab_ri_2, ab_ri_3, ab_ri_4, ab_ri_5, ab_ri_6, ab_ri_7, ab_ri_8, ab_ri_12, ab_ri_30, ab_ri_60, ab_ri_100, ab_ri_101, ab_ri_127, ab_ri_m1, ab_ri_m2, ab_ri_m3, ab_ri_m4, ab_ri_m5, ab_ri_m11, ab_ri_m13, ab_ri_m14, ab_ri_10, Int.le_refl, q]
  · intro x x0 x9 xh E V' hE hV hO l4 z4
    have c1 : ¬ 101 ≤ x := by omega
    rw [s38_60]
    simp only [s38_61, s38_63, s38_66, s38_67, true_and, and_true, true_implies, Option.toList_some, Option.toList_none, List.nil_append, List.cons_append, List.map_nil, List.map_cons, List.sum_nil, List.sum_cons, Nat.zero_le, ab_nl_n, ab_nl_i, ab_nl_r, ab_nl_0, ab_cat_i, ab_cat_r, ab_cat_l, Nat.reduceAdd, Nat.reduceLeDiff, Nat.add_zero, Nat.zero_add, reduceIte, List.getElem?_cons_succ, List.getElem?_cons_zero, List.length_cons, List.length_nil, List.set_cons_zero, List.set_cons_succ, true_or, or_true, Classical.not_not, not_true_eq_false, not_false_eq_true, ab_01r, ab_01z, ab_01n, false_implies, ab_tt, Nat.reduceLT, Nat.reduceEqDiff, Int.reduceNeg, Int.reduceLT, Int.reduceLE, Int.add_zero, Int.zero_add, List.append_nil, Int.reduceEq, ab_sum1, ab_ri_0, ab_ri_1, ab_ri_2, ab_ri_3, ab_ri_4, ab_ri_5, ab_ri_6, ab_ri_7, ab_ri_8, ab_ri_12, ab_ri_30, ab_ri_60, ab_ri_100, ab_ri_101, ab_ri_127, ab_ri_m1, ab_ri_m2, ab_ri_m3, ab_ri_m4, ab_ri_m5, ab_ri_m11, ab_ri_m13, ab_ri_m14, ab_ri_10, c1, z4]
    (repeat refine And.intro (by omega) ?_)
    have key := ab_dn (P := fun i => ∀ E, (∀ j, 0 ≤ j → j ≤ d → E j = if j < i then ab_dl D (d - j).toNat (j + (x - d - 1) + 1) % 101 else ab_dl D (d - j).toNat (j + (x - d - 1)) % 101) → ab_G 38 69 [some (vr 47), some (vi l), some (vi d), some (vi x), some (vi i)] [] (ab_hs (ab_hs h 51 (ab_ia 21 E)) 48 (ab_ia 606 V')) n (0, 0) Q) (a := 1) (e := d + 1) (by omega) ?_ ?_
    · refine key E (fun j j0 j1 => ?_)
      by_cases e : j < 1
      · have e0 : j = 0 := by omega
        subst e0
        have hpx : (ab_dl D d.toNat (0 + (x - d - 1) + 1) - ab_dl D d.toNat (0 + (x - d - 1))) % 101 = 0 := hp _
        rw [if_pos e, hE 0 j0 j1, Int.sub_zero]
        omega
      · rw [if_neg e]
        exact hE j j0 j1
    · intro E hE
      have ed := hE d hd.1 (Int.le_refl d)
      rw [if_pos (by omega), Int.sub_self, show d + (x - d - 1) + 1 = x by omega] at ed
      have hDx := hD x (by omega) x9
      have ed' : E d = D x := by
        rw [ed]
        show D x % 101 = D x
        omega
      have f0 : 0 ≤ l * 101 + x := by omega
      have f1 : l * 101 + x < ((606 : Nat) : Int) := by omega
      have f2 : d < ((21 : Nat) : Int) := by omega
      have d0 := hd.1
      have c2 : d < d + 1 := by omega
      have xh := xh E (ab_ui V' (l * 101 + x) (D x)) (fun j j0 j1 => by
        rw [hE j j0 j1, if_pos (by omega), show j + (x - d - 1) + 1 = j + (x + 1 - d - 1) by omega]) (fun j j0 j1 => by
        by_cases e : j = x
        · rw [e, ab_ui_at]
        · rw [ab_ui_ne (by omega)]
          exact hV j j0 (by omega)) (fun j hj => by
        rw [ab_ui_ne (by omega)]
        exact hO j hj) (some (vi (d + 1))) rfl
      rw [s38_69]
      simp only [s38_71, s38_72, s38_108, s38_109, s38_112, s38_113, s38_115, s38_116, s38_117, s38_118, s38_119, s38_122, s38_123, s38_124, s38_125, s38_128, true_and, and_true, true_implies, Option.toList_some, Option.toList_none, List.nil_append, List.cons_append, List.map_nil, List.map_cons, List.sum_nil, List.sum_cons, Nat.zero_le, ab_nl_n, ab_nl_i, ab_nl_r, ab_nl_0, ab_cat_i, ab_cat_r, ab_cat_l, Nat.reduceAdd, Nat.reduceLeDiff, Nat.add_zero, Nat.zero_add, reduceIte, List.getElem?_cons_succ, List.getElem?_cons_zero, List.length_cons, List.length_nil, List.set_cons_zero, List.set_cons_succ, true_or, or_true, Classical.not_not, not_true_eq_false, not_false_eq_true, ab_01r, ab_01z, ab_01n, false_implies, ab_tt, Nat.reduceLT, Nat.reduceEqDiff, Int.reduceNeg, Int.reduceLT, Int.reduceLE, Int.add_zero, Int.zero_add, List.append_nil, Int.reduceEq, ab_sum1, ab_ri_0, ab_ri_1, ab_ri_2, ab_ri_3, ab_ri_4, ab_ri_5, ab_ri_6, ab_ri_7, ab_ri_8, ab_ri_12, ab_ri_30, ab_ri_60, ab_ri_100, ab_ri_101, ab_ri_127, ab_ri_m1, ab_ri_m2, ab_ri_m3, ab_ri_m4, ab_ri_m5, ab_ri_m11, ab_ri_m13, ab_ri_m14, ab_ri_10, ab_fd, ab_ai, ab_as, H47, H51, ab_hs_self, ab_hs_hs, c2, d0, f0, f1, f2, ed', Nat.reduceLeDiff, xh] <;> omega
    · intro i i0 i9 ih E hE
      have c2 : ¬ d < i := by omega
      have f0 : 0 ≤ i - 1 := by omega
      have f0' : 0 ≤ i := by omega
      have f1 : i < ((21 : Nat) : Int) := by omega
      have f2 : i - 1 < ((21 : Nat) : Int) := by omega
      have e1 := hE i (by omega) (by omega)
      have e2 := hE (i - 1) (by omega) (by omega)
      rw [if_neg (by omega)] at e1
      rw [if_pos (by omega)] at e2
      have mr : 0 ≤ E i + E (i - 1) := by omega
      have ih := ih (ab_ui E i ((E i + E (i - 1)) % 101)) (fun j j0 j1 => by
        by_cases e : j = i
        · have hd2 : ab_dl D ((d - i).toNat + 1) (i + (x - d - 1)) = ab_dl D (d - i).toNat (i + (x - d - 1) + 1) - ab_dl D (d - i).toNat (i + (x - d - 1)) := rfl
          rw [e, ab_ui_at, if_pos (by omega), e1, e2, ab_add_md, show (d - (i - 1)).toNat = (d - i).toNat + 1 by omega, show i - 1 + (x - d - 1) + 1 = i + (x - d - 1) by omega, hd2]
          congr 1
          omega
        · rw [ab_ui_ne e, hE j j0 j1]
          by_cases f : j < i
          · rw [if_pos f, if_pos (by omega)]
          · rw [if_neg f, if_neg (by omega)])
      rw [s38_69]
      simp only [s38_71, s38_72, s38_75, s38_76, s38_79, s38_81, s38_82, s38_85, s38_87, s38_88, s38_89, s38_92, s38_94, s38_95, s38_96, s38_97, s38_98, s38_100, s38_101, s38_102, s38_105, true_and, and_true, true_implies, Option.toList_some, Option.toList_none, List.nil_append, List.cons_append, List.map_nil, List.map_cons, List.sum_nil, List.sum_cons, Nat.zero_le, ab_nl_n, ab_nl_i, ab_nl_r, ab_nl_0, ab_cat_i, ab_cat_r, ab_cat_l, Nat.reduceAdd, Nat.reduceLeDiff, Nat.add_zero, Nat.zero_add, reduceIte, List.getElem?_cons_succ, List.getElem?_cons_zero, List.length_cons, List.length_nil, List.set_cons_zero, List.set_cons_succ, true_or, or_true, Classical.not_not, not_true_eq_false, not_false_eq_true, ab_01r, ab_01z, ab_01n, false_implies, ab_tt, Nat.reduceLT, Nat.reduceEqDiff, Int.reduceNeg, Int.reduceLT, Int.reduceLE, Int.add_zero, Int.zero_add, List.append_nil, Int.reduceEq, ab_sum1, ab_ri_0, ab_ri_1, ab_ri_2, ab_ri_3, ab_ri_4, ab_ri_5, ab_ri_6, ab_ri_7, ab_ri_8, ab_ri_12, ab_ri_30, ab_ri_60, ab_ri_100, ab_ri_101, ab_ri_127, ab_ri_m1, ab_ri_m2, ab_ri_m3, ab_ri_m4, ab_ri_m5, ab_ri_m11, ab_ri_m13, ab_ri_m14, ab_ri_10, ab_fd, ab_ai, ab_as, H47, H51, U51, c2, f0, f0', f1, f2, ab_md mr, Nat.reduceLeDiff, ih] <;> omega
theorem sp_extend (h1 : h 47 = some ab_sp) (hh : h 48 = some (ab_ia 606 V)) (h5 : h 51 = some (ab_ia 21 E)) (hd : 0 ≤ d ∧ d ≤ 20) (hl : 0 ≤ l ∧ l ≤ 5) (hp : ∀ x, ab_dl D (d.toNat + 1) x % 101 = 0) (hD : ∀ x, 0 ≤ x → x < 101 → 0 ≤ D x ∧ D x ≤ 100)
    (hV : ∀ j, 0 ≤ j → j ≤ d → V (l * 101 + j) = D j) (hE : ∀ j, 0 ≤ j → j ≤ d → E j = D j)
    (q : ∀ E V', (∀ j, 0 ≤ j → j < 101 → V' (l * 101 + j) = D j) → (∀ j, ¬ (l * 101 ≤ j ∧ j < l * 101 + 101) → V' j = V j) → Q none (ab_hs (ab_hs h 51 (ab_ia 21 E)) 48 (ab_ia 606 V')) n) : ab_G 38 0 [some (vr 47), some (vi l), some (vi d), none, none] [] h n (0, 0) Q := by
  have := sp_extend1 (h := h) (n := n) (Q := Q) (D := D) (l := l) (d := d) (E := E) h1 hd (fun E hE l3 l4 z3 z4 => by
    have e : ab_hs h 51 (ab_ia 21 E) = ab_hs (ab_hs h 51 (ab_ia 21 E)) 48 (ab_ia 606 V) := (ab_hs_id ((ab_hs_ne (by decide)).trans hh)).symm
    rw [e]
    exact sp_extend2 h1 hd hl hp hD q hV hE z3 z4) (fun j j0 j1 => by rw [hE j j0 j1]; have := hD j j0 (by omega); omega)
  rw [ab_hs_id h5] at this
  exact this
/-- how many weights, and which is the i-th -/
def ab_hm (f : Int → Int) (v : Int) : Nat → Int
  | 0 => 0
  | k + 1 => ab_hm f v k + (if f k = v then 1 else 0)
def ab_wt (f : Int → Int) (v x i : Int) : Nat → Int
  | 0 => -5
  | k + 1 => if f x = v then (if i = 0 then x else ab_wt f v (x + 1) (i - 1) k) else ab_wt f v (x + 1) i k
theorem ab_hm_b {f : Int → Int} {v : Int} : ∀ k : Nat, 0 ≤ ab_hm f v k ∧ ab_hm f v k ≤ k
  | 0 => by unfold ab_hm; omega
  | k + 1 => by
    have := ab_hm_b (f := f) (v := v) k
    unfold ab_hm
    split <;> omega
theorem sp_howMany {v : Int} (h1 : h 47 = some ab_sp) (hh : h 48 = some (ab_ia 606 V)) (hl : 0 ≤ l ∧ l ≤ 5) (hv : ab_inR v) (hD : ∀ x, 0 ≤ x → x < 101 → V (l * 101 + x) = D x ∧ ab_inR (D x)) (q : Q (some (vi (ab_hm D v 101))) h n) : ab_G 39 0 [some (vr 47), some (vi l), some (vi v), none, none] [] h n (0, 0) Q := by
  simp only [s39_0, s39_1, s39_2, s39_3, true_and, and_true, true_implies, Option.toList_some, Option.toList_none, List.nil_append, List.cons_append, List.map_nil, List.map_cons, List.sum_nil, List.sum_cons, Nat.zero_le, ab_nl_n, ab_nl_i, ab_nl_r, ab_nl_0, ab_cat_i, ab_cat_r, ab_cat_l, Nat.reduceAdd, Nat.reduceLeDiff, Nat.add_zero, Nat.zero_add, reduceIte, List.getElem?_cons_succ, List.getElem?_cons_zero, List.length_cons, List.length_nil, List.set_cons_zero, List.set_cons_succ, true_or, or_true, Classical.not_not, not_true_eq_false, not_false_eq_true, ab_01r, ab_01z, ab_01n, false_implies, ab_tt, Nat.reduceLT, Nat.reduceEqDiff, Int.reduceNeg, Int.reduceLT, Int.reduceLE, Int.add_zero, Int.zero_add, List.append_nil, Int.reduceEq, ab_sum1, ab_ri_0, ab_ri_1, ab_ri_2, ab_ri_3, ab_ri_4, ab_ri_5, ab_ri_6, ab_ri_7, ab_ri_8, ab_ri_12, ab_ri_30, ab_ri_60, ab_ri_100, ab_ri_101, ab_ri_127, ab_ri_m1, ab_ri_m2, ab_ri_m3, ab_ri_m4, ab_ri_m5, ab_ri_m11, ab_ri_m13, ab_ri_m14, ab_ri_10]
  refine ab_lp 0 101 (fun i => [some (vr 47), some (vi l), some (vi v), some (vi (ab_hm D v i.toNat)), some (vi i)]) (fun _ => h) (by decide) rfl rfl ?_ ?_
  · rw [s39_5]
    have hb := ab_hm_b (f := D) (v := v) 101
    simp only [s39_7, s39_9, s39_37, s39_38, true_and, and_true, true_implies, Option.toList_some, Option.toList_none, List.nil_append, List.cons_append, List.map_nil, List.map_cons, List.sum_nil, List.sum_cons, Nat.zero_le, ab_nl_n, ab_nl_i, ab_nl_r, ab_nl_0, ab_cat_i, ab_cat_r, ab_cat_l, Nat.reduceAdd, Nat.reduceLeDiff, Nat.add_zero, Nat.zero_add, reduceIte, List.getElem?_cons_succ, List.getElem?_cons_zero, List.length_cons, List.length_nil, List.set_cons_zero, List.set_cons_succ, true_or, or_true, Classical.not_not, not_true_eq_false, not_false_eq_true, ab_01r, ab_01z, ab_01n, false_implies, ab_tt, Nat.reduceLT, Nat.reduceEqDiff, Int.reduceNeg, Int.reduceLT, Int.reduceLE, Int.add_zero, Int.zero_add, List.append_nil, Int.reduceEq, ab_sum1, ab_ri_0, ab_ri_1, ab_ri_2, ab_ri_3, ab_ri_4, ab_ri_5, ab_ri_6, ab_ri_7, ab_ri_8, ab_ri_12, ab_ri_30, ab_ri_60, ab_ri_100, ab_ri_101, ab_ri_127, ab_ri_m1, ab_ri_m2, ab_ri_m3, ab_ri_m4, ab_ri_m5, ab_ri_m11, ab_ri_m13, ab_ri_m14, ab_ri_10, Int.le_refl, show (101 : Int).toNat = 101 from rfl, q] <;> omega
  · intro i i0 i9 ih
    have ei : (i + 1).toNat = i.toNat + 1 := by omega
    have ec : ((i.toNat : Nat) : Int) = i := Int.toNat_of_nonneg i0
    have hb := ab_hm_b (f := D) (v := v) i.toNat
    have c1 : ¬ 101 ≤ i := by omega
    have f0 : 0 ≤ l * 101 + i := by omega
    have f1 : l * 101 + i < ((606 : Nat) : Int) := by omega
    obtain ⟨e1, e2⟩ := hD i i0 i9
    rw [ei, ab_hm, ec] at ih
    rw [s39_5]
    by_cases c : D i = v
    · rw [if_pos c] at ih
      simp only [s39_7, s39_9, s39_12, s39_13, s39_16, s39_17, s39_19, s39_20, s39_22, s39_23, s39_24, s39_25, s39_28, s39_31, s39_34, true_and, and_true, true_implies, Option.toList_some, Option.toList_none, List.nil_append, List.cons_append, List.map_nil, List.map_cons, List.sum_nil, List.sum_cons, Nat.zero_le, ab_nl_n, ab_nl_i, ab_nl_r, ab_nl_0, ab_cat_i, ab_cat_r, ab_cat_l, Nat.reduceAdd, Nat.reduceLeDiff, Nat.add_zero, Nat.zero_add, reduceIte, List.getElem?_cons_succ, List.getElem?_cons_zero, List.length_cons, List.length_nil, List.set_cons_zero, List.set_cons_succ, true_or, or_true, Classical.not_not, not_true_eq_false, not_false_eq_true, ab_01r, ab_01z, ab_01n, false_implies, ab_tt, Nat.reduceLT, Nat.reduceEqDiff, Int.reduceNeg, Int.reduceLT, Int.reduceLE, Int.add_zero, Int.zero_add, List.append_nil, Int.reduceEq, ab_sum1, ab_ri_0, ab_ri_1, ab_ri_2, ab_ri_3, ab_ri_4, ab_ri_5, ab_ri_6, ab_ri_7, ab_ri_8, ab_ri_12, ab_ri_30, ab_ri_60, ab_ri_100, ab_ri_101, ab_ri_127, ab_ri_m1, ab_ri_m2, ab_ri_m3, ab_ri_m4, ab_ri_m5, ab_ri_m11, ab_ri_m13, ab_ri_m14, ab_ri_10, ab_fd, ab_ai, h1, hh, c1, f0, f1, e1, c, eq_true hv, Nat.reduceLeDiff, ih] <;> omega
    · rw [if_neg c, Int.add_zero] at ih
      simp only [s39_7, s39_9, s39_12, s39_13, s39_16, s39_17, s39_19, s39_20, s39_22, s39_23, s39_24, s39_25, s39_28, s39_31, s39_34, true_and, and_true, true_implies, Option.toList_some, Option.toList_none, List.nil_append, List.cons_append, List.map_nil, List.map_cons, List.sum_nil, List.sum_cons, Nat.zero_le, ab_nl_n, ab_nl_i, ab_nl_r, ab_nl_0, ab_cat_i, ab_cat_r, ab_cat_l, Nat.reduceAdd, Nat.reduceLeDiff, Nat.add_zero, Nat.zero_add, reduceIte, List.getElem?_cons_succ, List.getElem?_cons_zero, List.length_cons, List.length_nil, List.set_cons_zero, List.set_cons_succ, true_or, or_true, Classical.not_not, not_true_eq_false, not_false_eq_true, ab_01r, ab_01z, ab_01n, false_implies, ab_tt, Nat.reduceLT, Nat.reduceEqDiff, Int.reduceNeg, Int.reduceLT, Int.reduceLE, Int.add_zero, Int.zero_add, List.append_nil, Int.reduceEq, ab_sum1, ab_ri_0, ab_ri_1, ab_ri_2, ab_ri_3, ab_ri_4, ab_ri_5, ab_ri_6, ab_ri_7, ab_ri_8, ab_ri_12, ab_ri_30, ab_ri_60, ab_ri_100, ab_ri_101, ab_ri_127, ab_ri_m1, ab_ri_m2, ab_ri_m3, ab_ri_m4, ab_ri_m5, ab_ri_m11, ab_ri_m13, ab_ri_m14, ab_ri_10, ab_fd, ab_ai, h1, hh, c1, f0, f1, e1, c, eq_true hv, eq_true e2, Nat.reduceLeDiff, ih] <;> omega
theorem sp_weight {v i : Int} (h1 : h 47 = some ab_sp) (hh : h 48 = some (ab_ia 606 V)) (hl : 0 ≤ l ∧ l ≤ 5) (hv : ab_inR v) (hi : 0 ≤ i ∧ ab_inR i) (hD : ∀ x, 0 ≤ x → x < 101 → V (l * 101 + x) = D x ∧ ab_inR (D x)) (q : Q (some (vi (ab_wt D v 0 i 101))) h n) : ab_G 40 0 [some (vr 47), some (vi l), some (vi v), some (vi i), none, none] [] h n (0, 0) Q := by
  simp only [s40_0, s40_1, s40_3, s40_4, true_and, and_true, true_implies, Option.toList_some, Option.toList_none, List.nil_append, List.cons_append, List.map_nil, List.map_cons, List.sum_nil, List.sum_cons, Nat.zero_le, ab_nl_n, ab_nl_i, ab_nl_r, ab_nl_0, ab_cat_i, ab_cat_r, ab_cat_l, Nat.reduceAdd, Nat.reduceLeDiff, Nat.add_zero, Nat.zero_add, reduceIte, List.getElem?_cons_succ, List.getElem?_cons_zero, List.length_cons, List.length_nil, List.set_cons_zero, List.set_cons_succ, true_or, or_true, Classical.not_not, not_true_eq_false, not_false_eq_true, ab_01r, ab_01z, ab_01n, false_implies, ab_tt, Nat.reduceLT, Nat.reduceEqDiff, Int.reduceNeg, Int.reduceLT, Int.reduceLE, Int.add_zero, Int.zero_add, List.append_nil, Int.reduceEq, ab_sum1, ab_ri_0, ab_ri_1, ab_ri_2, ab_ri_3, ab_ri_4, ab_ri_5, ab_ri_6, ab_ri_7, ab_ri_8, ab_ri_12, ab_ri_30, ab_ri_60, ab_ri_100, ab_ri_101, ab_ri_127, ab_ri_m1, ab_ri_m2, ab_ri_m3, ab_ri_m4, ab_ri_m5, ab_ri_m11, ab_ri_m13, ab_ri_m14, ab_ri_10]
  have key := ab_dn (P := fun x => ∀ j, 0 ≤ j → ab_inR j → Q (some (vi (ab_wt D v x j (101 - x).toNat))) h n → ab_G 40 6 [some (vr 47), some (vi l), some (vi v), some (vi i), some (vi j), some (vi x)] [] h n (0, 0) Q) (a := 0) (e := 101) (by decide) ?_ ?_
  · exact key i hi.1 hi.2 q
  · intro j j0 jr q
    rw [Int.sub_self, show (0 : Int).toNat = 0 from rfl, ab_wt] at q
    rw [s40_6]
    simp only [s40_8, s40_10, s40_46, s40_48, true_and, and_true, true_implies, Option.toList_some, Option.toList_none, List.nil_append, List.cons_append, List.map_nil, List.map_cons, List.sum_nil, List.sum_cons, Nat.zero_le, ab_nl_n, ab_nl_i, ab_nl_r, ab_nl_0, ab_cat_i, ab_cat_r, ab_cat_l, Nat.reduceAdd, Nat.reduceLeDiff, Nat.add_zero, Nat.zero_add, reduceIte, List.getElem?_cons_succ, List.getElem?_cons_zero, List.length_cons, List.length_nil, List.set_cons_zero, List.set_cons_succ, true_or, or_true, Classical.not_not, not_true_eq_false, not_false_eq_true, ab_01r, ab_01z, ab_01n, false_implies, ab_tt, Nat.reduceLT, Nat.reduceEqDiff, Int.reduceNeg, Int.reduceLT, Int.reduceLE, Int.add_zero, Int.zero_add, List.append_nil, Int.reduceEq, ab_sum1, ab_ri_0, ab_ri_1, ab_ri_2, ab_ri_3, ab_ri_4, ab_ri_5, ab_ri_6, ab_ri_7, ab_ri_8, ab_ri_12, ab_ri_30, ab_ri_60, ab_ri_100, ab_ri_101, ab_ri_127, ab_ri_m1, ab_ri_m2, ab_ri_m3, ab_ri_m4, ab_ri_m5, ab_ri_m11, ab_ri_m13, ab_ri_m14, ab_ri_10, Int.le_refl, q]
  · intro x x0 x9 ih j j0 jr q
    have ei : (101 - x).toNat = (101 - (x + 1)).toNat + 1 := by omega
    rw [ei, ab_wt] at q
    have c1 : ¬ 101 ≤ x := by omega
    have f0 : 0 ≤ l * 101 + x := by omega
    have f1 : l * 101 + x < ((606 : Nat) : Int) := by omega
    obtain ⟨e1, e2⟩ := hD x x0 x9
    rw [s40_6]
    by_cases c : D x = v
    · rw [if_pos c] at q
      by_cases d : j = 0
      · rw [if_pos d] at q
        simp only [s40_8, s40_10, s40_13, s40_14, s40_17, s40_18, s40_20, s40_21, s40_23, s40_24, s40_25, s40_26, s40_29, s40_31, s40_34, s40_36, s40_37, s40_40, s40_43, true_and, and_true, true_implies, Option.toList_some, Option.toList_none, List.nil_append, List.cons_append, List.map_nil, List.map_cons, List.sum_nil, List.sum_cons, Nat.zero_le, ab_nl_n, ab_nl_i, ab_nl_r, ab_nl_0, ab_cat_i, ab_cat_r, ab_cat_l, Nat.reduceAdd, Nat.reduceLeDiff, Nat.add_zero, Nat.zero_add, reduceIte, List.getElem?_cons_succ, List.getElem?_cons_zero, List.length_cons, List.length_nil, List.set_cons_zero, List.set_cons_succ, true_or, or_true, Classical.not_not, not_true_eq_false, not_false_eq_true, ab_01r, ab_01z, ab_01n, false_implies, ab_tt, Nat.reduceLT, Nat.reduceEqDiff, Int.reduceNeg, Int.reduceLT, Int.reduceLE, Int.add_zero, Int.zero_add, List.append_nil, Int.reduceEq, ab_sum1, ab_ri_0, ab_ri_1, ab_ri_2, ab_ri_3, ab_ri_4, ab_ri_5, ab_ri_6, ab_ri_7, ab_ri_8, ab_ri_12, ab_ri_30, ab_ri_60, ab_ri_100, ab_ri_101, ab_ri_127, ab_ri_m1, ab_ri_m2, ab_ri_m3, ab_ri_m4, ab_ri_m5, ab_ri_m11, ab_ri_m13, ab_ri_m14, ab_ri_10, ab_fd, ab_ai, h1, hh, c1, f0, f1, e1, c, d, eq_true hv, Nat.reduceLeDiff, q] <;> omega
      · rw [if_neg d] at q
        have ih := ih (j - 1) (by omega) (by omega) q
        have en : j + -1 = j - 1 := rfl
        simp only [s40_8, s40_10, s40_13, s40_14, s40_17, s40_18, s40_20, s40_21, s40_23, s40_24, s40_25, s40_26, s40_29, s40_31, s40_34, s40_36, s40_37, s40_40, s40_43, true_and, and_true, true_implies, Option.toList_some, Option.toList_none, List.nil_append, List.cons_append, List.map_nil, List.map_cons, List.sum_nil, List.sum_cons, Nat.zero_le, ab_nl_n, ab_nl_i, ab_nl_r, ab_nl_0, ab_cat_i, ab_cat_r, ab_cat_l, Nat.reduceAdd, Nat.reduceLeDiff, Nat.add_zero, Nat.zero_add, reduceIte, List.getElem?_cons_succ, List.getElem?_cons_zero, List.length_cons, List.length_nil, List.set_cons_zero, List.set_cons_succ, true_or, or_true, Classical.not_not, not_true_eq_false, not_false_eq_true, ab_01r, ab_01z, ab_01n, false_implies, ab_tt, Nat.reduceLT, Nat.reduceEqDiff, Int.reduceNeg, Int.reduceLT, Int.reduceLE, Int.add_zero, Int.zero_add, List.append_nil, Int.reduceEq, ab_sum1, ab_ri_0, ab_ri_1, ab_ri_2, ab_ri_3, ab_ri_4, ab_ri_5, ab_ri_6, ab_ri_7, ab_ri_8, ab_ri_12, ab_ri_30, ab_ri_60, ab_ri_100, ab_ri_101, ab_ri_127, ab_ri_m1, ab_ri_m2, ab_ri_m3, ab_ri_m4, ab_ri_m5, ab_ri_m11, ab_ri_m13, ab_ri_m14, ab_ri_10, ab_fd, ab_ai, h1, hh, c1, f0, f1, e1, c, d, en, eq_true hv, eq_true jr, Nat.reduceLeDiff, ih] <;> omega
    · rw [if_neg c] at q
      have ih := ih j j0 jr q
      simp only [s40_8, s40_10, s40_13, s40_14, s40_17, s40_18, s40_20, s40_21, s40_23, s40_24, s40_25, s40_26, s40_29, s40_31, s40_34, s40_36, s40_37, s40_40, s40_43, true_and, and_true, true_implies, Option.toList_some, Option.toList_none, List.nil_append, List.cons_append, List.map_nil, List.map_cons, List.sum_nil, List.sum_cons, Nat.zero_le, ab_nl_n, ab_nl_i, ab_nl_r, ab_nl_0, ab_cat_i, ab_cat_r, ab_cat_l, Nat.reduceAdd, Nat.reduceLeDiff, Nat.add_zero, Nat.zero_add, reduceIte, List.getElem?_cons_succ, List.getElem?_cons_zero, List.length_cons, List.length_nil, List.set_cons_zero, List.set_cons_succ, true_or, or_true, Classical.not_not, not_true_eq_false, not_false_eq_true, ab_01r, ab_01z, ab_01n, false_implies, ab_tt, Nat.reduceLT, Nat.reduceEqDiff, Int.reduceNeg, Int.reduceLT, Int.reduceLE, Int.add_zero, Int.zero_add, List.append_nil, Int.reduceEq, ab_sum1, ab_ri_0, ab_ri_1, ab_ri_2, ab_ri_3, ab_ri_4, ab_ri_5, ab_ri_6, ab_ri_7, ab_ri_8, ab_ri_12, ab_ri_30, ab_ri_60, ab_ri_100, ab_ri_101, ab_ri_127, ab_ri_m1, ab_ri_m2, ab_ri_m3, ab_ri_m4, ab_ri_m5, ab_ri_m11, ab_ri_m13, ab_ri_m14, ab_ri_10, ab_fd, ab_ai, h1, hh, c1, f0, f1, e1, c, eq_true hv, eq_true e2, Nat.reduceLeDiff, ih] <;> omega
end SW
