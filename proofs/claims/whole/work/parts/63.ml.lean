/-! ===== the model: the parser ===== -/
def ab_ps (σ : Nat → Int) (a k m : Int) : Nat → Int := ab_su (ab_su (ab_su σ 25 a) 26 k) 29 m
theorem ab_ps_25 {σ : Nat → Int} {a k m : Int} : ab_ps σ a k m 25 = a := rfl
theorem ab_ps_26 {σ : Nat → Int} {a k m : Int} : ab_ps σ a k m 26 = k := rfl
theorem ab_ps_29 {σ : Nat → Int} {a k m : Int} : ab_ps σ a k m 29 = m := rfl
theorem ab_ps_8 {σ : Nat → Int} {a k m : Int} : ab_ps σ a k m 8 = σ 8 := rfl
theorem ab_ps_o {σ : Nat → Int} {a k m : Int} {i : Nat} (h1 : i ≠ 25) (h2 : i ≠ 26) (h3 : i ≠ 29) : ab_ps σ a k m i = σ i := (ab_su_n h3).trans ((ab_su_n h2).trans (ab_su_n h1))
theorem ab_ps_s25 {σ : Nat → Int} {a k m x : Int} : ab_su (ab_ps σ a k m) 25 x = ab_ps σ x k m := by
  funext i
  unfold ab_ps ab_su
  by_cases e1 : i = 25
  · subst e1; rfl
  · simp only [e1, if_false]
theorem ab_ps_s26 {σ : Nat → Int} {a k m x : Int} : ab_su (ab_ps σ a k m) 26 x = ab_ps σ a x m := by
  funext i
  unfold ab_ps ab_su
  by_cases e1 : i = 26
  · subst e1; rfl
  · simp only [e1, if_false]
theorem ab_ps_s29 {σ : Nat → Int} {a k m x : Int} : ab_su (ab_ps σ a k m) 29 x = ab_ps σ a k x := by
  unfold ab_ps
  rw [ab_su_su]
def ab_pz (h : ab_H) (σ : Nat → Int) (a k m : Int) (F G M : Int → Int) : ab_H := ab_hs (ab_hs (ab_hs (ab_hs h 87 (ab_ia 30 F)) 88 (ab_ia 31 G)) 89 (ab_ia 60 M)) 68 (ab_mo (ab_ps σ a k m))
section ML
variable {h : ab_H} {n : Nat} {Q : ab_Q} {σ : Nat → Int} {a k m : Int} {F G M : Int → Int}
theorem ab_pz_68 : ab_pz h σ a k m F G M 68 = some (ab_mo (ab_ps σ a k m)) := ab_hs_self
theorem ab_pz_89 : ab_pz h σ a k m F G M 89 = some (ab_ia 60 M) := (ab_hs_ne (by decide)).trans ab_hs_self
theorem ab_pz_88 : ab_pz h σ a k m F G M 88 = some (ab_ia 31 G) := (ab_hs_ne (by decide)).trans ((ab_hs_ne (by decide)).trans ab_hs_self)
theorem ab_pz_87 : ab_pz h σ a k m F G M 87 = some (ab_ia 30 F) := (ab_hs_ne (by decide)).trans ((ab_hs_ne (by decide)).trans ((ab_hs_ne (by decide)).trans ab_hs_self))
theorem ab_pz_o {i : Nat} (h1 : i ≠ 68) (h2 : i ≠ 87) (h3 : i ≠ 88) (h4 : i ≠ 89) : ab_pz h σ a k m F G M i = h i := (ab_hs_ne h1).trans ((ab_hs_ne h4).trans ((ab_hs_ne h3).trans (ab_hs_ne h2)))
theorem ab_pz_s25 {x : Int} : ab_hs (ab_pz h σ a k m F G M) 68 (ab_mo (ab_su (ab_ps σ a k m) 25 x)) = ab_pz h σ x k m F G M := by
  unfold ab_pz
  rw [ab_hs_hs, ab_ps_s25]
theorem ab_pz_s26 {x : Int} : ab_hs (ab_pz h σ a k m F G M) 68 (ab_mo (ab_su (ab_ps σ a k m) 26 x)) = ab_pz h σ a x m F G M := by
  unfold ab_pz
  rw [ab_hs_hs, ab_ps_s26]
theorem ab_pz_s29 {x : Int} : ab_hs (ab_pz h σ a k m F G M) 68 (ab_mo (ab_su (ab_ps σ a k m) 29 x)) = ab_pz h σ a k x F G M := by
  unfold ab_pz
  rw [ab_hs_hs, ab_ps_s29]
theorem ab_pz_s87 {f : Int → Int} : ab_hs (ab_pz h σ a k m F G M) 87 (ab_ia 30 f) = ab_pz h σ a k m f G M := by
  unfold ab_pz
  rw [ab_hs_cm (a := 68) (b := 87) (by decide), ab_hs_cm (a := 89) (b := 87) (by decide), ab_hs_cm (a := 88) (b := 87) (by decide), ab_hs_hs]
theorem ab_pz_s88 {f : Int → Int} : ab_hs (ab_pz h σ a k m F G M) 88 (ab_ia 31 f) = ab_pz h σ a k m F f M := by
  unfold ab_pz
  rw [ab_hs_cm (a := 68) (b := 88) (by decide), ab_hs_cm (a := 89) (b := 88) (by decide), ab_hs_hs]
theorem ab_pz_s89 {f : Int → Int} : ab_hs (ab_pz h σ a k m F G M) 89 (ab_ia 60 f) = ab_pz h σ a k m F G f := by
  unfold ab_pz
  rw [ab_hs_cm (a := 68) (b := 89) (by decide), ab_hs_hs]
/-- the tape -/
def ab_tpe (h : ab_H) (t : Int → Int) (s : Int) : Prop := h 76 = some (ab_ia 60 t) ∧ 0 ≤ s ∧ s ≤ 60 ∧ ∀ i, 0 ≤ i → i < s → 1 ≤ t i ∧ t i ≤ 127
variable {t : Int → Int}
theorem mp_takes {b : Int} (hp : ab_tpe h t (σ 8)) (ha : 0 ≤ a ∧ a ≤ σ 8) (hb : 0 ≤ b ∧ b ≤ 127) (q1 : a < σ 8 → t a = b → Q (some (vi 1)) (ab_pz h σ (a + 1) k m F G M) n) (q2 : (a < σ 8 → t a ≠ b) → Q (some (vi 0)) (ab_pz h σ a k m F G M) n) : ab_G 157 0 [some (vr 68), some (vi b)] [] (ab_pz h σ a k m F G M) n (0, 0) Q := by
  obtain ⟨p1, p2, p3, p4⟩ := hp
  have p76 : ab_pz h σ a k m F G M 76 = some (ab_ia 60 t) := (ab_pz_o (by decide) (by decide) (by decide) (by decide)).trans p1
  have ar : ab_inR a = True := eq_true (by omega)
  have sr : ab_inR (σ 8) = True := eq_true (by omega)
  have br : ab_inR b = True := eq_true (by omega)
  by_cases c : a = σ 8
  · have q := q2 (fun z => absurd c (by omega))
    have ct : (a = σ 8) = True := eq_true c
    simp only [s157_0, s157_1, s157_4, s157_5, s157_8, s157_24, s157_25, true_and, and_true, true_implies, Option.toList_some, Option.toList_none, List.nil_append, List.cons_append, List.map_nil, List.map_cons, List.sum_nil, List.sum_cons, Nat.zero_le, ab_nl_n, ab_nl_i, ab_nl_r, ab_nl_0, ab_cat_i, ab_cat_r, ab_cat_l, Nat.reduceAdd, Nat.reduceLeDiff, Nat.add_zero, Nat.zero_add, reduceIte, List.getElem?_cons_succ, List.getElem?_cons_zero, List.length_cons, List.length_nil, List.set_cons_zero, List.set_cons_succ, true_or, or_true, Classical.not_not, not_true_eq_false, not_false_eq_true, ab_01r, ab_01z, ab_01n, false_implies, ab_tt, Nat.reduceLT, Nat.reduceEqDiff, Int.reduceNeg, Int.reduceLT, Int.reduceLE, Int.add_zero, Int.zero_add, List.append_nil, Int.reduceEq, ab_sum1, ab_ri_0, ab_ri_1, ab_ri_2, ab_ri_3, ab_ri_4, ab_ri_5, ab_ri_6, ab_ri_7, ab_ri_8, ab_ri_12, ab_ri_30, ab_ri_60, ab_ri_100, ab_ri_101, ab_ri_127, ab_ri_m1, ab_ri_m2, ab_ri_m3, ab_ri_m4, ab_ri_m5, ab_ri_m11, ab_ri_m13, ab_ri_m14, ab_ri_10, ab_fd, ab_fs, ab_ai, ab_as, ab_fit, ab_tyf, tyX12, ab_mg_0, ab_mg_1, ab_mg_2, ab_mg_3, ab_mg_4, ab_mg_5, ab_mg_6, ab_mg_7, ab_mg_8, ab_mg_9, ab_mg_10, ab_mg_11, ab_mg_12, ab_mg_13, ab_mg_14, ab_mg_15, ab_mg_16, ab_mg_17, ab_mg_18, ab_mg_19, ab_mg_20, ab_mg_21, ab_mg_22, ab_mg_23, ab_mg_24, ab_mg_25, ab_mg_26, ab_mg_27, ab_mg_28, ab_mg_29, ab_mg_30, ab_mg_31, ab_mg_32, ab_mg_33, ab_ms_8, ab_ms_10, ab_ms_11, ab_ms_17, ab_ms_21, ab_ms_22, ab_ms_24, ab_ms_25, ab_ms_26, ab_ms_29, ab_ms_32, ab_mol_l, Nat.reduceLT, Nat.reduceLeDiff, ab_pz_68, ab_ps_25, ab_ps_8, ar, sr, ct, q]
  · have a0 := ha.1
    have a60 : a < ((60 : Nat) : Int) := by omega
    have tr := p4 a ha.1 (by omega)
    have tbr : ab_inR (t a) = True := eq_true (by omega)
    have ct : (a = σ 8) = False := eq_false c
    by_cases e : t a = b
    · have q := q1 (by omega) e
      have et : (t a = b) = True := eq_true e
      simp only [s157_0, s157_1, s157_4, s157_5, s157_8, s157_11, s157_12, s157_15, s157_16, s157_19, s157_20, s157_21, s157_26, s157_27, s157_28, s157_31, s157_32, s157_33, s157_36, s157_37, true_and, and_true, true_implies, Option.toList_some, Option.toList_none, List.nil_append, List.cons_append, List.map_nil, List.map_cons, List.sum_nil, List.sum_cons, Nat.zero_le, ab_nl_n, ab_nl_i, ab_nl_r, ab_nl_0, ab_cat_i, ab_cat_r, ab_cat_l, Nat.reduceAdd, Nat.reduceLeDiff, Nat.add_zero, Nat.zero_add, reduceIte, List.getElem?_cons_succ, List.getElem?_cons_zero, List.length_cons, List.length_nil, List.set_cons_zero, List.set_cons_succ, true_or, or_true, Classical.not_not, not_true_eq_false, not_false_eq_true, ab_01r, ab_01z, ab_01n, false_implies, ab_tt, Nat.reduceLT, Nat.reduceEqDiff, Int.reduceNeg, Int.reduceLT, Int.reduceLE, Int.add_zero, Int.zero_add, List.append_nil, Int.reduceEq, ab_sum1, ab_ri_0, ab_ri_1, ab_ri_2, ab_ri_3, ab_ri_4, ab_ri_5, ab_ri_6, ab_ri_7, ab_ri_8, ab_ri_12, ab_ri_30, ab_ri_60, ab_ri_100, ab_ri_101, ab_ri_127, ab_ri_m1, ab_ri_m2, ab_ri_m3, ab_ri_m4, ab_ri_m5, ab_ri_m11, ab_ri_m13, ab_ri_m14, ab_ri_10, ab_fd, ab_fs, ab_ai, ab_as, ab_fit, ab_tyf, tyX12, ab_mg_0, ab_mg_1, ab_mg_2, ab_mg_3, ab_mg_4, ab_mg_5, ab_mg_6, ab_mg_7, ab_mg_8, ab_mg_9, ab_mg_10, ab_mg_11, ab_mg_12, ab_mg_13, ab_mg_14, ab_mg_15, ab_mg_16, ab_mg_17, ab_mg_18, ab_mg_19, ab_mg_20, ab_mg_21, ab_mg_22, ab_mg_23, ab_mg_24, ab_mg_25, ab_mg_26, ab_mg_27, ab_mg_28, ab_mg_29, ab_mg_30, ab_mg_31, ab_mg_32, ab_mg_33, ab_ms_8, ab_ms_10, ab_ms_11, ab_ms_17, ab_ms_21, ab_ms_22, ab_ms_24, ab_ms_25, ab_ms_26, ab_ms_29, ab_ms_32, ab_mol_l, Nat.reduceLT, Nat.reduceLeDiff, ab_pz_68, ab_ps_25, ab_ps_8, p76, ar, sr, ct, a0, a60, tbr, br, et, ab_pz_s25, q]
    · have q := q2 (fun _ => e)
      have et : (t a = b) = False := eq_false e
      simp only [s157_0, s157_1, s157_4, s157_5, s157_8, s157_11, s157_12, s157_15, s157_16, s157_19, s157_20, s157_21, s157_24, s157_25, true_and, and_true, true_implies, Option.toList_some, Option.toList_none, List.nil_append, List.cons_append, List.map_nil, List.map_cons, List.sum_nil, List.sum_cons, Nat.zero_le, ab_nl_n, ab_nl_i, ab_nl_r, ab_nl_0, ab_cat_i, ab_cat_r, ab_cat_l, Nat.reduceAdd, Nat.reduceLeDiff, Nat.add_zero, Nat.zero_add, reduceIte, List.getElem?_cons_succ, List.getElem?_cons_zero, List.length_cons, List.length_nil, List.set_cons_zero, List.set_cons_succ, true_or, or_true, Classical.not_not, not_true_eq_false, not_false_eq_true, ab_01r, ab_01z, ab_01n, false_implies, ab_tt, Nat.reduceLT, Nat.reduceEqDiff, Int.reduceNeg, Int.reduceLT, Int.reduceLE, Int.add_zero, Int.zero_add, List.append_nil, Int.reduceEq, ab_sum1, ab_ri_0, ab_ri_1, ab_ri_2, ab_ri_3, ab_ri_4, ab_ri_5, ab_ri_6, ab_ri_7, ab_ri_8, ab_ri_12, ab_ri_30, ab_ri_60, ab_ri_100, ab_ri_101, ab_ri_127, ab_ri_m1, ab_ri_m2, ab_ri_m3, ab_ri_m4, ab_ri_m5, ab_ri_m11, ab_ri_m13, ab_ri_m14, ab_ri_10, ab_fd, ab_fs, ab_ai, ab_as, ab_fit, ab_tyf, tyX12, ab_mg_0, ab_mg_1, ab_mg_2, ab_mg_3, ab_mg_4, ab_mg_5, ab_mg_6, ab_mg_7, ab_mg_8, ab_mg_9, ab_mg_10, ab_mg_11, ab_mg_12, ab_mg_13, ab_mg_14, ab_mg_15, ab_mg_16, ab_mg_17, ab_mg_18, ab_mg_19, ab_mg_20, ab_mg_21, ab_mg_22, ab_mg_23, ab_mg_24, ab_mg_25, ab_mg_26, ab_mg_27, ab_mg_28, ab_mg_29, ab_mg_30, ab_mg_31, ab_mg_32, ab_mg_33, ab_ms_8, ab_ms_10, ab_ms_11, ab_ms_17, ab_ms_21, ab_ms_22, ab_ms_24, ab_ms_25, ab_ms_26, ab_ms_29, ab_ms_32, ab_mol_l, Nat.reduceLT, Nat.reduceLeDiff, ab_pz_68, ab_ps_25, ab_ps_8, p76, ar, sr, ct, a0, a60, tbr, br, et, q]
theorem mp_isHere {lo hi : Int} (hp : ab_tpe h t (σ 8)) (ha : 0 ≤ a ∧ a ≤ σ 8) (hlo : 0 ≤ lo ∧ lo ≤ 127) (hhi : 0 ≤ hi ∧ hi ≤ 127) (q1 : a < σ 8 → lo ≤ t a → t a ≤ hi → Q (some (vi 1)) (ab_pz h σ a k m F G M) n) (q2 : (a < σ 8 → ¬ (lo ≤ t a ∧ t a ≤ hi)) → Q (some (vi 0)) (ab_pz h σ a k m F G M) n) : ab_G 158 0 [some (vr 68), some (vi lo), some (vi hi)] [] (ab_pz h σ a k m F G M) n (0, 0) Q := by
  obtain ⟨p1, p2, p3, p4⟩ := hp
  have p76 : ab_pz h σ a k m F G M 76 = some (ab_ia 60 t) := (ab_pz_o (by decide) (by decide) (by decide) (by decide)).trans p1
  have ar : ab_inR a = True := eq_true (by omega)
  have sr : ab_inR (σ 8) = True := eq_true (by omega)
  by_cases c : σ 8 ≤ a
  · have q := q2 (fun z => absurd c (by omega))
    simp only [s158_0, s158_1, s158_4, s158_5, s158_8, s158_32, s158_33, true_and, and_true, true_implies, Option.toList_some, Option.toList_none, List.nil_append, List.cons_append, List.map_nil, List.map_cons, List.sum_nil, List.sum_cons, Nat.zero_le, ab_nl_n, ab_nl_i, ab_nl_r, ab_nl_0, ab_cat_i, ab_cat_r, ab_cat_l, Nat.reduceAdd, Nat.reduceLeDiff, Nat.add_zero, Nat.zero_add, reduceIte, List.getElem?_cons_succ, List.getElem?_cons_zero, List.length_cons, List.length_nil, List.set_cons_zero, List.set_cons_succ, true_or, or_true, Classical.not_not, not_true_eq_false, not_false_eq_true, ab_01r, ab_01z, ab_01n, false_implies, ab_tt, Nat.reduceLT, Nat.reduceEqDiff, Int.reduceNeg, Int.reduceLT, Int.reduceLE, Int.add_zero, Int.zero_add, List.append_nil, Int.reduceEq, ab_sum1, ab_ri_0, ab_ri_1, ab_ri_2, ab_ri_3, ab_ri_4, ab_ri_5, ab_ri_6, ab_ri_7, ab_ri_8, ab_ri_12, ab_ri_30, ab_ri_60, ab_ri_100, ab_ri_101, ab_ri_127, ab_ri_m1, ab_ri_m2, ab_ri_m3, ab_ri_m4, ab_ri_m5, ab_ri_m11, ab_ri_m13, ab_ri_m14, ab_ri_10, ab_fd, ab_fs, ab_ai, ab_as, ab_fit, ab_tyf, tyX12, ab_mg_0, ab_mg_1, ab_mg_2, ab_mg_3, ab_mg_4, ab_mg_5, ab_mg_6, ab_mg_7, ab_mg_8, ab_mg_9, ab_mg_10, ab_mg_11, ab_mg_12, ab_mg_13, ab_mg_14, ab_mg_15, ab_mg_16, ab_mg_17, ab_mg_18, ab_mg_19, ab_mg_20, ab_mg_21, ab_mg_22, ab_mg_23, ab_mg_24, ab_mg_25, ab_mg_26, ab_mg_27, ab_mg_28, ab_mg_29, ab_mg_30, ab_mg_31, ab_mg_32, ab_mg_33, ab_ms_8, ab_ms_10, ab_ms_11, ab_ms_17, ab_ms_21, ab_ms_22, ab_ms_24, ab_ms_25, ab_ms_26, ab_ms_29, ab_ms_32, ab_mol_l, Nat.reduceLT, Nat.reduceLeDiff, ab_pz_68, ab_ps_25, ab_ps_8, ar, sr, c, q]
  · have a0 := ha.1
    have a60 : a < ((60 : Nat) : Int) := by omega
    have tr := p4 a ha.1 (by omega)
    by_cases e : lo ≤ t a ∧ t a ≤ hi
    · have q := q1 (by omega) e.1 e.2
      have e1 := e.1
      have e2 := e.2
      simp (disch := omega) only [s158_0, s158_1, s158_4, s158_5, s158_8, s158_11, s158_12, s158_15, s158_16, s158_19, s158_20, s158_21, s158_22, s158_25, s158_28, s158_29, s158_32, s158_33, true_and, and_true, true_implies, Option.toList_some, Option.toList_none, List.nil_append, List.cons_append, List.map_nil, List.map_cons, List.sum_nil, List.sum_cons, Nat.zero_le, ab_nl_n, ab_nl_i, ab_nl_r, ab_nl_0, ab_cat_i, ab_cat_r, ab_cat_l, Nat.reduceAdd, Nat.reduceLeDiff, Nat.add_zero, Nat.zero_add, reduceIte, List.getElem?_cons_succ, List.getElem?_cons_zero, List.length_cons, List.length_nil, List.set_cons_zero, List.set_cons_succ, true_or, or_true, Classical.not_not, not_true_eq_false, not_false_eq_true, ab_01r, ab_01z, ab_01n, false_implies, ab_tt, Nat.reduceLT, Nat.reduceEqDiff, Int.reduceNeg, Int.reduceLT, Int.reduceLE, Int.add_zero, Int.zero_add, List.append_nil, Int.reduceEq, ab_sum1, ab_ri_0, ab_ri_1, ab_ri_2, ab_ri_3, ab_ri_4, ab_ri_5, ab_ri_6, ab_ri_7, ab_ri_8, ab_ri_12, ab_ri_30, ab_ri_60, ab_ri_100, ab_ri_101, ab_ri_127, ab_ri_m1, ab_ri_m2, ab_ri_m3, ab_ri_m4, ab_ri_m5, ab_ri_m11, ab_ri_m13, ab_ri_m14, ab_ri_10, ab_fd, ab_fs, ab_ai, ab_as, ab_fit, ab_tyf, tyX12, ab_mg_0, ab_mg_1, ab_mg_2, ab_mg_3, ab_mg_4, ab_mg_5, ab_mg_6, ab_mg_7, ab_mg_8, ab_mg_9, ab_mg_10, ab_mg_11, ab_mg_12, ab_mg_13, ab_mg_14, ab_mg_15, ab_mg_16, ab_mg_17, ab_mg_18, ab_mg_19, ab_mg_20, ab_mg_21, ab_mg_22, ab_mg_23, ab_mg_24, ab_mg_25, ab_mg_26, ab_mg_27, ab_mg_28, ab_mg_29, ab_mg_30, ab_mg_31, ab_mg_32, ab_mg_33, ab_ms_8, ab_ms_10, ab_ms_11, ab_ms_17, ab_ms_21, ab_ms_22, ab_ms_24, ab_ms_25, ab_ms_26, ab_ms_29, ab_ms_32, ab_mol_l, Nat.reduceLT, Nat.reduceLeDiff, ab_pz_68, ab_ps_25, ab_ps_8, p76, ar, sr, c, a0, a60, mp_in, e1, e2, and_self, ab_01n, ab_01z, q]
    · have q := q2 (fun _ => e)
      have et : (lo ≤ t a ∧ t a ≤ hi) = False := eq_false e
      simp (disch := omega) only [s158_0, s158_1, s158_4, s158_5, s158_8, s158_11, s158_12, s158_15, s158_16, s158_19, s158_20, s158_21, s158_22, s158_25, s158_28, s158_29, s158_32, s158_33, true_and, and_true, true_implies, Option.toList_some, Option.toList_none, List.nil_append, List.cons_append, List.map_nil, List.map_cons, List.sum_nil, List.sum_cons, Nat.zero_le, ab_nl_n, ab_nl_i, ab_nl_r, ab_nl_0, ab_cat_i, ab_cat_r, ab_cat_l, Nat.reduceAdd, Nat.reduceLeDiff, Nat.add_zero, Nat.zero_add, reduceIte, List.getElem?_cons_succ, List.getElem?_cons_zero, List.length_cons, List.length_nil, List.set_cons_zero, List.set_cons_succ, true_or, or_true, Classical.not_not, not_true_eq_false, not_false_eq_true, ab_01r, ab_01z, ab_01n, false_implies, ab_tt, Nat.reduceLT, Nat.reduceEqDiff, Int.reduceNeg, Int.reduceLT, Int.reduceLE, Int.add_zero, Int.zero_add, List.append_nil, Int.reduceEq, ab_sum1, ab_ri_0, ab_ri_1, ab_ri_2, ab_ri_3, ab_ri_4, ab_ri_5, ab_ri_6, ab_ri_7, ab_ri_8, ab_ri_12, ab_ri_30, ab_ri_60, ab_ri_100, ab_ri_101, ab_ri_127, ab_ri_m1, ab_ri_m2, ab_ri_m3, ab_ri_m4, ab_ri_m5, ab_ri_m11, ab_ri_m13, ab_ri_m14, ab_ri_10, ab_fd, ab_fs, ab_ai, ab_as, ab_fit, ab_tyf, tyX12, ab_mg_0, ab_mg_1, ab_mg_2, ab_mg_3, ab_mg_4, ab_mg_5, ab_mg_6, ab_mg_7, ab_mg_8, ab_mg_9, ab_mg_10, ab_mg_11, ab_mg_12, ab_mg_13, ab_mg_14, ab_mg_15, ab_mg_16, ab_mg_17, ab_mg_18, ab_mg_19, ab_mg_20, ab_mg_21, ab_mg_22, ab_mg_23, ab_mg_24, ab_mg_25, ab_mg_26, ab_mg_27, ab_mg_28, ab_mg_29, ab_mg_30, ab_mg_31, ab_mg_32, ab_mg_33, ab_ms_8, ab_ms_10, ab_ms_11, ab_ms_17, ab_ms_21, ab_ms_22, ab_ms_24, ab_ms_25, ab_ms_26, ab_ms_29, ab_ms_32, ab_mol_l, Nat.reduceLT, Nat.reduceLeDiff, ab_pz_68, ab_ps_25, ab_ps_8, p76, ar, sr, c, a0, a60, mp_in, et, ab_01n, ab_01z, q]
/-- no fault before a -/
def ab_pgd (t : Int → Int) (s a : Int) : Prop := 0 ≤ a ∧ a ≤ s ∧ ∀ j : Nat, (j : Int) < a → 0 ≤ ab_sts t (j + 1)
/-- the first fault is at a -/
def ab_pbd (t : Int → Int) (s a : Int) : Prop := ab_pgd t s a ∧ ((a = s ∧ ab_sts t a.toNat ≠ 7) ∨ (a < s ∧ ab_nx (ab_sts t a.toNat) (t a) < 0))
theorem ab_pgd_s {s : Int} (g : ab_pgd t s a) (h1 : a < s) (h2 : 0 ≤ ab_nx (ab_sts t a.toNat) (t a)) : ab_pgd t s (a + 1) ∧ ab_sts t (a + 1).toNat = ab_nx (ab_sts t a.toNat) (t a) := by
  obtain ⟨g1, g2, g3⟩ := g
  have e : ab_sts t (a + 1).toNat = ab_nx (ab_sts t a.toNat) (t a) := by
    rw [show (a + 1).toNat = a.toNat + 1 by omega, ab_sts, Int.toNat_of_nonneg g1]
  refine ⟨⟨by omega, by omega, fun j hj => ?_⟩, e⟩
  by_cases c : (j : Int) = a
  · rw [show j + 1 = (a + 1).toNat by omega, e]
    exact h2
  · exact g3 j (by omega)
theorem ab_pbd_ft {s : Int} (g : ab_pbd t s a) : ab_ft t 0 s.toNat = a := by
  obtain ⟨⟨g1, g2, g3⟩, g4⟩ := g
  rcases g4 with ⟨e, hn⟩ | ⟨hl, hn⟩
  · have := ab_ft_no (t := t) s.toNat 0 (fun j _ hj => g3 j (by omega))
    rw [this, Nat.zero_add, ← e, if_neg hn]
    omega
  · have := ab_ft_at (t := t) s.toNat 0 a.toNat (by omega) (by omega) (fun j _ hj => g3 j (by omega)) (by rw [ab_sts, Int.toNat_of_nonneg g1]; exact hn)
    omega
theorem ab_pgd_ft {s : Int} (g : ab_pgd t s s) (h7 : ab_sts t s.toNat = 7) : ab_ft t 0 s.toNat = -1 := by
  obtain ⟨g1, g2, g3⟩ := g
  have := ab_ft_no (t := t) s.toNat 0 (fun j _ hj => g3 j (by omega))
  rw [this, Nat.zero_add, if_pos h7]
/-- in a term that began at p, at a, in state st, with z seen -/
def ab_py (t : Int → Int) (s p a st : Int) (z : ab_NT) : Prop := ab_pgd t s a ∧ ab_sts t a.toNat = st ∧ 0 ≤ p ∧ p ≤ a ∧ (∀ i, p ≤ i → i < a → t i ≠ 93) ∧ ab_nts t p (fun _ => 0) (a - p).toNat = z
theorem ab_py_s {s p st : Int} {z : ab_NT} (g : ab_py t s p a st z) (h1 : a < s) (h2 : 0 ≤ ab_nx st (t a)) (h3 : t a ≠ 93) : ab_py t s p (a + 1) (ab_nx st (t a)) (ab_ntx (t a) z) := by
  obtain ⟨g1, g2, g3, g4, g5, g6⟩ := g
  have s1 := ab_pgd_s g1 h1 (by rw [g2]; exact h2)
  refine ⟨s1.1, by rw [s1.2, g2], g3, by omega, fun i i0 i1 => ?_, ?_⟩
  · by_cases e : i = a
    · rw [e]; exact h3
    · exact g5 i i0 (by omega)
  · rw [show (a + 1 - p).toNat = (a - p).toNat + 1 by omega, ab_nts, g6, show p + (((a - p).toNat : Nat) : Int) = a by omega]
theorem ab_py_bad {s p st : Int} {z : ab_NT} (g : ab_py t s p a st z) (h7 : st ≠ 7) (h : a < s → ab_nx st (t a) < 0) : ab_pbd t s a := by
  obtain ⟨g1, g2, -⟩ := g
  refine ⟨g1, ?_⟩
  by_cases c : a = s
  · exact Or.inl ⟨c, by rw [g2]; exact h7⟩
  · have := g1.2.1
    exact Or.inr ⟨by omega, by rw [g2]; exact h (by omega)⟩
end ML
