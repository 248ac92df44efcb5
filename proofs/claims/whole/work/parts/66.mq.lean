/-! ===== the model: terms done ===== -/
def ab_flg (g : Int → Int) (mc : Int) (d : Nat) : Int := if (∀ j : Nat, j < d + 1 → -5 ≤ ab_tog g mc j) then 0 else 1
theorem ab_flg_s {g : Int → Int} {mc : Int} {d : Nat} : ab_flg g mc (d + 1) = if ab_flg g mc d = 0 ∧ -5 ≤ ab_tog g mc (d + 1) then 0 else 1 := by
  unfold ab_flg
  by_cases c : ∀ j : Nat, j < d + 1 → -5 ≤ ab_tog g mc j
  · rw [if_pos c]
    by_cases e : -5 ≤ ab_tog g mc (d + 1)
    · rw [if_pos (show (0 : Int) = 0 ∧ _ from ⟨rfl, e⟩)]
      apply if_pos
      intro j hj
      by_cases f : j = d + 1
      · rw [f]; exact e
      · exact c j (by omega)
    · rw [if_neg (fun z : (0 : Int) = 0 ∧ _ => e z.2)]
      exact if_neg (fun z => e (z _ (by omega)))
  · rw [if_neg c, if_neg (fun z : (1 : Int) = 0 ∧ _ => absurd z.1 (by decide))]
    exact if_neg (fun z => c (fun j hj => z j (by omega)))
theorem ab_flg_r {g : Int → Int} {mc : Int} {d : Nat} : ab_flg g mc d = 0 ∨ ab_flg g mc d = 1 := by
  unfold ab_flg
  split
  · exact Or.inl rfl
  · exact Or.inr rfl
theorem ab_tog_b {g : Int → Int} {mc : Int} (hg : ∀ j, 0 ≤ j → j < mc → -5 ≤ g j ∧ g j ≤ 5) : ∀ d : Nat, (d : Int) ≤ mc → -(5 * (d : Int)) ≤ ab_tog g mc d ∧ ab_tog g mc d ≤ 5 * d
  | 0, _ => by unfold ab_tog; omega
  | d + 1, h => by
    have ih := ab_tog_b hg d (by omega)
    have := hg (mc - 1 - d) (by omega) (by omega)
    unfold ab_tog
    omega
/-- thought of a term, whole: nothing if it went below -/
def ab_tdv (T : Int → Int) (x : ab_TM) : Int → Int := match ab_adt T x.2.2 x.2.1.toNat 0 (ab_un1 0) with
  | some z => z.2
  | none => fun _ => 0
theorem ab_sma_eq {T : Int → Int} {x : ab_TM} {sm : Int → Int} (hs : ∀ i, 0 ≤ i → i < 7 → 0 ≤ sm i ∧ sm i ≤ 100) : ∀ i, 0 ≤ i → i < 7 → ab_sma T x sm i = (sm i + ab_tdv T x i * x.1) % 101 := by
  intro i i0 i7
  have := hs i i0 i7
  unfold ab_sma ab_tdv
  cases ab_adt T x.2.2 x.2.1.toNat 0 (ab_un1 0) with
  | some z =>
    show (sm i + x.1 * z.2 i) % 101 = (sm i + z.2 i * x.1) % 101
    rw [Int.mul_comm]
  | none =>
    show sm i = (sm i + 0 * x.1) % 101
    rw [Int.zero_mul, Int.add_zero, Int.emod_eq_of_lt this.1 (by omega)]
section MQ
variable {h : ab_H} {n : Nat} {Q : ab_Q} {σ : Nat → Int} {F G M L : Int → Int} {x : ab_TM} {i : Int}
theorem mp_levelOfTerm (hmo : h 68 = some (ab_mo σ)) (h88 : h 88 = some (ab_ia 31 G)) (h89 : h 89 = some (ab_ia 60 M)) (hi : 0 ≤ i ∧ i ≤ 29) (hx : ab_tat x F G M i) (hG : 0 ≤ G i ∧ G (i + 1) ≤ 60) (q : Q (some (vi (ab_lvt x.2.2 x.2.1))) h n) : ab_G 163 0 [some (vr 68), some (vi i), none, none, none] [] h n (0, 0) Q := by
  obtain ⟨nu, mc, g⟩ := x
  obtain ⟨-, -, -, x3, x3', x4, x5⟩ := hx
  simp only at x3 x3' x4 x5 q
  have i0 := hi.1
  have i31 : i < ((31 : Nat) : Int) := by omega
  have j0 : 0 ≤ i + 1 := by omega
  have j31 : i + 1 < ((31 : Nat) : Int) := by omega
  have g0 := hG.1
  have hGr : ab_inR (G i) = True := eq_true (by omega)
  have r1 : ab_inR 1 = True := eq_true (by omega)
  have r0 : ab_inR 0 = True := eq_true (by omega)
  have r5 : ab_inR 5 = True := eq_true (by omega)
  have hg : ∀ j, 0 ≤ j → j < mc → -5 ≤ g j ∧ g j ≤ 5 := fun j j0 j1 => (x5 j j0 j1).2
  have es : G (i + 1) - 1 = G i + mc - 1 - 0 := by omega
  simp only [s163_0, s163_1, s163_2, s163_3, s163_4, s163_5, s163_8, s163_9, s163_10, s163_11, s163_12, s163_13, s163_14, true_and, and_true, true_implies, Option.toList_some, Option.toList_none, List.nil_append, List.cons_append, List.map_nil, List.map_cons, List.sum_nil, List.sum_cons, Nat.zero_le, ab_nl_n, ab_nl_i, ab_nl_r, ab_nl_0, ab_cat_i, ab_cat_r, ab_cat_l, Nat.reduceAdd, Nat.reduceLeDiff, Nat.add_zero, Nat.zero_add, reduceIte, List.getElem?_cons_succ, List.getElem?_cons_zero, List.length_cons, List.length_nil, List.set_cons_zero, List.set_cons_succ, true_or, or_true, Classical.not_not, not_true_eq_false, not_false_eq_true, ab_01r, ab_01z, ab_01n, false_implies, ab_tt, Nat.reduceLT, Nat.reduceEqDiff, Int.reduceNeg, Int.reduceLT, Int.reduceLE, Int.add_zero, Int.zero_add, List.append_nil, Int.reduceEq, ab_sum1, ab_ri_0, ab_ri_1, ab_ri_2, ab_ri_3, ab_ri_4, ab_ri_5, ab_ri_6, ab_ri_7, ab_ri_8, ab_ri_12, ab_ri_30, ab_ri_60, ab_ri_100, ab_ri_101, ab_ri_127, ab_ri_m1, ab_ri_m2, ab_ri_m3, ab_ri_m4, ab_ri_m5, ab_ri_m11, ab_ri_m13, ab_ri_m14, ab_ri_10, ab_fd, ab_fs, ab_ai, ab_as, ab_fit, ab_tyf, tyX12, ab_mg_0, ab_mg_1, ab_mg_2, ab_mg_3, ab_mg_4, ab_mg_5, ab_mg_6, ab_mg_7, ab_mg_8, ab_mg_9, ab_mg_10, ab_mg_11, ab_mg_12, ab_mg_13, ab_mg_14, ab_mg_15, ab_mg_16, ab_mg_17, ab_mg_18, ab_mg_19, ab_mg_20, ab_mg_21, ab_mg_22, ab_mg_23, ab_mg_24, ab_mg_25, ab_mg_26, ab_mg_27, ab_mg_28, ab_mg_29, ab_mg_30, ab_mg_31, ab_mg_32, ab_mg_33, ab_ms_8, ab_ms_10, ab_ms_11, ab_ms_17, ab_ms_21, ab_ms_22, ab_ms_24, ab_ms_25, ab_ms_26, ab_ms_29, ab_ms_32, ab_mol_l, Nat.reduceLT, Nat.reduceLeDiff, hmo, h88, j0, j31, es]
  refine ab_lp 0 mc (fun d => [some (vr 68), some (vi i), some (vi (-ab_tog g mc d.toNat)), some (vi (ab_flg g mc d.toNat)), some (vi (G i + mc - 1 - d))]) (fun _ => h) x3 ?_ rfl ?_ ?_
  · show _ = [some (vr 68), some (vi i), some (vi (-ab_tog g mc 0)), some (vi (ab_flg g mc 0)), some (vi (G i + mc - 1 - 0))]
    have e : ab_flg g mc 0 = 0 := if_pos (fun j hj => by rw [show j = 0 by omega, ab_tog]; decide)
    rw [e, ab_tog]
    rfl
  · have e : G i + mc - 1 - mc = G i - 1 := by omega
    have c : G i - 1 < G i := by omega
    have hr : ab_inR (G i - 1) = True := eq_true (by omega)
    have tb := ab_tog_b hg mc.toNat (by omega)
    have htr : ab_inR (-ab_tog g mc mc.toNat) := by omega
    rw [s163_16]
    unfold ab_lvt at q
    by_cases f : ∀ j : Nat, j < mc.toNat + 1 → -5 ≤ ab_tog g mc j
    · rw [if_pos f] at q
      have ef : ab_flg g mc mc.toNat = 0 := if_pos f
      have f5 := f mc.toNat (by omega)
      by_cases f2 : 0 < ab_tog g mc mc.toNat
      · rw [if_pos f2] at q
        have nl : ¬ (0 ≤ -ab_tog g mc mc.toNat ∧ -ab_tog g mc mc.toNat ≤ 5) := by omega
        have rm : ab_inR (-1) = True := eq_true (by omega)
        simp only [s163_18, s163_19, s163_22, s163_23, s163_24, s163_58, s163_59, s163_62, s163_63, s163_66, s163_69, s163_70, s163_73, s163_74, true_and, and_true, true_implies, Option.toList_some, Option.toList_none, List.nil_append, List.cons_append, List.map_nil, List.map_cons, List.sum_nil, List.sum_cons, Nat.zero_le, ab_nl_n, ab_nl_i, ab_nl_r, ab_nl_0, ab_cat_i, ab_cat_r, ab_cat_l, Nat.reduceAdd, Nat.reduceLeDiff, Nat.add_zero, Nat.zero_add, reduceIte, List.getElem?_cons_succ, List.getElem?_cons_zero, List.length_cons, List.length_nil, List.set_cons_zero, List.set_cons_succ, true_or, or_true, Classical.not_not, not_true_eq_false, not_false_eq_true, ab_01r, ab_01z, ab_01n, false_implies, ab_tt, Nat.reduceLT, Nat.reduceEqDiff, Int.reduceNeg, Int.reduceLT, Int.reduceLE, Int.add_zero, Int.zero_add, List.append_nil, Int.reduceEq, ab_sum1, ab_ri_0, ab_ri_1, ab_ri_2, ab_ri_3, ab_ri_4, ab_ri_5, ab_ri_6, ab_ri_7, ab_ri_8, ab_ri_12, ab_ri_30, ab_ri_60, ab_ri_100, ab_ri_101, ab_ri_127, ab_ri_m1, ab_ri_m2, ab_ri_m3, ab_ri_m4, ab_ri_m5, ab_ri_m11, ab_ri_m13, ab_ri_m14, ab_ri_10, ab_fd, ab_fs, ab_ai, ab_as, ab_fit, ab_tyf, tyX12, ab_mg_0, ab_mg_1, ab_mg_2, ab_mg_3, ab_mg_4, ab_mg_5, ab_mg_6, ab_mg_7, ab_mg_8, ab_mg_9, ab_mg_10, ab_mg_11, ab_mg_12, ab_mg_13, ab_mg_14, ab_mg_15, ab_mg_16, ab_mg_17, ab_mg_18, ab_mg_19, ab_mg_20, ab_mg_21, ab_mg_22, ab_mg_23, ab_mg_24, ab_mg_25, ab_mg_26, ab_mg_27, ab_mg_28, ab_mg_29, ab_mg_30, ab_mg_31, ab_mg_32, ab_mg_33, ab_ms_8, ab_ms_10, ab_ms_11, ab_ms_17, ab_ms_21, ab_ms_22, ab_ms_24, ab_ms_25, ab_ms_26, ab_ms_29, ab_ms_32, ab_mol_l, Nat.reduceLT, Nat.reduceLeDiff, hmo, h88, i0, i31, e, c, hr, hGr, ef, r0, mp_isLevel htr, nl, rm, q]
      · rw [if_neg f2] at q
        have nl : (0 ≤ -ab_tog g mc mc.toNat ∧ -ab_tog g mc mc.toNat ≤ 5) = True := eq_true (by omega)
        have rm := eq_true htr
        simp only [s163_18, s163_19, s163_22, s163_23, s163_24, s163_58, s163_59, s163_62, s163_63, s163_66, s163_69, s163_70, s163_73, s163_74, true_and, and_true, true_implies, Option.toList_some, Option.toList_none, List.nil_append, List.cons_append, List.map_nil, List.map_cons, List.sum_nil, List.sum_cons, Nat.zero_le, ab_nl_n, ab_nl_i, ab_nl_r, ab_nl_0, ab_cat_i, ab_cat_r, ab_cat_l, Nat.reduceAdd, Nat.reduceLeDiff, Nat.add_zero, Nat.zero_add, reduceIte, List.getElem?_cons_succ, List.getElem?_cons_zero, List.length_cons, List.length_nil, List.set_cons_zero, List.set_cons_succ, true_or, or_true, Classical.not_not, not_true_eq_false, not_false_eq_true, ab_01r, ab_01z, ab_01n, false_implies, ab_tt, Nat.reduceLT, Nat.reduceEqDiff, Int.reduceNeg, Int.reduceLT, Int.reduceLE, Int.add_zero, Int.zero_add, List.append_nil, Int.reduceEq, ab_sum1, ab_ri_0, ab_ri_1, ab_ri_2, ab_ri_3, ab_ri_4, ab_ri_5, ab_ri_6, ab_ri_7, ab_ri_8, ab_ri_12, ab_ri_30, ab_ri_60, ab_ri_100, ab_ri_101, ab_ri_127, ab_ri_m1, ab_ri_m2, ab_ri_m3, ab_ri_m4, ab_ri_m5, ab_ri_m11, ab_ri_m13, ab_ri_m14, ab_ri_10, ab_fd, ab_fs, ab_ai, ab_as, ab_fit, ab_tyf, tyX12, ab_mg_0, ab_mg_1, ab_mg_2, ab_mg_3, ab_mg_4, ab_mg_5, ab_mg_6, ab_mg_7, ab_mg_8, ab_mg_9, ab_mg_10, ab_mg_11, ab_mg_12, ab_mg_13, ab_mg_14, ab_mg_15, ab_mg_16, ab_mg_17, ab_mg_18, ab_mg_19, ab_mg_20, ab_mg_21, ab_mg_22, ab_mg_23, ab_mg_24, ab_mg_25, ab_mg_26, ab_mg_27, ab_mg_28, ab_mg_29, ab_mg_30, ab_mg_31, ab_mg_32, ab_mg_33, ab_ms_8, ab_ms_10, ab_ms_11, ab_ms_17, ab_ms_21, ab_ms_22, ab_ms_24, ab_ms_25, ab_ms_26, ab_ms_29, ab_ms_32, ab_mol_l, Nat.reduceLT, Nat.reduceLeDiff, hmo, h88, i0, i31, e, c, hr, hGr, ef, r0, mp_isLevel htr, nl, rm, q]
    · rw [if_neg f] at q
      have ef : ab_flg g mc mc.toNat = 1 := if_neg f
      have rm : ab_inR (-1) = True := eq_true (by omega)
      simp only [s163_18, s163_19, s163_22, s163_23, s163_24, s163_58, s163_59, s163_62, s163_63, s163_66, s163_69, s163_70, s163_73, s163_74, true_and, and_true, true_implies, Option.toList_some, Option.toList_none, List.nil_append, List.cons_append, List.map_nil, List.map_cons, List.sum_nil, List.sum_cons, Nat.zero_le, ab_nl_n, ab_nl_i, ab_nl_r, ab_nl_0, ab_cat_i, ab_cat_r, ab_cat_l, Nat.reduceAdd, Nat.reduceLeDiff, Nat.add_zero, Nat.zero_add, reduceIte, List.getElem?_cons_succ, List.getElem?_cons_zero, List.length_cons, List.length_nil, List.set_cons_zero, List.set_cons_succ, true_or, or_true, Classical.not_not, not_true_eq_false, not_false_eq_true, ab_01r, ab_01z, ab_01n, false_implies, ab_tt, Nat.reduceLT, Nat.reduceEqDiff, Int.reduceNeg, Int.reduceLT, Int.reduceLE, Int.add_zero, Int.zero_add, List.append_nil, Int.reduceEq, ab_sum1, ab_ri_0, ab_ri_1, ab_ri_2, ab_ri_3, ab_ri_4, ab_ri_5, ab_ri_6, ab_ri_7, ab_ri_8, ab_ri_12, ab_ri_30, ab_ri_60, ab_ri_100, ab_ri_101, ab_ri_127, ab_ri_m1, ab_ri_m2, ab_ri_m3, ab_ri_m4, ab_ri_m5, ab_ri_m11, ab_ri_m13, ab_ri_m14, ab_ri_10, ab_fd, ab_fs, ab_ai, ab_as, ab_fit, ab_tyf, tyX12, ab_mg_0, ab_mg_1, ab_mg_2, ab_mg_3, ab_mg_4, ab_mg_5, ab_mg_6, ab_mg_7, ab_mg_8, ab_mg_9, ab_mg_10, ab_mg_11, ab_mg_12, ab_mg_13, ab_mg_14, ab_mg_15, ab_mg_16, ab_mg_17, ab_mg_18, ab_mg_19, ab_mg_20, ab_mg_21, ab_mg_22, ab_mg_23, ab_mg_24, ab_mg_25, ab_mg_26, ab_mg_27, ab_mg_28, ab_mg_29, ab_mg_30, ab_mg_31, ab_mg_32, ab_mg_33, ab_ms_8, ab_ms_10, ab_ms_11, ab_ms_17, ab_ms_21, ab_ms_22, ab_ms_24, ab_ms_25, ab_ms_26, ab_ms_29, ab_ms_32, ab_mol_l, Nat.reduceLT, Nat.reduceLeDiff, hmo, h88, i0, i31, e, c, hr, hGr, ef, r1, rm, Int.one_ne_zero, q]
  · intro d d0 d9 ih
    have ed : (d + 1).toNat = d.toNat + 1 := by omega
    have ec : ((d.toNat : Nat) : Int) = d := Int.toNat_of_nonneg d0
    rw [ed, ab_tog, ab_flg_s, ab_tog, ec] at ih
    have em : M (G i + mc - 1 - d) = g (mc - 1 - d) := by
      rw [show G i + mc - 1 - d = G i + (mc - 1 - d) by omega]
      exact (x5 _ (by omega) (by omega)).1
    have tb := ab_tog_b hg d.toNat (by omega)
    have gb := hg (mc - 1 - d) (by omega) (by omega)
    have b0 : 0 ≤ G i + mc - 1 - d := by omega
    have b60 : G i + mc - 1 - d < ((60 : Nat) : Int) := by omega
    have c : ¬ G i + mc - 1 - d < G i := by omega
    have hr : ab_inR (G i + mc - 1 - d) = True := eq_true (by omega)
    have htr : ab_inR (-ab_tog g mc d.toNat - g (mc - 1 - d)) = True := eq_true (by omega)
    have e1 : -(ab_tog g mc d.toNat + g (mc - 1 - d)) = -ab_tog g mc d.toNat - g (mc - 1 - d) := by omega
    have e2 : G i + mc - 1 - (d + 1) = G i + mc - 1 - d + -1 := by omega
    rw [e1, e2] at ih
    rw [s163_16]
    rcases ab_flg_r (g := g) (mc := mc) (d := d.toNat) with ef | ef
    · by_cases f : -5 ≤ ab_tog g mc d.toNat + g (mc - 1 - d)
      · rw [if_pos ⟨ef, f⟩] at ih
        have cl : -ab_tog g mc d.toNat - g (mc - 1 - d) ≤ 5 := by omega
        simp only [s163_18, s163_19, s163_22, s163_23, s163_24, s163_27, s163_28, s163_29, s163_32, s163_34, s163_35, s163_36, s163_37, s163_38, s163_41, s163_42, s163_43, s163_46, s163_47, s163_50, s163_51, s163_52, s163_55, true_and, and_true, true_implies, Option.toList_some, Option.toList_none, List.nil_append, List.cons_append, List.map_nil, List.map_cons, List.sum_nil, List.sum_cons, Nat.zero_le, ab_nl_n, ab_nl_i, ab_nl_r, ab_nl_0, ab_cat_i, ab_cat_r, ab_cat_l, Nat.reduceAdd, Nat.reduceLeDiff, Nat.add_zero, Nat.zero_add, reduceIte, List.getElem?_cons_succ, List.getElem?_cons_zero, List.length_cons, List.length_nil, List.set_cons_zero, List.set_cons_succ, true_or, or_true, Classical.not_not, not_true_eq_false, not_false_eq_true, ab_01r, ab_01z, ab_01n, false_implies, ab_tt, Nat.reduceLT, Nat.reduceEqDiff, Int.reduceNeg, Int.reduceLT, Int.reduceLE, Int.add_zero, Int.zero_add, List.append_nil, Int.reduceEq, ab_sum1, ab_ri_0, ab_ri_1, ab_ri_2, ab_ri_3, ab_ri_4, ab_ri_5, ab_ri_6, ab_ri_7, ab_ri_8, ab_ri_12, ab_ri_30, ab_ri_60, ab_ri_100, ab_ri_101, ab_ri_127, ab_ri_m1, ab_ri_m2, ab_ri_m3, ab_ri_m4, ab_ri_m5, ab_ri_m11, ab_ri_m13, ab_ri_m14, ab_ri_10, ab_fd, ab_fs, ab_ai, ab_as, ab_fit, ab_tyf, tyX12, ab_mg_0, ab_mg_1, ab_mg_2, ab_mg_3, ab_mg_4, ab_mg_5, ab_mg_6, ab_mg_7, ab_mg_8, ab_mg_9, ab_mg_10, ab_mg_11, ab_mg_12, ab_mg_13, ab_mg_14, ab_mg_15, ab_mg_16, ab_mg_17, ab_mg_18, ab_mg_19, ab_mg_20, ab_mg_21, ab_mg_22, ab_mg_23, ab_mg_24, ab_mg_25, ab_mg_26, ab_mg_27, ab_mg_28, ab_mg_29, ab_mg_30, ab_mg_31, ab_mg_32, ab_mg_33, ab_ms_8, ab_ms_10, ab_ms_11, ab_ms_17, ab_ms_21, ab_ms_22, ab_ms_24, ab_ms_25, ab_ms_26, ab_ms_29, ab_ms_32, ab_mol_l, Nat.reduceLT, Nat.reduceLeDiff, hmo, h88, h89, i0, i31, b0, b60, em, c, hr, hGr, htr, ef, r0, r5, cl, ih]
      · rw [if_neg (fun z => f z.2)] at ih
        have cl : ¬ -ab_tog g mc d.toNat - g (mc - 1 - d) ≤ 5 := by omega
        simp only [s163_18, s163_19, s163_22, s163_23, s163_24, s163_27, s163_28, s163_29, s163_32, s163_34, s163_35, s163_36, s163_37, s163_38, s163_41, s163_42, s163_43, s163_46, s163_47, s163_50, s163_51, s163_52, s163_55, true_and, and_true, true_implies, Option.toList_some, Option.toList_none, List.nil_append, List.cons_append, List.map_nil, List.map_cons, List.sum_nil, List.sum_cons, Nat.zero_le, ab_nl_n, ab_nl_i, ab_nl_r, ab_nl_0, ab_cat_i, ab_cat_r, ab_cat_l, Nat.reduceAdd, Nat.reduceLeDiff, Nat.add_zero, Nat.zero_add, reduceIte, List.getElem?_cons_succ, List.getElem?_cons_zero, List.length_cons, List.length_nil, List.set_cons_zero, List.set_cons_succ, true_or, or_true, Classical.not_not, not_true_eq_false, not_false_eq_true, ab_01r, ab_01z, ab_01n, false_implies, ab_tt, Nat.reduceLT, Nat.reduceEqDiff, Int.reduceNeg, Int.reduceLT, Int.reduceLE, Int.add_zero, Int.zero_add, List.append_nil, Int.reduceEq, ab_sum1, ab_ri_0, ab_ri_1, ab_ri_2, ab_ri_3, ab_ri_4, ab_ri_5, ab_ri_6, ab_ri_7, ab_ri_8, ab_ri_12, ab_ri_30, ab_ri_60, ab_ri_100, ab_ri_101, ab_ri_127, ab_ri_m1, ab_ri_m2, ab_ri_m3, ab_ri_m4, ab_ri_m5, ab_ri_m11, ab_ri_m13, ab_ri_m14, ab_ri_10, ab_fd, ab_fs, ab_ai, ab_as, ab_fit, ab_tyf, tyX12, ab_mg_0, ab_mg_1, ab_mg_2, ab_mg_3, ab_mg_4, ab_mg_5, ab_mg_6, ab_mg_7, ab_mg_8, ab_mg_9, ab_mg_10, ab_mg_11, ab_mg_12, ab_mg_13, ab_mg_14, ab_mg_15, ab_mg_16, ab_mg_17, ab_mg_18, ab_mg_19, ab_mg_20, ab_mg_21, ab_mg_22, ab_mg_23, ab_mg_24, ab_mg_25, ab_mg_26, ab_mg_27, ab_mg_28, ab_mg_29, ab_mg_30, ab_mg_31, ab_mg_32, ab_mg_33, ab_ms_8, ab_ms_10, ab_ms_11, ab_ms_17, ab_ms_21, ab_ms_22, ab_ms_24, ab_ms_25, ab_ms_26, ab_ms_29, ab_ms_32, ab_mol_l, Nat.reduceLT, Nat.reduceLeDiff, hmo, h88, h89, i0, i31, b0, b60, em, c, hr, hGr, htr, ef, r0, r5, cl, ih]
    · rw [if_neg (fun z => by rw [ef] at z; exact absurd z.1 (by decide))] at ih
      simp only [s163_18, s163_19, s163_22, s163_23, s163_24, s163_27, s163_28, s163_29, s163_32, s163_34, s163_35, s163_36, s163_37, s163_38, s163_41, s163_42, s163_43, s163_46, s163_47, s163_50, s163_51, s163_52, s163_55, true_and, and_true, true_implies, Option.toList_some, Option.toList_none, List.nil_append, List.cons_append, List.map_nil, List.map_cons, List.sum_nil, List.sum_cons, Nat.zero_le, ab_nl_n, ab_nl_i, ab_nl_r, ab_nl_0, ab_cat_i, ab_cat_r, ab_cat_l, Nat.reduceAdd, Nat.reduceLeDiff, Nat.add_zero, Nat.zero_add, reduceIte, List.getElem?_cons_succ, List.getElem?_cons_zero, List.length_cons, List.length_nil, List.set_cons_zero, List.set_cons_succ, true_or, or_true, Classical.not_not, not_true_eq_false, not_false_eq_true, ab_01r, ab_01z, ab_01n, false_implies, ab_tt, Nat.reduceLT, Nat.reduceEqDiff, Int.reduceNeg, Int.reduceLT, Int.reduceLE, Int.add_zero, Int.zero_add, List.append_nil, Int.reduceEq, ab_sum1, ab_ri_0, ab_ri_1, ab_ri_2, ab_ri_3, ab_ri_4, ab_ri_5, ab_ri_6, ab_ri_7, ab_ri_8, ab_ri_12, ab_ri_30, ab_ri_60, ab_ri_100, ab_ri_101, ab_ri_127, ab_ri_m1, ab_ri_m2, ab_ri_m3, ab_ri_m4, ab_ri_m5, ab_ri_m11, ab_ri_m13, ab_ri_m14, ab_ri_10, ab_fd, ab_fs, ab_ai, ab_as, ab_fit, ab_tyf, tyX12, ab_mg_0, ab_mg_1, ab_mg_2, ab_mg_3, ab_mg_4, ab_mg_5, ab_mg_6, ab_mg_7, ab_mg_8, ab_mg_9, ab_mg_10, ab_mg_11, ab_mg_12, ab_mg_13, ab_mg_14, ab_mg_15, ab_mg_16, ab_mg_17, ab_mg_18, ab_mg_19, ab_mg_20, ab_mg_21, ab_mg_22, ab_mg_23, ab_mg_24, ab_mg_25, ab_mg_26, ab_mg_27, ab_mg_28, ab_mg_29, ab_mg_30, ab_mg_31, ab_mg_32, ab_mg_33, ab_ms_8, ab_ms_10, ab_ms_11, ab_ms_17, ab_ms_21, ab_ms_22, ab_ms_24, ab_ms_25, ab_ms_26, ab_ms_29, ab_ms_32, ab_mol_l, Nat.reduceLT, Nat.reduceLeDiff, hmo, h88, h89, i0, i31, b0, b60, em, c, hr, hGr, htr, ef, r1, Int.one_ne_zero, ih]
theorem mp_termDone {th bw : Int → Int} (hmo : h 68 = some (ab_mo σ)) (hst : ab_mst h) (hL : ab_lok L) (hmad : ab_mad h L) (h83 : h 83 = some (ab_ia 7 th)) (h84 : h 84 = some (ab_ia 7 bw)) (h88 : h 88 = some (ab_ia 31 G)) (h89 : h 89 = some (ab_ia 60 M)) (hi : 0 ≤ i ∧ i ≤ 29) (hx : ab_tat x F G M i) (hG : 0 ≤ G i ∧ G (i + 1) ≤ 60) (hlv : 0 ≤ ab_lvt x.2.2 x.2.1)
    (q : ∀ h' tl th', (∀ a, a ≠ 68 → a ≠ 83 → a ≠ 84 → h' a = h a) → h' 68 = some (ab_mo (ab_su σ 17 tl)) → h' 83 = some (ab_ia 7 th') → (∃ bw, h' 84 = some (ab_ia 7 bw)) → (∀ j, 0 ≤ j → j < 7 → th' j = ab_tdv (ab_AT L) x j ∧ 0 ≤ th' j ∧ th' j ≤ 100) → Q none h' n) : ab_G 164 0 [some (vr 68), some (vi i), none, none] [] h n (0, 0) Q := by
  have hx' := hx
  obtain ⟨-, -, -, x3, x3', x4, x5⟩ := hx'
  have i0 := hi.1
  have i31 : i < ((31 : Nat) : Int) := by omega
  have j0 : 0 ≤ i + 1 := by omega
  have j31 : i + 1 < ((31 : Nat) : Int) := by omega
  have g0 := hG.1
  have hGr : ab_inR (G i) = True := eq_true (by omega)
  have r1 : ab_inR 1 = True := eq_true (by omega)
  have r0 : ab_inR 0 = True := eq_true (by omega)
  have hg : ∀ j, 0 ≤ j → j < x.2.1 → -5 ≤ x.2.2 j ∧ x.2.2 j ≤ 5 := fun j j0 j1 => (x5 j j0 j1).2
  have hlr := @ab_lvt_r x.2.2 x.2.1
  have htg : ∀ j : Nat, (j : Int) ≤ x.2.1 → -5 ≤ ab_tog x.2.2 x.2.1 j := by
    intro j hj
    have hlv' := hlv
    unfold ab_lvt at hlv'
    split at hlv'
    · rename_i c
      exact c j (by omega)
    · exact absurd hlv' (by decide)
  simp only [s164_0, s164_1, s164_2, s164_3, true_and, and_true, true_implies, Option.toList_some, Option.toList_none, List.nil_append, List.cons_append, List.map_nil, List.map_cons, List.sum_nil, List.sum_cons, Nat.zero_le, ab_nl_n, ab_nl_i, ab_nl_r, ab_nl_0, ab_cat_i, ab_cat_r, ab_cat_l, Nat.reduceAdd, Nat.reduceLeDiff, Nat.add_zero, Nat.zero_add, reduceIte, List.getElem?_cons_succ, List.getElem?_cons_zero, List.length_cons, List.length_nil, List.set_cons_zero, List.set_cons_succ, true_or, or_true, Classical.not_not, not_true_eq_false, not_false_eq_true, ab_01r, ab_01z, ab_01n, false_implies, ab_tt, Nat.reduceLT, Nat.reduceEqDiff, Int.reduceNeg, Int.reduceLT, Int.reduceLE, Int.add_zero, Int.zero_add, List.append_nil, Int.reduceEq, ab_sum1, ab_ri_0, ab_ri_1, ab_ri_2, ab_ri_3, ab_ri_4, ab_ri_5, ab_ri_6, ab_ri_7, ab_ri_8, ab_ri_12, ab_ri_30, ab_ri_60, ab_ri_100, ab_ri_101, ab_ri_127, ab_ri_m1, ab_ri_m2, ab_ri_m3, ab_ri_m4, ab_ri_m5, ab_ri_m11, ab_ri_m13, ab_ri_m14, ab_ri_10, ab_vc, ab_sv_12_142, ab_sv_12_145, ab_sv_12_210, ab_sv_12_142, hmo, Nat.reduceLeDiff]
  refine mp_thinks hmo h83 (by decide) ?_
  have O : ∀ a, a ≠ 68 → a ≠ 83 → ∀ c d, ab_hs (ab_hs h 68 c) 83 d a = h a := fun a h1 h2 c d => (ab_hs_ne h2).trans (ab_hs_ne h1)
  have O68 : ∀ c d, ab_hs (ab_hs h 68 c) 83 d 68 = some c := fun c d => (ab_hs_ne (by decide)).trans ab_hs_self
  simp only [s164_6, s164_7, s164_8, s164_9, s164_12, s164_13, s164_14, s164_15, s164_16, s164_17, s164_18, true_and, and_true, true_implies, Option.toList_some, Option.toList_none, List.nil_append, List.cons_append, List.map_nil, List.map_cons, List.sum_nil, List.sum_cons, Nat.zero_le, ab_nl_n, ab_nl_i, ab_nl_r, ab_nl_0, ab_cat_i, ab_cat_r, ab_cat_l, Nat.reduceAdd, Nat.reduceLeDiff, Nat.add_zero, Nat.zero_add, reduceIte, List.getElem?_cons_succ, List.getElem?_cons_zero, List.length_cons, List.length_nil, List.set_cons_zero, List.set_cons_succ, true_or, or_true, Classical.not_not, not_true_eq_false, not_false_eq_true, ab_01r, ab_01z, ab_01n, false_implies, ab_tt, Nat.reduceLT, Nat.reduceEqDiff, Int.reduceNeg, Int.reduceLT, Int.reduceLE, Int.add_zero, Int.zero_add, List.append_nil, Int.reduceEq, ab_sum1, ab_ri_0, ab_ri_1, ab_ri_2, ab_ri_3, ab_ri_4, ab_ri_5, ab_ri_6, ab_ri_7, ab_ri_8, ab_ri_12, ab_ri_30, ab_ri_60, ab_ri_100, ab_ri_101, ab_ri_127, ab_ri_m1, ab_ri_m2, ab_ri_m3, ab_ri_m4, ab_ri_m5, ab_ri_m11, ab_ri_m13, ab_ri_m14, ab_ri_10, ab_fd, ab_fs, ab_ai, ab_as, ab_fit, ab_tyf, tyX12, ab_mg_0, ab_mg_1, ab_mg_2, ab_mg_3, ab_mg_4, ab_mg_5, ab_mg_6, ab_mg_7, ab_mg_8, ab_mg_9, ab_mg_10, ab_mg_11, ab_mg_12, ab_mg_13, ab_mg_14, ab_mg_15, ab_mg_16, ab_mg_17, ab_mg_18, ab_mg_19, ab_mg_20, ab_mg_21, ab_mg_22, ab_mg_23, ab_mg_24, ab_mg_25, ab_mg_26, ab_mg_27, ab_mg_28, ab_mg_29, ab_mg_30, ab_mg_31, ab_mg_32, ab_mg_33, ab_ms_8, ab_ms_10, ab_ms_11, ab_ms_17, ab_ms_21, ab_ms_22, ab_ms_24, ab_ms_25, ab_ms_26, ab_ms_29, ab_ms_32, ab_mol_l, Nat.reduceLT, Nat.reduceLeDiff, O68, (O 88 (by decide) (by decide) _ _).trans h88, j0, j31]
  -- from where it is nought
  have low : ∀ h1 hg1 l3, (∀ a, a ≠ 68 → a ≠ 83 → a ≠ 84 → h1 a = h a) → h1 68 = some (ab_mo (ab_su σ 17 hg1)) → (∃ f, h1 83 = some (ab_ia 7 f)) → (∃ f, h1 84 = some (ab_ia 7 f)) → ab_tdv (ab_AT L) x = (fun _ => 0) → ab_G 164 73 [some (vr 68), some (vi i), some (vi 1), some (vi l3)] [] h1 n (0, 0) Q := by
    intro h1 hg1 l3 e1 m1 m2 m3 et
    obtain ⟨f, m2⟩ := m2
    have y88 := (e1 88 (by decide) (by decide) (by decide)).trans h88
    have y89 := (e1 89 (by decide) (by decide) (by decide)).trans h89
    simp only [s164_73, s164_74, s164_77, s164_78, s164_79, s164_80, true_and, and_true, true_implies, Option.toList_some, Option.toList_none, List.nil_append, List.cons_append, List.map_nil, List.map_cons, List.sum_nil, List.sum_cons, Nat.zero_le, ab_nl_n, ab_nl_i, ab_nl_r, ab_nl_0, ab_cat_i, ab_cat_r, ab_cat_l, Nat.reduceAdd, Nat.reduceLeDiff, Nat.add_zero, Nat.zero_add, reduceIte, List.getElem?_cons_succ, List.getElem?_cons_zero, List.length_cons, List.length_nil, List.set_cons_zero, List.set_cons_succ, true_or, or_true, Classical.not_not, not_true_eq_false, not_false_eq_true, ab_01r, ab_01z, ab_01n, false_implies, ab_tt, Nat.reduceLT, Nat.reduceEqDiff, Int.reduceNeg, Int.reduceLT, Int.reduceLE, Int.add_zero, Int.zero_add, List.append_nil, Int.reduceEq, ab_sum1, ab_ri_0, ab_ri_1, ab_ri_2, ab_ri_3, ab_ri_4, ab_ri_5, ab_ri_6, ab_ri_7, ab_ri_8, ab_ri_12, ab_ri_30, ab_ri_60, ab_ri_100, ab_ri_101, ab_ri_127, ab_ri_m1, ab_ri_m2, ab_ri_m3, ab_ri_m4, ab_ri_m5, ab_ri_m11, ab_ri_m13, ab_ri_m14, ab_ri_10, ab_vc, ab_sv_12_142, ab_sv_12_145, ab_sv_12_210, ab_sv_12_142, m1, r1, Int.one_ne_zero, Nat.reduceLeDiff]
    refine mp_levelOfTerm m1 y88 y89 hi hx hG ?_
    simp only [s164_83, s164_84, true_and, and_true, true_implies, Option.toList_some, Option.toList_none, List.nil_append, List.cons_append, List.map_nil, List.map_cons, List.sum_nil, List.sum_cons, Nat.zero_le, ab_nl_n, ab_nl_i, ab_nl_r, ab_nl_0, ab_cat_i, ab_cat_r, ab_cat_l, Nat.reduceAdd, Nat.reduceLeDiff, Nat.add_zero, Nat.zero_add, reduceIte, List.getElem?_cons_succ, List.getElem?_cons_zero, List.length_cons, List.length_nil, List.set_cons_zero, List.set_cons_succ, true_or, or_true, Classical.not_not, not_true_eq_false, not_false_eq_true, ab_01r, ab_01z, ab_01n, false_implies, ab_tt, Nat.reduceLT, Nat.reduceEqDiff, Int.reduceNeg, Int.reduceLT, Int.reduceLE, Int.add_zero, Int.zero_add, List.append_nil, Int.reduceEq, ab_sum1, ab_ri_0, ab_ri_1, ab_ri_2, ab_ri_3, ab_ri_4, ab_ri_5, ab_ri_6, ab_ri_7, ab_ri_8, ab_ri_12, ab_ri_30, ab_ri_60, ab_ri_100, ab_ri_101, ab_ri_127, ab_ri_m1, ab_ri_m2, ab_ri_m3, ab_ri_m4, ab_ri_m5, ab_ri_m11, ab_ri_m13, ab_ri_m14, ab_ri_10, ab_vc, ab_sv_12_142, ab_sv_12_145, ab_sv_12_210, ab_sv_12_142, m1, Nat.reduceLeDiff]
    refine mp_thinks m1 m2 (by decide) ?_
    have q := q (ab_hs (ab_hs h1 68 (ab_mo (ab_su (ab_su σ 17 hg1) 17 (ab_lvt x.2.2 x.2.1)))) 83 (ab_ia 7 (ab_fi (ab_un1 (-1)) f 0 7))) (ab_lvt x.2.2 x.2.1) _ (fun a a1 a2 a3 => (ab_hs_ne a2).trans ((ab_hs_ne a1).trans (e1 a a1 a2 a3))) ((ab_hs_ne (by decide)).trans (by rw [ab_su_su]; exact ab_hs_self)) ab_hs_self (by
      obtain ⟨b, m3⟩ := m3
      exact ⟨b, (ab_hs_ne (by decide)).trans ((ab_hs_ne (by decide)).trans m3)⟩) (fun j j0 j7 => by
      rw [ab_fi_lo ⟨j0, j7⟩, et]
      unfold ab_un1
      rw [if_neg (by omega)]
      exact ⟨rfl, by decide, by decide⟩)
    simp only [s164_87, true_and, and_true, true_implies, Option.toList_some, Option.toList_none, List.nil_append, List.cons_append, List.map_nil, List.map_cons, List.sum_nil, List.sum_cons, Nat.zero_le, ab_nl_n, ab_nl_i, ab_nl_r, ab_nl_0, ab_cat_i, ab_cat_r, ab_cat_l, Nat.reduceAdd, Nat.reduceLeDiff, Nat.add_zero, Nat.zero_add, reduceIte, List.getElem?_cons_succ, List.getElem?_cons_zero, List.length_cons, List.length_nil, List.set_cons_zero, List.set_cons_succ, true_or, or_true, Classical.not_not, not_true_eq_false, not_false_eq_true, ab_01r, ab_01z, ab_01n, false_implies, ab_tt, Nat.reduceLT, Nat.reduceEqDiff, Int.reduceNeg, Int.reduceLT, Int.reduceLE, Int.add_zero, Int.zero_add, List.append_nil, Int.reduceEq, ab_sum1, ab_ri_0, ab_ri_1, ab_ri_2, ab_ri_3, ab_ri_4, ab_ri_5, ab_ri_6, ab_ri_7, ab_ri_8, ab_ri_12, ab_ri_30, ab_ri_60, ab_ri_100, ab_ri_101, ab_ri_127, ab_ri_m1, ab_ri_m2, ab_ri_m3, ab_ri_m4, ab_ri_m5, ab_ri_m11, ab_ri_m13, ab_ri_m14, ab_ri_10, q]
  have key : ∀ (k : Nat) h1 hg1 th1 f, (k : Int) ≤ x.2.1 → hg1 = -ab_tog x.2.2 x.2.1 (x.2.1 - k).toNat → 0 ≤ hg1 → (∀ a, a ≠ 68 → a ≠ 83 → a ≠ 84 → h1 a = h a) → h1 68 = some (ab_mo (ab_su σ 17 hg1)) → h1 83 = some (ab_ia 7 th1) → (∃ f, h1 84 = some (ab_ia 7 f)) → (∀ j, 0 ≤ j → j < 7 → th1 j = f j ∧ 0 ≤ f j ∧ f j ≤ 100) → ab_adt (ab_AT L) x.2.2 k hg1 f = ab_adt (ab_AT L) x.2.2 x.2.1.toNat 0 (ab_un1 0) → ab_G 164 19 [some (vr 68), some (vi i), some (vi 0), some (vi (G i + k - 1))] [] h1 n (0, 0) Q := by
    intro k
    induction k with
    | zero =>
      intro h1 hg1 th1 f hk eh h0 e1 m1 m2 m3 hf ea
      have y88 := (e1 88 (by decide) (by decide) (by decide)).trans h88
      have c : G i + ((0 : Nat) : Int) - 1 < G i := by omega
      have hr : ab_inR (G i + ((0 : Nat) : Int) - 1) = True := eq_true (by omega)
      have ed : ab_tdv (ab_AT L) x = f := by
        unfold ab_tdv
        rw [← ea, ab_adt]
      have q := q h1 hg1 th1 e1 m1 m2 m3 (fun j j0 j7 => by
        rw [ed, (hf j j0 j7).1]
        exact ⟨rfl, (hf j j0 j7).2⟩)
      rw [s164_19]
      simp only [s164_20, s164_21, s164_24, s164_25, s164_26, s164_73, s164_74, s164_87, true_and, and_true, true_implies, Option.toList_some, Option.toList_none, List.nil_append, List.cons_append, List.map_nil, List.map_cons, List.sum_nil, List.sum_cons, Nat.zero_le, ab_nl_n, ab_nl_i, ab_nl_r, ab_nl_0, ab_cat_i, ab_cat_r, ab_cat_l, Nat.reduceAdd, Nat.reduceLeDiff, Nat.add_zero, Nat.zero_add, reduceIte, List.getElem?_cons_succ, List.getElem?_cons_zero, List.length_cons, List.length_nil, List.set_cons_zero, List.set_cons_succ, true_or, or_true, Classical.not_not, not_true_eq_false, not_false_eq_true, ab_01r, ab_01z, ab_01n, false_implies, ab_tt, Nat.reduceLT, Nat.reduceEqDiff, Int.reduceNeg, Int.reduceLT, Int.reduceLE, Int.add_zero, Int.zero_add, List.append_nil, Int.reduceEq, ab_sum1, ab_ri_0, ab_ri_1, ab_ri_2, ab_ri_3, ab_ri_4, ab_ri_5, ab_ri_6, ab_ri_7, ab_ri_8, ab_ri_12, ab_ri_30, ab_ri_60, ab_ri_100, ab_ri_101, ab_ri_127, ab_ri_m1, ab_ri_m2, ab_ri_m3, ab_ri_m4, ab_ri_m5, ab_ri_m11, ab_ri_m13, ab_ri_m14, ab_ri_10, ab_fd, ab_fs, ab_ai, ab_as, ab_fit, ab_tyf, tyX12, ab_mg_0, ab_mg_1, ab_mg_2, ab_mg_3, ab_mg_4, ab_mg_5, ab_mg_6, ab_mg_7, ab_mg_8, ab_mg_9, ab_mg_10, ab_mg_11, ab_mg_12, ab_mg_13, ab_mg_14, ab_mg_15, ab_mg_16, ab_mg_17, ab_mg_18, ab_mg_19, ab_mg_20, ab_mg_21, ab_mg_22, ab_mg_23, ab_mg_24, ab_mg_25, ab_mg_26, ab_mg_27, ab_mg_28, ab_mg_29, ab_mg_30, ab_mg_31, ab_mg_32, ab_mg_33, ab_ms_8, ab_ms_10, ab_ms_11, ab_ms_17, ab_ms_21, ab_ms_22, ab_ms_24, ab_ms_25, ab_ms_26, ab_ms_29, ab_ms_32, ab_mol_l, Nat.reduceLT, Nat.reduceLeDiff, m1, y88, i0, i31, c, hr, hGr, r0, q]
    | succ k ih =>
      intro h1 hg1 th1 f hk eh h0 e1 m1 m2 m3 hf ea
      have y88 := (e1 88 (by decide) (by decide) (by decide)).trans h88
      have y89 := (e1 89 (by decide) (by decide) (by decide)).trans h89
      have e0 : G i + ((k + 1 : Nat) : Int) - 1 = G i + k := by omega
      have c : ¬ G i + (k : Int) < G i := by omega
      have hr : ab_inR (G i + (k : Int)) = True := eq_true (by omega)
      have b0 : 0 ≤ G i + (k : Int) := by omega
      have b60 : G i + (k : Int) < ((60 : Nat) : Int) := by omega
      have em := (x5 k (by omega) (by omega)).1
      have gb := hg k (by omega) (by omega)
      have et : ab_tog x.2.2 x.2.1 (x.2.1 - (k : Int)).toNat = ab_tog x.2.2 x.2.1 (x.2.1 - ((k + 1 : Nat) : Int)).toNat + x.2.2 k := by
        rw [show (x.2.1 - (k : Int)).toNat = (x.2.1 - ((k + 1 : Nat) : Int)).toNat + 1 by omega, ab_tog, show x.2.1 - 1 - (((x.2.1 - ((k + 1 : Nat) : Int)).toNat : Nat) : Int) = k by omega]
      have h5 := htg (x.2.1 - (k : Int)).toNat (by omega)
      have h5' := htg (x.2.1 - ((k + 1 : Nat) : Int)).toNat (by omega)
      have hle : hg1 - x.2.2 k ≤ 5 := by omega
      have hgr : ab_inR (hg1 - x.2.2 k) = True := eq_true (by omega)
      have e2 : G i + (k : Int) + -1 = G i + k - 1 := by omega
      have e17 : ab_su σ 17 hg1 17 = hg1 := ab_su_e
      rw [ab_adt] at ea
      rw [s164_19, e0]
      by_cases c2 : 0 ≤ hg1 - x.2.2 k
      · rw [if_pos ⟨c2, hle⟩] at ea
        simp only [s164_20, s164_21, s164_24, s164_25, s164_26, s164_29, s164_30, s164_33, s164_34, s164_37, s164_38, s164_41, s164_42, s164_43, s164_44, s164_47, s164_48, s164_51, s164_52, s164_53, s164_54, s164_57, s164_58, s164_59, s164_62, s164_63, s164_64, true_and, and_true, true_implies, Option.toList_some, Option.toList_none, List.nil_append, List.cons_append, List.map_nil, List.map_cons, List.sum_nil, List.sum_cons, Nat.zero_le, ab_nl_n, ab_nl_i, ab_nl_r, ab_nl_0, ab_cat_i, ab_cat_r, ab_cat_l, Nat.reduceAdd, Nat.reduceLeDiff, Nat.add_zero, Nat.zero_add, reduceIte, List.getElem?_cons_succ, List.getElem?_cons_zero, List.length_cons, List.length_nil, List.set_cons_zero, List.set_cons_succ, true_or, or_true, Classical.not_not, not_true_eq_false, not_false_eq_true, ab_01r, ab_01z, ab_01n, false_implies, ab_tt, Nat.reduceLT, Nat.reduceEqDiff, Int.reduceNeg, Int.reduceLT, Int.reduceLE, Int.add_zero, Int.zero_add, List.append_nil, Int.reduceEq, ab_sum1, ab_ri_0, ab_ri_1, ab_ri_2, ab_ri_3, ab_ri_4, ab_ri_5, ab_ri_6, ab_ri_7, ab_ri_8, ab_ri_12, ab_ri_30, ab_ri_60, ab_ri_100, ab_ri_101, ab_ri_127, ab_ri_m1, ab_ri_m2, ab_ri_m3, ab_ri_m4, ab_ri_m5, ab_ri_m11, ab_ri_m13, ab_ri_m14, ab_ri_10, ab_fd, ab_fs, ab_ai, ab_as, ab_fit, ab_tyf, tyX12, ab_mg_0, ab_mg_1, ab_mg_2, ab_mg_3, ab_mg_4, ab_mg_5, ab_mg_6, ab_mg_7, ab_mg_8, ab_mg_9, ab_mg_10, ab_mg_11, ab_mg_12, ab_mg_13, ab_mg_14, ab_mg_15, ab_mg_16, ab_mg_17, ab_mg_18, ab_mg_19, ab_mg_20, ab_mg_21, ab_mg_22, ab_mg_23, ab_mg_24, ab_mg_25, ab_mg_26, ab_mg_27, ab_mg_28, ab_mg_29, ab_mg_30, ab_mg_31, ab_mg_32, ab_mg_33, ab_ms_8, ab_ms_10, ab_ms_11, ab_ms_17, ab_ms_21, ab_ms_22, ab_ms_24, ab_ms_25, ab_ms_26, ab_ms_29, ab_ms_32, ab_mol_l, Nat.reduceLT, Nat.reduceLeDiff, ab_vc, ab_sv_12_142, ab_sv_12_145, ab_sv_12_210, ab_sv_12_142, m1, y88, y89, i0, i31, c, hr, hGr, r0, b0, b60, em, e17, c2, hgr, Nat.reduceLeDiff]
        refine mp_goes (f := f) m1 (ab_mst_fr (fun a _ _ => e1 a (by omega) (by omega) (by omega)) hst) hL (ab_mad_fr (e1 82 (by decide) (by decide) (by decide)) hmad) m2 m3.choose_spec (by rw [e17]; omega) (by rw [e17]; exact ⟨c2, hle⟩) hf fun h2 th2 e2' n1 n2 n3 n4 => ?_
        rw [e17, ab_su_su] at n1
        rw [e17] at n4
        have ih := ih h2 (hg1 - x.2.2 k) th2 (ab_mv (ab_AT L) f hg1 (hg1 - x.2.2 k)) (by omega) (by omega) c2 (fun a a1 a2 a3 => (e2' a a1 a2 a3).trans (e1 a a1 a2 a3)) n1 n2 n3 (fun j j0 j7 => ⟨(n4 j j0 j7).1, by rw [← (n4 j j0 j7).1]; exact (n4 j j0 j7).2⟩) ea
        simp only [s164_67, s164_70, true_and, and_true, true_implies, Option.toList_some, Option.toList_none, List.nil_append, List.cons_append, List.map_nil, List.map_cons, List.sum_nil, List.sum_cons, Nat.zero_le, ab_nl_n, ab_nl_i, ab_nl_r, ab_nl_0, ab_cat_i, ab_cat_r, ab_cat_l, Nat.reduceAdd, Nat.reduceLeDiff, Nat.add_zero, Nat.zero_add, reduceIte, List.getElem?_cons_succ, List.getElem?_cons_zero, List.length_cons, List.length_nil, List.set_cons_zero, List.set_cons_succ, true_or, or_true, Classical.not_not, not_true_eq_false, not_false_eq_true, ab_01r, ab_01z, ab_01n, false_implies, ab_tt, Nat.reduceLT, Nat.reduceEqDiff, Int.reduceNeg, Int.reduceLT, Int.reduceLE, Int.add_zero, Int.zero_add, List.append_nil, Int.reduceEq, ab_sum1, ab_ri_0, ab_ri_1, ab_ri_2, ab_ri_3, ab_ri_4, ab_ri_5, ab_ri_6, ab_ri_7, ab_ri_8, ab_ri_12, ab_ri_30, ab_ri_60, ab_ri_100, ab_ri_101, ab_ri_127, ab_ri_m1, ab_ri_m2, ab_ri_m3, ab_ri_m4, ab_ri_m5, ab_ri_m11, ab_ri_m13, ab_ri_m14, ab_ri_10, e2, ih]
      · rw [if_neg (fun z => c2 z.1)] at ea
        have et : ab_tdv (ab_AT L) x = (fun _ => 0) := by
          unfold ab_tdv
          rw [← ea]
        have l := fun l3 => low h1 hg1 l3 e1 m1 ⟨_, m2⟩ m3 et
        have head : ab_G 164 19 [some (vr 68), some (vi i), some (vi 1), some (vi (G i + k - 1))] [] h1 n (0, 0) Q := by
          rw [s164_19]
          have hr2 : ab_inR (G i + (k : Int) - 1) = True := eq_true (by omega)
          by_cases c3 : G i + (k : Int) - 1 < G i
          · simp only [s164_20, s164_21, s164_24, s164_25, s164_26, s164_29, s164_30, true_and, and_true, true_implies, Option.toList_some, Option.toList_none, List.nil_append, List.cons_append, List.map_nil, List.map_cons, List.sum_nil, List.sum_cons, Nat.zero_le, ab_nl_n, ab_nl_i, ab_nl_r, ab_nl_0, ab_cat_i, ab_cat_r, ab_cat_l, Nat.reduceAdd, Nat.reduceLeDiff, Nat.add_zero, Nat.zero_add, reduceIte, List.getElem?_cons_succ, List.getElem?_cons_zero, List.length_cons, List.length_nil, List.set_cons_zero, List.set_cons_succ, true_or, or_true, Classical.not_not, not_true_eq_false, not_false_eq_true, ab_01r, ab_01z, ab_01n, false_implies, ab_tt, Nat.reduceLT, Nat.reduceEqDiff, Int.reduceNeg, Int.reduceLT, Int.reduceLE, Int.add_zero, Int.zero_add, List.append_nil, Int.reduceEq, ab_sum1, ab_ri_0, ab_ri_1, ab_ri_2, ab_ri_3, ab_ri_4, ab_ri_5, ab_ri_6, ab_ri_7, ab_ri_8, ab_ri_12, ab_ri_30, ab_ri_60, ab_ri_100, ab_ri_101, ab_ri_127, ab_ri_m1, ab_ri_m2, ab_ri_m3, ab_ri_m4, ab_ri_m5, ab_ri_m11, ab_ri_m13, ab_ri_m14, ab_ri_10, ab_fd, ab_fs, ab_ai, ab_as, ab_fit, ab_tyf, tyX12, ab_mg_0, ab_mg_1, ab_mg_2, ab_mg_3, ab_mg_4, ab_mg_5, ab_mg_6, ab_mg_7, ab_mg_8, ab_mg_9, ab_mg_10, ab_mg_11, ab_mg_12, ab_mg_13, ab_mg_14, ab_mg_15, ab_mg_16, ab_mg_17, ab_mg_18, ab_mg_19, ab_mg_20, ab_mg_21, ab_mg_22, ab_mg_23, ab_mg_24, ab_mg_25, ab_mg_26, ab_mg_27, ab_mg_28, ab_mg_29, ab_mg_30, ab_mg_31, ab_mg_32, ab_mg_33, ab_ms_8, ab_ms_10, ab_ms_11, ab_ms_17, ab_ms_21, ab_ms_22, ab_ms_24, ab_ms_25, ab_ms_26, ab_ms_29, ab_ms_32, ab_mol_l, Nat.reduceLT, Nat.reduceLeDiff, m1, y88, i0, i31, c3, hr2, hGr, l]
          · simp only [s164_20, s164_21, s164_24, s164_25, s164_26, s164_29, s164_30, true_and, and_true, true_implies, Option.toList_some, Option.toList_none, List.nil_append, List.cons_append, List.map_nil, List.map_cons, List.sum_nil, List.sum_cons, Nat.zero_le, ab_nl_n, ab_nl_i, ab_nl_r, ab_nl_0, ab_cat_i, ab_cat_r, ab_cat_l, Nat.reduceAdd, Nat.reduceLeDiff, Nat.add_zero, Nat.zero_add, reduceIte, List.getElem?_cons_succ, List.getElem?_cons_zero, List.length_cons, List.length_nil, List.set_cons_zero, List.set_cons_succ, true_or, or_true, Classical.not_not, not_true_eq_false, not_false_eq_true, ab_01r, ab_01z, ab_01n, false_implies, ab_tt, Nat.reduceLT, Nat.reduceEqDiff, Int.reduceNeg, Int.reduceLT, Int.reduceLE, Int.add_zero, Int.zero_add, List.append_nil, Int.reduceEq, ab_sum1, ab_ri_0, ab_ri_1, ab_ri_2, ab_ri_3, ab_ri_4, ab_ri_5, ab_ri_6, ab_ri_7, ab_ri_8, ab_ri_12, ab_ri_30, ab_ri_60, ab_ri_100, ab_ri_101, ab_ri_127, ab_ri_m1, ab_ri_m2, ab_ri_m3, ab_ri_m4, ab_ri_m5, ab_ri_m11, ab_ri_m13, ab_ri_m14, ab_ri_10, ab_fd, ab_fs, ab_ai, ab_as, ab_fit, ab_tyf, tyX12, ab_mg_0, ab_mg_1, ab_mg_2, ab_mg_3, ab_mg_4, ab_mg_5, ab_mg_6, ab_mg_7, ab_mg_8, ab_mg_9, ab_mg_10, ab_mg_11, ab_mg_12, ab_mg_13, ab_mg_14, ab_mg_15, ab_mg_16, ab_mg_17, ab_mg_18, ab_mg_19, ab_mg_20, ab_mg_21, ab_mg_22, ab_mg_23, ab_mg_24, ab_mg_25, ab_mg_26, ab_mg_27, ab_mg_28, ab_mg_29, ab_mg_30, ab_mg_31, ab_mg_32, ab_mg_33, ab_ms_8, ab_ms_10, ab_ms_11, ab_ms_17, ab_ms_21, ab_ms_22, ab_ms_24, ab_ms_25, ab_ms_26, ab_ms_29, ab_ms_32, ab_mol_l, Nat.reduceLT, Nat.reduceLeDiff, m1, y88, i0, i31, c3, hr2, hGr, r1, Int.one_ne_zero, l]
        simp only [s164_20, s164_21, s164_24, s164_25, s164_26, s164_29, s164_30, s164_33, s164_34, s164_37, s164_38, s164_41, s164_42, s164_43, s164_44, s164_47, s164_48, s164_51, s164_52, s164_53, s164_54, s164_67, s164_70, true_and, and_true, true_implies, Option.toList_some, Option.toList_none, List.nil_append, List.cons_append, List.map_nil, List.map_cons, List.sum_nil, List.sum_cons, Nat.zero_le, ab_nl_n, ab_nl_i, ab_nl_r, ab_nl_0, ab_cat_i, ab_cat_r, ab_cat_l, Nat.reduceAdd, Nat.reduceLeDiff, Nat.add_zero, Nat.zero_add, reduceIte, List.getElem?_cons_succ, List.getElem?_cons_zero, List.length_cons, List.length_nil, List.set_cons_zero, List.set_cons_succ, true_or, or_true, Classical.not_not, not_true_eq_false, not_false_eq_true, ab_01r, ab_01z, ab_01n, false_implies, ab_tt, Nat.reduceLT, Nat.reduceEqDiff, Int.reduceNeg, Int.reduceLT, Int.reduceLE, Int.add_zero, Int.zero_add, List.append_nil, Int.reduceEq, ab_sum1, ab_ri_0, ab_ri_1, ab_ri_2, ab_ri_3, ab_ri_4, ab_ri_5, ab_ri_6, ab_ri_7, ab_ri_8, ab_ri_12, ab_ri_30, ab_ri_60, ab_ri_100, ab_ri_101, ab_ri_127, ab_ri_m1, ab_ri_m2, ab_ri_m3, ab_ri_m4, ab_ri_m5, ab_ri_m11, ab_ri_m13, ab_ri_m14, ab_ri_10, ab_fd, ab_fs, ab_ai, ab_as, ab_fit, ab_tyf, tyX12, ab_mg_0, ab_mg_1, ab_mg_2, ab_mg_3, ab_mg_4, ab_mg_5, ab_mg_6, ab_mg_7, ab_mg_8, ab_mg_9, ab_mg_10, ab_mg_11, ab_mg_12, ab_mg_13, ab_mg_14, ab_mg_15, ab_mg_16, ab_mg_17, ab_mg_18, ab_mg_19, ab_mg_20, ab_mg_21, ab_mg_22, ab_mg_23, ab_mg_24, ab_mg_25, ab_mg_26, ab_mg_27, ab_mg_28, ab_mg_29, ab_mg_30, ab_mg_31, ab_mg_32, ab_mg_33, ab_ms_8, ab_ms_10, ab_ms_11, ab_ms_17, ab_ms_21, ab_ms_22, ab_ms_24, ab_ms_25, ab_ms_26, ab_ms_29, ab_ms_32, ab_mol_l, Nat.reduceLT, Nat.reduceLeDiff, m1, y88, y89, i0, i31, c, hr, hGr, r0, r1, Int.one_ne_zero, b0, b60, em, e17, c2, hgr, e2, head]
  have k0 := key x.2.1.toNat (ab_hs (ab_hs h 68 (ab_mo (ab_su σ 17 0))) 83 (ab_ia 7 (ab_fi (ab_un1 0) th 0 7))) 0 _ (ab_un1 0) (by omega) (by rw [show (x.2.1 - ((x.2.1.toNat : Nat) : Int)).toNat = 0 by omega, ab_tog]; rfl) (by decide) (fun a a1 a2 a3 => O a a1 a2 _ _) (O68 _ _) ab_hs_self ⟨bw, (O 84 (by decide) (by decide) _ _).trans h84⟩ (fun j j0 j7 => by
    rw [ab_fi_lo ⟨j0, j7⟩]
    unfold ab_un1
    refine ⟨rfl, ?_⟩
    split <;> omega) rfl
  have es : G (i + 1) - 1 = G i + ((x.2.1.toNat : Nat) : Int) - 1 := by omega
  rw [es]
  exact k0
end MQ
