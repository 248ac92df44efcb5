/-! ===== the model: paper, lists, image ===== -/
theorem ab_bud_95 {lv : Int} {k : Nat} (hl : 0 ≤ lv ∧ lv ≤ 5) (hk : (k : Int) ≤ ab_wd lv) : ab_bud (ab_START lv) k ≤ 95 := by
  have hw := ab_wd_eq hl.1 (by omega)
  have := ab_tb_all (P := fun lv => ∀ k : Fin 8, (k.val : Int) ≤ ab_wd lv → ab_bud (ab_START lv) k.val ≤ 95) (m := 6) (by decide +kernel) hl.1 (by omega) ⟨k, by omega⟩
  exact this hk
/-- the model's paper -/
def ab_pgm (h : ab_H) (σ : Nat → Int) (z : (Int → Int) × Int) : ab_H := ab_hs (ab_hs h 77 (ab_ia 200 z.1)) 68 (ab_mo (ab_su σ 10 z.2))
section MI
variable {h : ab_H} {n : Nat} {Q : ab_Q} {X : ab_X} {Y : Int → Int64} {σ : Nat → Int} {z : (Int → Int) × Int}
theorem ab_pgm_68 : ab_pgm h σ z 68 = some (ab_mo (ab_su σ 10 z.2)) := ab_hs_self
theorem ab_pgm_77 : ab_pgm h σ z 77 = some (ab_ia 200 z.1) := (ab_hs_ne (by decide)).trans ab_hs_self
theorem ab_pgm_o {a : Nat} (h1 : a ≠ 68) (h2 : a ≠ 77) : ab_pgm h σ z a = h a := (ab_hs_ne h1).trans (ab_hs_ne h2)
theorem mp_writes {x : Int} (hz : 0 ≤ z.2 ∧ z.2 < 200) (q : Q none (ab_pgm h σ (ab_aps 200 z [x])) n) : ab_G 181 0 [some (vr 68), some (vi x)] [] (ab_pgm h σ z) n (0, 0) Q := by
  have z0 := hz.1
  have z2 : z.2 < ((200 : Nat) : Int) := by omega
  have e : ab_aps 200 z [x] = (ab_ui z.1 z.2 x, z.2 + 1) := if_pos z2
  rw [e] at q
  have o68 : ∀ c, ab_hs (ab_pgm h σ z) 77 c 68 = some (ab_mo (ab_su σ 10 z.2)) := fun c => (ab_hs_ne (by decide)).trans ab_pgm_68
  have e2 : ab_hs (ab_hs (ab_pgm h σ z) 77 (ab_ia 200 (ab_ui z.1 z.2 x))) 68 (ab_mo (ab_su (ab_su σ 10 z.2) 10 (z.2 + 1))) = ab_pgm h σ (ab_ui z.1 z.2 x, z.2 + 1) := by
    unfold ab_pgm
    rw [ab_hs_3 (a := 77) (b := 68) (by decide)] <;> try rw [ab_su_su]
    rw [ab_hs_cm (a := 68) (b := 77) (by decide), ab_hs_hs]
  simp only [s181_0, s181_1, s181_4, s181_5, s181_8, s181_9, s181_10, s181_11, s181_12, s181_15, s181_16, s181_17, s181_20, true_and, and_true, true_implies, Option.toList_some, Option.toList_none, List.nil_append, List.cons_append, List.map_nil, List.map_cons, List.sum_nil, List.sum_cons, Nat.zero_le, ab_nl_n, ab_nl_i, ab_nl_r, ab_nl_0, ab_cat_i, ab_cat_r, ab_cat_l, Nat.reduceAdd, Nat.reduceLeDiff, Nat.add_zero, Nat.zero_add, reduceIte, List.getElem?_cons_succ, List.getElem?_cons_zero, List.length_cons, List.length_nil, List.set_cons_zero, List.set_cons_succ, true_or, or_true, Classical.not_not, not_true_eq_false, not_false_eq_true, ab_01r, ab_01z, ab_01n, false_implies, ab_tt, Nat.reduceLT, Nat.reduceEqDiff, Int.reduceNeg, Int.reduceLT, Int.reduceLE, Int.add_zero, Int.zero_add, List.append_nil, Int.reduceEq, ab_sum1, ab_ri_0, ab_ri_1, ab_ri_2, ab_ri_3, ab_ri_4, ab_ri_5, ab_ri_6, ab_ri_7, ab_ri_8, ab_ri_12, ab_ri_30, ab_ri_60, ab_ri_100, ab_ri_101, ab_ri_127, ab_ri_m1, ab_ri_m2, ab_ri_m3, ab_ri_m4, ab_ri_m5, ab_ri_m11, ab_ri_m13, ab_ri_m14, ab_ri_10, ab_fd, ab_fs, ab_ai, ab_as, ab_fit, ab_tyf, tyX12, ab_mg_0, ab_mg_1, ab_mg_2, ab_mg_3, ab_mg_4, ab_mg_5, ab_mg_6, ab_mg_7, ab_mg_8, ab_mg_9, ab_mg_10, ab_mg_11, ab_mg_12, ab_mg_13, ab_mg_14, ab_mg_15, ab_mg_16, ab_mg_17, ab_mg_18, ab_mg_19, ab_mg_20, ab_mg_21, ab_mg_22, ab_mg_23, ab_mg_24, ab_mg_25, ab_mg_26, ab_mg_27, ab_mg_28, ab_mg_29, ab_mg_30, ab_mg_31, ab_mg_32, ab_mg_33, ab_ms_8, ab_ms_10, ab_ms_11, ab_ms_17, ab_ms_21, ab_ms_22, ab_ms_24, ab_ms_25, ab_ms_26, ab_ms_29, ab_ms_32, ab_mol_l, Nat.reduceLT, Nat.reduceLeDiff, ab_pgm_68, ab_pgm_77, o68, ab_su_e, z0, z2, ab_cat_r, e2, q]
theorem mp_writesNumber {v : Int} (hz : 0 ≤ z.2 ∧ z.2 < 190) (hv : 0 ≤ v ∧ v ≤ 100) (q : Q none (ab_pgm h σ (ab_aps 200 z (ab_digs v))) n) : ab_G 182 0 [some (vr 68), some (vi v)] [] (ab_pgm h σ z) n (0, 0) Q := by
  have e1 : v.tdiv 100 = v / 100 := Int.tdiv_eq_ediv_of_nonneg hv.1
  have e2 : v.tdiv 10 = v / 10 := Int.tdiv_eq_ediv_of_nonneg hv.1
  have e3 : (v / 10).tmod 10 = v / 10 % 10 := Int.tmod_eq_emod_of_nonneg (by omega)
  have e4 : v.tmod 10 = v % 10 := Int.tmod_eq_emod_of_nonneg hv.1
  have hv' : ab_inR v = True := eq_true (by omega)
  have last : ∀ z' : (Int → Int) × Int, (0 ≤ z'.2 ∧ z'.2 < 195) → Q none (ab_pgm h σ (ab_aps 200 z' [48 + v.tmod 10])) n → ab_G 182 37 [some (vr 68), some (vi v)] [] (ab_pgm h σ z') n (0, 0) Q := by
    intro z' hz' q
    simp only [s182_37, s182_38, s182_40, s182_41, s182_43, s182_44, s182_45, true_and, and_true, true_implies, Option.toList_some, Option.toList_none, List.nil_append, List.cons_append, List.map_nil, List.map_cons, List.sum_nil, List.sum_cons, Nat.zero_le, ab_nl_n, ab_nl_i, ab_nl_r, ab_nl_0, ab_cat_i, ab_cat_r, ab_cat_l, Nat.reduceAdd, Nat.reduceLeDiff, Nat.add_zero, Nat.zero_add, reduceIte, List.getElem?_cons_succ, List.getElem?_cons_zero, List.length_cons, List.length_nil, List.set_cons_zero, List.set_cons_succ, true_or, or_true, Classical.not_not, not_true_eq_false, not_false_eq_true, ab_01r, ab_01z, ab_01n, false_implies, ab_tt, Nat.reduceLT, Nat.reduceEqDiff, Int.reduceNeg, Int.reduceLT, Int.reduceLE, Int.add_zero, Int.zero_add, List.append_nil, Int.reduceEq, ab_sum1, ab_ri_0, ab_ri_1, ab_ri_2, ab_ri_3, ab_ri_4, ab_ri_5, ab_ri_6, ab_ri_7, ab_ri_8, ab_ri_12, ab_ri_30, ab_ri_60, ab_ri_100, ab_ri_101, ab_ri_127, ab_ri_m1, ab_ri_m2, ab_ri_m3, ab_ri_m4, ab_ri_m5, ab_ri_m11, ab_ri_m13, ab_ri_m14, ab_ri_10, ab_vc, ab_pgm_68, ab_sv_12_249, ab_sv_12_249, ab_sv_12_249, e4, hv', Nat.reduceLeDiff]
    refine mp_writes ⟨hz'.1, by omega⟩ ?_
    rw [e4] at q
    simp only [s182_48, true_and, and_true, true_implies, Option.toList_some, Option.toList_none, List.nil_append, List.cons_append, List.map_nil, List.map_cons, List.sum_nil, List.sum_cons, Nat.zero_le, ab_nl_n, ab_nl_i, ab_nl_r, ab_nl_0, ab_cat_i, ab_cat_r, ab_cat_l, Nat.reduceAdd, Nat.reduceLeDiff, Nat.add_zero, Nat.zero_add, reduceIte, List.getElem?_cons_succ, List.getElem?_cons_zero, List.length_cons, List.length_nil, List.set_cons_zero, List.set_cons_succ, true_or, or_true, Classical.not_not, not_true_eq_false, not_false_eq_true, ab_01r, ab_01z, ab_01n, false_implies, ab_tt, Nat.reduceLT, Nat.reduceEqDiff, Int.reduceNeg, Int.reduceLT, Int.reduceLE, Int.add_zero, Int.zero_add, List.append_nil, Int.reduceEq, ab_sum1, ab_ri_0, ab_ri_1, ab_ri_2, ab_ri_3, ab_ri_4, ab_ri_5, ab_ri_6, ab_ri_7, ab_ri_8, ab_ri_12, ab_ri_30, ab_ri_60, ab_ri_100, ab_ri_101, ab_ri_127, ab_ri_m1, ab_ri_m2, ab_ri_m3, ab_ri_m4, ab_ri_m5, ab_ri_m11, ab_ri_m13, ab_ri_m14, ab_ri_10, q]
  have one : ∀ (z' : (Int → Int) × Int) (x : Int), 0 ≤ z'.2 → z'.2 < 198 → 0 ≤ (ab_aps 200 z' [x]).2 ∧ (ab_aps 200 z' [x]).2 ≤ z'.2 + 1 := by
    intro z' x h0 h1
    have := (ab_aps_eq (mm := 200) [x] z' h0 (by show z'.2 + 1 ≤ 200; omega)).1
    rw [this]
    simp only [List.length_cons, List.length_nil]
    omega
  have mid : ∀ z' : (Int → Int) × Int, (0 ≤ z'.2 ∧ z'.2 < 193) → Q none (ab_pgm h σ (ab_aps 200 z' ((if 10 ≤ v then [48 + (v.tdiv 10).tmod 10] else []) ++ [48 + v.tmod 10]))) n → ab_G 182 17 [some (vr 68), some (vi v)] [] (ab_pgm h σ z') n (0, 0) Q := by
    intro z' hz' q
    by_cases c : 10 ≤ v
    · have cn : ¬ v < 10 := by omega
      rw [if_pos c] at q
      simp only [s182_17, s182_18, s182_20, s182_23, s182_24, s182_26, s182_27, s182_29, s182_30, s182_32, s182_33, s182_34, true_and, and_true, true_implies, Option.toList_some, Option.toList_none, List.nil_append, List.cons_append, List.map_nil, List.map_cons, List.sum_nil, List.sum_cons, Nat.zero_le, ab_nl_n, ab_nl_i, ab_nl_r, ab_nl_0, ab_cat_i, ab_cat_r, ab_cat_l, Nat.reduceAdd, Nat.reduceLeDiff, Nat.add_zero, Nat.zero_add, reduceIte, List.getElem?_cons_succ, List.getElem?_cons_zero, List.length_cons, List.length_nil, List.set_cons_zero, List.set_cons_succ, true_or, or_true, Classical.not_not, not_true_eq_false, not_false_eq_true, ab_01r, ab_01z, ab_01n, false_implies, ab_tt, Nat.reduceLT, Nat.reduceEqDiff, Int.reduceNeg, Int.reduceLT, Int.reduceLE, Int.add_zero, Int.zero_add, List.append_nil, Int.reduceEq, ab_sum1, ab_ri_0, ab_ri_1, ab_ri_2, ab_ri_3, ab_ri_4, ab_ri_5, ab_ri_6, ab_ri_7, ab_ri_8, ab_ri_12, ab_ri_30, ab_ri_60, ab_ri_100, ab_ri_101, ab_ri_127, ab_ri_m1, ab_ri_m2, ab_ri_m3, ab_ri_m4, ab_ri_m5, ab_ri_m11, ab_ri_m13, ab_ri_m14, ab_ri_10, ab_vc, ab_pgm_68, ab_sv_12_249, ab_sv_12_249, ab_sv_12_249, e2, e3, hv', c, cn, Nat.reduceLeDiff]
      (repeat refine And.intro (by omega) ?_)
      refine mp_writes ⟨hz'.1, by omega⟩ ?_
      have o := one z' (48 + v / 10 % 10) hz'.1 (by omega)
      refine last _ (by omega) ?_
      rw [ab_aps_app, ← e3, ← e2]
      exact q
    · have cn : v < 10 := by omega
      rw [if_neg c] at q
      simp only [s182_17, s182_18, s182_20, true_and, and_true, true_implies, Option.toList_some, Option.toList_none, List.nil_append, List.cons_append, List.map_nil, List.map_cons, List.sum_nil, List.sum_cons, Nat.zero_le, ab_nl_n, ab_nl_i, ab_nl_r, ab_nl_0, ab_cat_i, ab_cat_r, ab_cat_l, Nat.reduceAdd, Nat.reduceLeDiff, Nat.add_zero, Nat.zero_add, reduceIte, List.getElem?_cons_succ, List.getElem?_cons_zero, List.length_cons, List.length_nil, List.set_cons_zero, List.set_cons_succ, true_or, or_true, Classical.not_not, not_true_eq_false, not_false_eq_true, ab_01r, ab_01z, ab_01n, false_implies, ab_tt, Nat.reduceLT, Nat.reduceEqDiff, Int.reduceNeg, Int.reduceLT, Int.reduceLE, Int.add_zero, Int.zero_add, List.append_nil, Int.reduceEq, ab_sum1, ab_ri_0, ab_ri_1, ab_ri_2, ab_ri_3, ab_ri_4, ab_ri_5, ab_ri_6, ab_ri_7, ab_ri_8, ab_ri_12, ab_ri_30, ab_ri_60, ab_ri_100, ab_ri_101, ab_ri_127, ab_ri_m1, ab_ri_m2, ab_ri_m3, ab_ri_m4, ab_ri_m5, ab_ri_m11, ab_ri_m13, ab_ri_m14, ab_ri_10, hv', c, cn]
      exact last _ (by omega) q
  unfold ab_digs at q
  by_cases c : 100 ≤ v
  · have cn : ¬ v < 100 := by omega
    rw [if_pos c] at q
    simp only [s182_0, s182_1, s182_3, s182_6, s182_7, s182_9, s182_10, s182_12, s182_13, s182_14, true_and, and_true, true_implies, Option.toList_some, Option.toList_none, List.nil_append, List.cons_append, List.map_nil, List.map_cons, List.sum_nil, List.sum_cons, Nat.zero_le, ab_nl_n, ab_nl_i, ab_nl_r, ab_nl_0, ab_cat_i, ab_cat_r, ab_cat_l, Nat.reduceAdd, Nat.reduceLeDiff, Nat.add_zero, Nat.zero_add, reduceIte, List.getElem?_cons_succ, List.getElem?_cons_zero, List.length_cons, List.length_nil, List.set_cons_zero, List.set_cons_succ, true_or, or_true, Classical.not_not, not_true_eq_false, not_false_eq_true, ab_01r, ab_01z, ab_01n, false_implies, ab_tt, Nat.reduceLT, Nat.reduceEqDiff, Int.reduceNeg, Int.reduceLT, Int.reduceLE, Int.add_zero, Int.zero_add, List.append_nil, Int.reduceEq, ab_sum1, ab_ri_0, ab_ri_1, ab_ri_2, ab_ri_3, ab_ri_4, ab_ri_5, ab_ri_6, ab_ri_7, ab_ri_8, ab_ri_12, ab_ri_30, ab_ri_60, ab_ri_100, ab_ri_101, ab_ri_127, ab_ri_m1, ab_ri_m2, ab_ri_m3, ab_ri_m4, ab_ri_m5, ab_ri_m11, ab_ri_m13, ab_ri_m14, ab_ri_10, ab_vc, ab_pgm_68, ab_sv_12_249, ab_sv_12_249, ab_sv_12_249, e1, hv', c, cn, Nat.reduceLeDiff]
    refine mp_writes ⟨hz.1, by omega⟩ ?_
    have o := one z (48 + v / 100) hz.1 (by omega)
    refine mid _ (by omega) ?_
    rw [ab_aps_app, ← e1]
    exact q
  · have cn : v < 100 := by omega
    rw [if_neg c] at q
    simp only [s182_0, s182_1, s182_3, true_and, and_true, true_implies, Option.toList_some, Option.toList_none, List.nil_append, List.cons_append, List.map_nil, List.map_cons, List.sum_nil, List.sum_cons, Nat.zero_le, ab_nl_n, ab_nl_i, ab_nl_r, ab_nl_0, ab_cat_i, ab_cat_r, ab_cat_l, Nat.reduceAdd, Nat.reduceLeDiff, Nat.add_zero, Nat.zero_add, reduceIte, List.getElem?_cons_succ, List.getElem?_cons_zero, List.length_cons, List.length_nil, List.set_cons_zero, List.set_cons_succ, true_or, or_true, Classical.not_not, not_true_eq_false, not_false_eq_true, ab_01r, ab_01z, ab_01n, false_implies, ab_tt, Nat.reduceLT, Nat.reduceEqDiff, Int.reduceNeg, Int.reduceLT, Int.reduceLE, Int.add_zero, Int.zero_add, List.append_nil, Int.reduceEq, ab_sum1, ab_ri_0, ab_ri_1, ab_ri_2, ab_ri_3, ab_ri_4, ab_ri_5, ab_ri_6, ab_ri_7, ab_ri_8, ab_ri_12, ab_ri_30, ab_ri_60, ab_ri_100, ab_ri_101, ab_ri_127, ab_ri_m1, ab_ri_m2, ab_ri_m3, ab_ri_m4, ab_ri_m5, ab_ri_m11, ab_ri_m13, ab_ri_m14, ab_ri_10, hv', c, cn]
    exact mid _ (by omega) q
theorem ab_pts_len {b : Int} (hb : ab_bb b) {k : Nat} (hk : (k : Int) ≤ ab_LENGTH b) : (ab_pts b k).length ≤ 14 := by
  have lb := ab_first_r hb.1 hb.2
  have := ab_tb_all (P := fun b => ∀ k : Fin 6, (k.val : Int) ≤ ab_LENGTH b → (ab_pts b k.val).length ≤ 14) (m := 19) (by decide +kernel) hb.1 hb.2 ⟨k, by omega⟩
  exact this hk
theorem xm_write {v : Int} (J : ab_JM X Y h) (I : ab_XI X) (hv : ab_inR v) (q : ∀ h', ab_eqo 68 91 h h' → ab_JM (ab_n_write X v) Y h' → Q (some (vi (ab_s_write X v))) h' n) : ab_G 183 0 [some (vr 68), some (vi v), none, none, none, none] [] h n (0, 0) Q := by
  have J' := J
  obtain ⟨σ, hmo, hsc, hst, hp, hw⟩ := J'
  obtain ⟨⟨la, p1, q1⟩, ⟨lev, p2, q2⟩, ⟨att, p3, q3⟩, ⟨tp, p4, q4⟩, ⟨ppr, p5, q5⟩, ⟨rwh, p6, q6⟩, ⟨rby, p7, q7⟩, ⟨sz, p8, q8⟩, ⟨cl, p9, q9⟩, ⟨im, p10, q10⟩⟩ := id hp
  obtain ⟨⟨T, w1⟩, ⟨th, w2⟩, ⟨bw, w3⟩, ⟨M, w4, w4'⟩, ⟨pva, w5⟩, ⟨tby, w6⟩, ⟨tfr, w7⟩, ⟨mds, w8⟩, ⟨smm, w9⟩⟩ := id hw
  have hl := ab_lok_cg q1 I.1.1
  unfold ab_s_write ab_n_write at q
  by_cases c1 : ab_isV v
  · rw [if_pos c1, if_pos c1] at q
    have v0 := c1.1
    have v4 : v < ((4 : Nat) : Int) := by omega
    have hh := I.1.2.1 v v0 (by omega)
    have ev := q2 v v0 (by omega)
    have hg5 : 0 ≤ lev v ∧ lev v ≤ 5 := by omega
    have hwd := ab_wd_eq hg5.1 (by omega)
    have l0 := hg5.1
    have l7 : lev v < ((7 : Nat) : Int) := by omega
    have hcv : ∀ i : Int, 0 ≤ i → i < 7 → 0 ≤ ab_cv X v i ∧ ab_cv X v i ≤ 100 := fun i i0 i7 => I.1.2.2.1 _ (by omega) (by omega)
    have e0 : ab_hs h 68 (ab_mo (ab_su σ 10 0)) = ab_pgm h σ (ppr, 0) := by
      unfold ab_pgm
      rw [ab_hs_id (a := 77) p5]
    simp (disch := omega) only [s183_0, s183_1, s183_4, s183_7, s183_8, s183_9, s183_10, s183_11, s183_14, s183_15, true_and, and_true, true_implies, Option.toList_some, Option.toList_none, List.nil_append, List.cons_append, List.map_nil, List.map_cons, List.sum_nil, List.sum_cons, Nat.zero_le, ab_nl_n, ab_nl_i, ab_nl_r, ab_nl_0, ab_cat_i, ab_cat_r, ab_cat_l, Nat.reduceAdd, Nat.reduceLeDiff, Nat.add_zero, Nat.zero_add, reduceIte, List.getElem?_cons_succ, List.getElem?_cons_zero, List.length_cons, List.length_nil, List.set_cons_zero, List.set_cons_succ, true_or, or_true, Classical.not_not, not_true_eq_false, not_false_eq_true, ab_01r, ab_01z, ab_01n, false_implies, ab_tt, Nat.reduceLT, Nat.reduceEqDiff, Int.reduceNeg, Int.reduceLT, Int.reduceLE, Int.add_zero, Int.zero_add, List.append_nil, Int.reduceEq, ab_sum1, ab_ri_0, ab_ri_1, ab_ri_2, ab_ri_3, ab_ri_4, ab_ri_5, ab_ri_6, ab_ri_7, ab_ri_8, ab_ri_12, ab_ri_30, ab_ri_60, ab_ri_100, ab_ri_101, ab_ri_127, ab_ri_m1, ab_ri_m2, ab_ri_m3, ab_ri_m4, ab_ri_m5, ab_ri_m11, ab_ri_m13, ab_ri_m14, ab_ri_10, ab_fd, ab_fs, ab_ai, ab_as, ab_fit, ab_tyf, tyX12, ab_mg_0, ab_mg_1, ab_mg_2, ab_mg_3, ab_mg_4, ab_mg_5, ab_mg_6, ab_mg_7, ab_mg_8, ab_mg_9, ab_mg_10, ab_mg_11, ab_mg_12, ab_mg_13, ab_mg_14, ab_mg_15, ab_mg_16, ab_mg_17, ab_mg_18, ab_mg_19, ab_mg_20, ab_mg_21, ab_mg_22, ab_mg_23, ab_mg_24, ab_mg_25, ab_mg_26, ab_mg_27, ab_mg_28, ab_mg_29, ab_mg_30, ab_mg_31, ab_mg_32, ab_mg_33, ab_ms_8, ab_ms_10, ab_ms_11, ab_ms_17, ab_ms_21, ab_ms_22, ab_ms_24, ab_ms_25, ab_ms_26, ab_ms_29, ab_ms_32, ab_mol_l, Nat.reduceLT, Nat.reduceLeDiff, mp_isVector, ab_01n, ab_01z, c1, hmo, e0]
    have S : ∀ z, ab_mst (ab_pgm h σ z) := fun z => ab_mst_fr (fun a _ _ => ab_pgm_o (by omega) (by omega)) hst
    have O74 : ∀ z, ab_pgm h σ z 74 = some (ab_ia 4 lev) := fun z => (ab_pgm_o (by decide) (by decide)).trans p2
    have O75 : ∀ z, ab_pgm h σ z 75 = some (ab_ia 28 att) := fun z => (ab_pgm_o (by decide) (by decide)).trans p3
    -- how much is there
    have size : ∀ k : Nat, (k : Int) ≤ ab_wd (lev v) → (ab_trms (ab_cv X v) (ab_START (lev v)) k).length ≤ 94 := by
      intro k hk
      have := (ab_trms_ok (g := ab_cv X v) (st := ab_START (lev v)) (by omega) k (by omega) (fun i i0 i1 => hcv i i0 (by omega))).2
      have hb := ab_bud_95 (lv := lev v) hg5 hk
      rcases this with e | e
      · rw [e]; decide
      · omega
    have at2 : ∀ k : Nat, (k : Int) ≤ ab_wd (lev v) → (ab_aps 200 (ppr, 0) (ab_trms (ab_cv X v) (ab_START (lev v)) k)).2 = ((ab_trms (ab_cv X v) (ab_START (lev v)) k).length : Int) := by
      intro k hk
      have := size k hk
      have e := (ab_aps_eq (mm := 200) (ab_trms (ab_cv X v) (ab_START (lev v)) k) (ppr, 0) (Int.le_refl 0) (by show (0 : Int) + _ ≤ _; omega)).1
      rw [e]
      show (0 : Int) + _ = _
      omega
    have key := ab_dn (P := fun i => ∀ (l3 l4 l5 : Option ab_V), ab_nl [l3, l4, l5] = true → ab_nl [l4, l5] = true → ab_nl [l5] = true → ab_G 183 16 [some (vr 68), some (vi v), some (vi i), l3, l4, l5] [] (ab_pgm h σ (ab_aps 200 (ppr, 0) (ab_trms (ab_cv X v) (ab_START (lev v)) i.toNat))) n (0, 0) Q) (a := 0) (e := ab_wd (lev v)) (by omega) ?_ ?_
    · exact key none none none rfl rfl rfl
    · intro l3 l4 l5 z3 z4 z5
      have sz0 := size (ab_wd (lev v)).toNat (by omega)
      have a2 := at2 (ab_wd (lev v)).toNat (by omega)
      have ae := ab_aps_eq (mm := 200) (ab_trms (ab_cv X v) (ab_START (lev v)) (ab_wd (lev v)).toNat) (ppr, 0) (Int.le_refl 0) (by show (0 : Int) + _ ≤ _; omega)
      have et : ab_trms (ab_cv X v) (ab_START (lev v)) (ab_wd (lev v)).toNat = ab_txw X v := by unfold ab_txw; rw [ev]
      rw [et] at sz0 a2 ae ⊢
      revert a2 ae
      generalize ab_aps 200 (ppr, 0) (ab_txw X v) = z
      intro a2 ae
      obtain ⟨-, ae2, -⟩ := ae
      have fr : ∀ a, a ≠ 68 → a ≠ 77 → ab_pgm h σ z a = h a := fun a h1 h2 => ab_pgm_o h1 h2
      have q := q (ab_pgm h σ z) (fun a ha => fr a (by omega) (by omega)) ⟨_, ab_pgm_68, ⟨(ab_su_n (by decide)).trans hsc.1, ab_su_e.trans a2, (ab_su_n (by decide)).trans hsc.2.2.1, (ab_su_n (by decide)).trans hsc.2.2.2⟩, S z, ⟨⟨la, (fr 69 (by decide) (by decide)).trans p1, q1⟩, ⟨lev, (fr 74 (by decide) (by decide)).trans p2, q2⟩, ⟨att, (fr 75 (by decide) (by decide)).trans p3, q3⟩, ⟨tp, (fr 76 (by decide) (by decide)).trans p4, q4⟩, ⟨z.1, ab_pgm_77, fun i i0 i1 => by
          have i1 : i < ((ab_txw X v).length : Int) := i1
          have := ae2 i.toNat (by omega)
          rw [Int.toNat_of_nonneg i0] at this
          show z.1 i = (ab_txw X v).getD i.toNat 0
          rw [← this]
          show z.1 i = z.1 (0 + i)
          rw [Int.zero_add]⟩, ⟨rwh, (fr 78 (by decide) (by decide)).trans p6, q6⟩, ⟨rby, (fr 79 (by decide) (by decide)).trans p7, q7⟩, ⟨sz, (fr 80 (by decide) (by decide)).trans p8, q8⟩, ⟨cl, (fr 81 (by decide) (by decide)).trans p9, q9⟩, ⟨im, (fr 91 (by decide) (by decide)).trans p10, q10⟩⟩, ab_wrk_fr (fun a _ _ => fr a (by omega) (by omega)) hw⟩
      rw [← a2] at q
      rw [s183_16]
      simp only [s183_17, s183_18, s183_19, s183_22, s183_23, s183_24, s183_27, s183_162, s183_163, s183_166, true_and, and_true, true_implies, Option.toList_some, Option.toList_none, List.nil_append, List.cons_append, List.map_nil, List.map_cons, List.sum_nil, List.sum_cons, Nat.zero_le, ab_nl_n, ab_nl_i, ab_nl_r, ab_nl_0, ab_cat_i, ab_cat_r, ab_cat_l, Nat.reduceAdd, Nat.reduceLeDiff, Nat.add_zero, Nat.zero_add, reduceIte, List.getElem?_cons_succ, List.getElem?_cons_zero, List.length_cons, List.length_nil, List.set_cons_zero, List.set_cons_succ, true_or, or_true, Classical.not_not, not_true_eq_false, not_false_eq_true, ab_01r, ab_01z, ab_01n, false_implies, ab_tt, Nat.reduceLT, Nat.reduceEqDiff, Int.reduceNeg, Int.reduceLT, Int.reduceLE, Int.add_zero, Int.zero_add, List.append_nil, Int.reduceEq, ab_sum1, ab_ri_0, ab_ri_1, ab_ri_2, ab_ri_3, ab_ri_4, ab_ri_5, ab_ri_6, ab_ri_7, ab_ri_8, ab_ri_12, ab_ri_30, ab_ri_60, ab_ri_100, ab_ri_101, ab_ri_127, ab_ri_m1, ab_ri_m2, ab_ri_m3, ab_ri_m4, ab_ri_m5, ab_ri_m11, ab_ri_m13, ab_ri_m14, ab_ri_10, ab_fd, ab_fs, ab_ai, ab_as, ab_fit, ab_tyf, tyX12, ab_mg_0, ab_mg_1, ab_mg_2, ab_mg_3, ab_mg_4, ab_mg_5, ab_mg_6, ab_mg_7, ab_mg_8, ab_mg_9, ab_mg_10, ab_mg_11, ab_mg_12, ab_mg_13, ab_mg_14, ab_mg_15, ab_mg_16, ab_mg_17, ab_mg_18, ab_mg_19, ab_mg_20, ab_mg_21, ab_mg_22, ab_mg_23, ab_mg_24, ab_mg_25, ab_mg_26, ab_mg_27, ab_mg_28, ab_mg_29, ab_mg_30, ab_mg_31, ab_mg_32, ab_mg_33, ab_ms_8, ab_ms_10, ab_ms_11, ab_ms_17, ab_ms_21, ab_ms_22, ab_ms_24, ab_ms_25, ab_ms_26, ab_ms_29, ab_ms_32, ab_mol_l, Nat.reduceLT, Nat.reduceLeDiff, ab_vc, ab_sv_12_100, ab_sv_12_249, ab_sv_12_252, ab_sv_12_249, ab_sv_12_249, ab_sv_12_249, ab_sv_12_249, ab_sv_12_249, ab_pgm_68, O74, mp_many ab_pgm_68 (S _) hg5, v0, v4, Int.le_refl, ab_su_e, q] <;> omega
    · intro i i0 i9 ih l3 l4 l5 z3 z4 z5
      have ei : (i + 1).toNat = i.toNat + 1 := by omega
      have ec : ((i.toNat : Nat) : Int) = i := Int.toNat_of_nonneg i0
      have ci : ¬ ab_wd (lev v) ≤ i := by omega
      have x0 : 0 ≤ 7 * v + i := by omega
      have x1 : 7 * v + i < ((28 : Nat) : Int) := by omega
      have ax := q3 (7 * v + i) x0 (by omega)
      have ar := I.1.2.2.1 (7 * v + i) x0 (by omega)
      have hvr : ab_inR (att (7 * v + i)) = True := eq_true (by omega)
      have bb : ab_bb (ab_START (lev v) + i) := ⟨by omega, by omega⟩
      have b0 := bb.1
      have b19 : ab_START (lev v) + i < ((19 : Nat) : Int) := bb.2
      have lb := ab_first_r bb.1 bb.2
      have ecv : ab_cv X v i = att (7 * v + i) := ax.symm
      have a2 := at2 i.toNat (by omega)
      have s2 := size i.toNat (by omega)
      rw [ei, ab_trms, ec, ecv] at ih
      rw [s183_16]
      by_cases c2 : att (7 * v + i) = 0
      · rw [if_pos c2, List.append_nil] at ih
        have ih := ih (some (vi (att (7 * v + i)))) (some (vi (ab_START (lev v) + i))) l5 z5 z5 z5
        have c2t : (att (7 * v + i) = 0) = True := eq_true c2
        simp only [s183_17, s183_18, s183_19, s183_22, s183_23, s183_24, s183_27, s183_30, s183_31, s183_34, s183_36, s183_37, s183_38, s183_39, s183_40, s183_41, s183_42, s183_43, s183_46, s183_47, s183_50, s183_51, s183_52, s183_53, s183_54, s183_55, s183_57, s183_58, s183_61, s183_156, s183_159, true_and, and_true, true_implies, Option.toList_some, Option.toList_none, List.nil_append, List.cons_append, List.map_nil, List.map_cons, List.sum_nil, List.sum_cons, Nat.zero_le, ab_nl_n, ab_nl_i, ab_nl_r, ab_nl_0, ab_cat_i, ab_cat_r, ab_cat_l, Nat.reduceAdd, Nat.reduceLeDiff, Nat.add_zero, Nat.zero_add, reduceIte, List.getElem?_cons_succ, List.getElem?_cons_zero, List.length_cons, List.length_nil, List.set_cons_zero, List.set_cons_succ, true_or, or_true, Classical.not_not, not_true_eq_false, not_false_eq_true, ab_01r, ab_01z, ab_01n, false_implies, ab_tt, Nat.reduceLT, Nat.reduceEqDiff, Int.reduceNeg, Int.reduceLT, Int.reduceLE, Int.add_zero, Int.zero_add, List.append_nil, Int.reduceEq, ab_sum1, ab_ri_0, ab_ri_1, ab_ri_2, ab_ri_3, ab_ri_4, ab_ri_5, ab_ri_6, ab_ri_7, ab_ri_8, ab_ri_12, ab_ri_30, ab_ri_60, ab_ri_100, ab_ri_101, ab_ri_127, ab_ri_m1, ab_ri_m2, ab_ri_m3, ab_ri_m4, ab_ri_m5, ab_ri_m11, ab_ri_m13, ab_ri_m14, ab_ri_10, ab_fd, ab_fs, ab_ai, ab_as, ab_fit, ab_tyf, tyX12, ab_mg_0, ab_mg_1, ab_mg_2, ab_mg_3, ab_mg_4, ab_mg_5, ab_mg_6, ab_mg_7, ab_mg_8, ab_mg_9, ab_mg_10, ab_mg_11, ab_mg_12, ab_mg_13, ab_mg_14, ab_mg_15, ab_mg_16, ab_mg_17, ab_mg_18, ab_mg_19, ab_mg_20, ab_mg_21, ab_mg_22, ab_mg_23, ab_mg_24, ab_mg_25, ab_mg_26, ab_mg_27, ab_mg_28, ab_mg_29, ab_mg_30, ab_mg_31, ab_mg_32, ab_mg_33, ab_ms_8, ab_ms_10, ab_ms_11, ab_ms_17, ab_ms_21, ab_ms_22, ab_ms_24, ab_ms_25, ab_ms_26, ab_ms_29, ab_ms_32, ab_mol_l, Nat.reduceLT, Nat.reduceLeDiff, ab_vc, ab_sv_12_100, ab_sv_12_249, ab_sv_12_252, ab_sv_12_249, ab_sv_12_249, ab_sv_12_249, ab_sv_12_249, ab_sv_12_249, ab_pgm_68, O74, O75, (S _).1, mp_many ab_pgm_68 (S _) hg5, ci, v0, v4, l0, l7, x0, x1, c2t, hvr, z3, z4, z5, ih] <;> omega
      · rw [if_neg c2, ← ab_aps_app] at ih
        have ep : (if ab_trms (ab_cv X v) (ab_START (lev v)) i.toNat = [] then (0 : Int) else 1) = if 0 < (ab_aps 200 (ppr, 0) (ab_trms (ab_cv X v) (ab_START (lev v)) i.toNat)).2 then 1 else 0 := by
          rw [a2]
          by_cases e : ab_trms (ab_cv X v) (ab_START (lev v)) i.toNat = []
          · rw [if_pos e, e, if_neg (by decide)]
          · rw [if_neg e, if_pos (by
              have : (ab_trms (ab_cv X v) (ab_START (lev v)) i.toNat).length ≠ 0 := fun z => e (List.length_eq_zero_iff.mp z)
              omega)]
        rw [ep] at ih
        have hz94 : 0 ≤ (ab_aps 200 (ppr, 0) (ab_trms (ab_cv X v) (ab_START (lev v)) i.toNat)).2 ∧ (ab_aps 200 (ppr, 0) (ab_trms (ab_cv X v) (ab_START (lev v)) i.toNat)).2 ≤ 94 := by omega
        revert ih hz94
        generalize ab_aps 200 (ppr, 0) (ab_trms (ab_cv X v) (ab_START (lev v)) i.toNat) = z
        generalize hxe : att (7 * v + i) = x at ar ax c2 hvr
        generalize hbe : ab_START (lev v) + i = b at bb b0 b19 lb
        intro ih hz94
        have xr : 0 ≤ x ∧ x ≤ 100 := by omega
        have ih := ih (some (vi x)) (some (vi b))
        have lbr : ab_inR (ab_LENGTH b) = True := eq_true (by omega)
        -- bounds as it is written
        have bnd : ∀ (z' : (Int → Int) × Int) (l : List Int), 0 ≤ z'.2 → z'.2 + (l.length : Int) ≤ 200 → (ab_aps 200 z' l).2 = z'.2 + (l.length : Int) := fun z' l h0 h1 => (ab_aps_eq (mm := 200) l z' h0 (by omega)).1
        have body : ∀ z' : (Int → Int) × Int, 0 ≤ z'.2 → z'.2 ≤ 100 → (∀ l5 : Option ab_V, ab_nl [l5] = true → ab_G 183 156 [some (vr 68), some (vi v), some (vi i), some (vi x), some (vi b), l5] [] (ab_pgm h σ (ab_aps 200 z' (91 :: (ab_pts b (ab_LENGTH b).toNat ++ [93])))) n (0, 0) Q) → ab_G 183 87 [some (vr 68), some (vi v), some (vi i), some (vi x), some (vi b), l5] [] (ab_pgm h σ z') n (0, 0) Q := by
          intro z' z0 z100 g
          simp only [s183_87, s183_88, s183_90, true_and, and_true, true_implies, Option.toList_some, Option.toList_none, List.nil_append, List.cons_append, List.map_nil, List.map_cons, List.sum_nil, List.sum_cons, Nat.zero_le, ab_nl_n, ab_nl_i, ab_nl_r, ab_nl_0, ab_cat_i, ab_cat_r, ab_cat_l, Nat.reduceAdd, Nat.reduceLeDiff, Nat.add_zero, Nat.zero_add, reduceIte, List.getElem?_cons_succ, List.getElem?_cons_zero, List.length_cons, List.length_nil, List.set_cons_zero, List.set_cons_succ, true_or, or_true, Classical.not_not, not_true_eq_false, not_false_eq_true, ab_01r, ab_01z, ab_01n, false_implies, ab_tt, Nat.reduceLT, Nat.reduceEqDiff, Int.reduceNeg, Int.reduceLT, Int.reduceLE, Int.add_zero, Int.zero_add, List.append_nil, Int.reduceEq, ab_sum1, ab_ri_0, ab_ri_1, ab_ri_2, ab_ri_3, ab_ri_4, ab_ri_5, ab_ri_6, ab_ri_7, ab_ri_8, ab_ri_12, ab_ri_30, ab_ri_60, ab_ri_100, ab_ri_101, ab_ri_127, ab_ri_m1, ab_ri_m2, ab_ri_m3, ab_ri_m4, ab_ri_m5, ab_ri_m11, ab_ri_m13, ab_ri_m14, ab_ri_10, ab_vc, ab_sv_12_100, ab_sv_12_249, ab_sv_12_252, ab_sv_12_249, ab_sv_12_249, ab_sv_12_249, ab_sv_12_249, ab_sv_12_249, ab_pgm_68, Nat.reduceLeDiff]
          refine mp_writes ⟨z0, by omega⟩ ?_
          simp only [s183_93, s183_94, true_and, and_true, true_implies, Option.toList_some, Option.toList_none, List.nil_append, List.cons_append, List.map_nil, List.map_cons, List.sum_nil, List.sum_cons, Nat.zero_le, ab_nl_n, ab_nl_i, ab_nl_r, ab_nl_0, ab_cat_i, ab_cat_r, ab_cat_l, Nat.reduceAdd, Nat.reduceLeDiff, Nat.add_zero, Nat.zero_add, reduceIte, List.getElem?_cons_succ, List.getElem?_cons_zero, List.length_cons, List.length_nil, List.set_cons_zero, List.set_cons_succ, true_or, or_true, Classical.not_not, not_true_eq_false, not_false_eq_true, ab_01r, ab_01z, ab_01n, false_implies, ab_tt, Nat.reduceLT, Nat.reduceEqDiff, Int.reduceNeg, Int.reduceLT, Int.reduceLE, Int.add_zero, Int.zero_add, List.append_nil, Int.reduceEq, ab_sum1, ab_ri_0, ab_ri_1, ab_ri_2, ab_ri_3, ab_ri_4, ab_ri_5, ab_ri_6, ab_ri_7, ab_ri_8, ab_ri_12, ab_ri_30, ab_ri_60, ab_ri_100, ab_ri_101, ab_ri_127, ab_ri_m1, ab_ri_m2, ab_ri_m3, ab_ri_m4, ab_ri_m5, ab_ri_m11, ab_ri_m13, ab_ri_m14, ab_ri_10, z5]
          refine ab_lp 0 (ab_LENGTH b) (fun k => [some (vr 68), some (vi v), some (vi i), some (vi x), some (vi b), some (vi k)]) (fun k => ab_pgm h σ (ab_aps 200 z' (91 :: ab_pts b k.toNat))) (by omega) rfl rfl ?_ ?_
          · have g := g (some (vi (ab_LENGTH b))) rfl
            have b1 := bnd z' (91 :: ab_pts b (ab_LENGTH b).toNat) z0 (by have := ab_pts_len bb (k := (ab_LENGTH b).toNat) (by omega); simp only [List.length_append, List.length_cons, List.length_nil]; omega)
            have b2 := ab_pts_len bb (k := (ab_LENGTH b).toNat) (by omega)
            simp only [List.length_append, List.length_cons, List.length_nil] at b1
            rw [s183_96]
            simp only [s183_98, s183_99, s183_102, s183_104, s183_105, s183_150, s183_151, s183_153, true_and, and_true, true_implies, Option.toList_some, Option.toList_none, List.nil_append, List.cons_append, List.map_nil, List.map_cons, List.sum_nil, List.sum_cons, Nat.zero_le, ab_nl_n, ab_nl_i, ab_nl_r, ab_nl_0, ab_cat_i, ab_cat_r, ab_cat_l, Nat.reduceAdd, Nat.reduceLeDiff, Nat.add_zero, Nat.zero_add, reduceIte, List.getElem?_cons_succ, List.getElem?_cons_zero, List.length_cons, List.length_nil, List.set_cons_zero, List.set_cons_succ, true_or, or_true, Classical.not_not, not_true_eq_false, not_false_eq_true, ab_01r, ab_01z, ab_01n, false_implies, ab_tt, Nat.reduceLT, Nat.reduceEqDiff, Int.reduceNeg, Int.reduceLT, Int.reduceLE, Int.add_zero, Int.zero_add, List.append_nil, Int.reduceEq, ab_sum1, ab_ri_0, ab_ri_1, ab_ri_2, ab_ri_3, ab_ri_4, ab_ri_5, ab_ri_6, ab_ri_7, ab_ri_8, ab_ri_12, ab_ri_30, ab_ri_60, ab_ri_100, ab_ri_101, ab_ri_127, ab_ri_m1, ab_ri_m2, ab_ri_m3, ab_ri_m4, ab_ri_m5, ab_ri_m11, ab_ri_m13, ab_ri_m14, ab_ri_10, ab_fd, ab_fs, ab_ai, ab_as, ab_fit, ab_tyf, tyX12, ab_mg_0, ab_mg_1, ab_mg_2, ab_mg_3, ab_mg_4, ab_mg_5, ab_mg_6, ab_mg_7, ab_mg_8, ab_mg_9, ab_mg_10, ab_mg_11, ab_mg_12, ab_mg_13, ab_mg_14, ab_mg_15, ab_mg_16, ab_mg_17, ab_mg_18, ab_mg_19, ab_mg_20, ab_mg_21, ab_mg_22, ab_mg_23, ab_mg_24, ab_mg_25, ab_mg_26, ab_mg_27, ab_mg_28, ab_mg_29, ab_mg_30, ab_mg_31, ab_mg_32, ab_mg_33, ab_ms_8, ab_ms_10, ab_ms_11, ab_ms_17, ab_ms_21, ab_ms_22, ab_ms_24, ab_ms_25, ab_ms_26, ab_ms_29, ab_ms_32, ab_mol_l, Nat.reduceLT, Nat.reduceLeDiff, ab_vc, ab_sv_12_100, ab_sv_12_249, ab_sv_12_252, ab_sv_12_249, ab_sv_12_249, ab_sv_12_249, ab_sv_12_249, ab_sv_12_249, ab_pgm_68, (S _).2.2.1, b0, b19, lbr, Int.le_refl]
            refine mp_writes ⟨by omega, by omega⟩ ?_
            rw [ab_aps_app]
            exact g
          · intro k k0 k9 kh
            have ek : (k + 1).toNat = k.toNat + 1 := by omega
            have eck : ((k.toNat : Nat) : Int) = k := Int.toNat_of_nonneg k0
            have ck : ¬ ab_LENGTH b ≤ k := by omega
            have hkr : ab_inR k = True := eq_true (by omega)
            have b2 := ab_pts_len bb (k := k.toNat) (by omega)
            have b1 := bnd z' (91 :: ab_pts b k.toNat) z0 (by simp only [List.length_append, List.length_cons, List.length_nil]; omega)
            simp only [List.length_append, List.length_cons, List.length_nil] at b1
            have y0 : 0 ≤ 5 * b + k := by omega
            have y1 : 5 * b + k < ((95 : Nat) : Int) := by omega
            have nk := ab_num_k bb k0 k9
            have tail : ∀ l : List Int, l.length ≤ 1 → (if k.toNat = 0 then [] else [32]) = l → ab_G 183 119 [some (vr 68), some (vi v), some (vi i), some (vi x), some (vi b), some (vi k)] [] (ab_pgm h σ (ab_aps 200 z' (91 :: (ab_pts b k.toNat ++ l)))) n (0, 0) Q := by
              intro l hl1 hl
              have b3 := bnd z' (91 :: (ab_pts b k.toNat ++ l)) z0 (by simp only [List.length_append, List.length_cons, List.length_nil]; omega)
              simp only [List.length_append, List.length_cons, List.length_nil] at b3
              simp only [s183_119, s183_120, s183_122, true_and, and_true, true_implies, Option.toList_some, Option.toList_none, List.nil_append, List.cons_append, List.map_nil, List.map_cons, List.sum_nil, List.sum_cons, Nat.zero_le, ab_nl_n, ab_nl_i, ab_nl_r, ab_nl_0, ab_cat_i, ab_cat_r, ab_cat_l, Nat.reduceAdd, Nat.reduceLeDiff, Nat.add_zero, Nat.zero_add, reduceIte, List.getElem?_cons_succ, List.getElem?_cons_zero, List.length_cons, List.length_nil, List.set_cons_zero, List.set_cons_succ, true_or, or_true, Classical.not_not, not_true_eq_false, not_false_eq_true, ab_01r, ab_01z, ab_01n, false_implies, ab_tt, Nat.reduceLT, Nat.reduceEqDiff, Int.reduceNeg, Int.reduceLT, Int.reduceLE, Int.add_zero, Int.zero_add, List.append_nil, Int.reduceEq, ab_sum1, ab_ri_0, ab_ri_1, ab_ri_2, ab_ri_3, ab_ri_4, ab_ri_5, ab_ri_6, ab_ri_7, ab_ri_8, ab_ri_12, ab_ri_30, ab_ri_60, ab_ri_100, ab_ri_101, ab_ri_127, ab_ri_m1, ab_ri_m2, ab_ri_m3, ab_ri_m4, ab_ri_m5, ab_ri_m11, ab_ri_m13, ab_ri_m14, ab_ri_10, ab_vc, ab_sv_12_100, ab_sv_12_249, ab_sv_12_252, ab_sv_12_249, ab_sv_12_249, ab_sv_12_249, ab_sv_12_249, ab_sv_12_249, ab_pgm_68, Nat.reduceLeDiff]
              refine mp_writes ⟨by omega, by omega⟩ ?_
              have b4 := bnd z' (91 :: (ab_pts b k.toNat ++ l ++ [45])) z0 (by simp only [List.length_append, List.length_cons, List.length_nil]; omega)
              simp only [List.length_append, List.length_cons, List.length_nil] at b4
              rw [ab_aps_app]
              simp only [s183_125, s183_126, s183_128, s183_129, s183_132, s183_133, s183_135, s183_136, s183_138, s183_139, s183_140, s183_141, true_and, and_true, true_implies, Option.toList_some, Option.toList_none, List.nil_append, List.cons_append, List.map_nil, List.map_cons, List.sum_nil, List.sum_cons, Nat.zero_le, ab_nl_n, ab_nl_i, ab_nl_r, ab_nl_0, ab_cat_i, ab_cat_r, ab_cat_l, Nat.reduceAdd, Nat.reduceLeDiff, Nat.add_zero, Nat.zero_add, reduceIte, List.getElem?_cons_succ, List.getElem?_cons_zero, List.length_cons, List.length_nil, List.set_cons_zero, List.set_cons_succ, true_or, or_true, Classical.not_not, not_true_eq_false, not_false_eq_true, ab_01r, ab_01z, ab_01n, false_implies, ab_tt, Nat.reduceLT, Nat.reduceEqDiff, Int.reduceNeg, Int.reduceLT, Int.reduceLE, Int.add_zero, Int.zero_add, List.append_nil, Int.reduceEq, ab_sum1, ab_ri_0, ab_ri_1, ab_ri_2, ab_ri_3, ab_ri_4, ab_ri_5, ab_ri_6, ab_ri_7, ab_ri_8, ab_ri_12, ab_ri_30, ab_ri_60, ab_ri_100, ab_ri_101, ab_ri_127, ab_ri_m1, ab_ri_m2, ab_ri_m3, ab_ri_m4, ab_ri_m5, ab_ri_m11, ab_ri_m13, ab_ri_m14, ab_ri_10, ab_fd, ab_fs, ab_ai, ab_as, ab_fit, ab_tyf, tyX12, ab_mg_0, ab_mg_1, ab_mg_2, ab_mg_3, ab_mg_4, ab_mg_5, ab_mg_6, ab_mg_7, ab_mg_8, ab_mg_9, ab_mg_10, ab_mg_11, ab_mg_12, ab_mg_13, ab_mg_14, ab_mg_15, ab_mg_16, ab_mg_17, ab_mg_18, ab_mg_19, ab_mg_20, ab_mg_21, ab_mg_22, ab_mg_23, ab_mg_24, ab_mg_25, ab_mg_26, ab_mg_27, ab_mg_28, ab_mg_29, ab_mg_30, ab_mg_31, ab_mg_32, ab_mg_33, ab_ms_8, ab_ms_10, ab_ms_11, ab_ms_17, ab_ms_21, ab_ms_22, ab_ms_24, ab_ms_25, ab_ms_26, ab_ms_29, ab_ms_32, ab_mol_l, Nat.reduceLT, Nat.reduceLeDiff, ab_vc, ab_sv_12_100, ab_sv_12_249, ab_sv_12_252, ab_sv_12_249, ab_sv_12_249, ab_sv_12_249, ab_sv_12_249, ab_sv_12_249, ab_pgm_68, (S _).2.2.2, y0, y1, nk]
              refine mp_writes ⟨by omega, by omega⟩ ?_
              rw [ek, ab_pts, hl] at kh
              rw [ab_aps_app]
              simp only [s183_144, s183_147, true_and, and_true, true_implies, Option.toList_some, Option.toList_none, List.nil_append, List.cons_append, List.map_nil, List.map_cons, List.sum_nil, List.sum_cons, Nat.zero_le, ab_nl_n, ab_nl_i, ab_nl_r, ab_nl_0, ab_cat_i, ab_cat_r, ab_cat_l, Nat.reduceAdd, Nat.reduceLeDiff, Nat.add_zero, Nat.zero_add, reduceIte, List.getElem?_cons_succ, List.getElem?_cons_zero, List.length_cons, List.length_nil, List.set_cons_zero, List.set_cons_succ, true_or, or_true, Classical.not_not, not_true_eq_false, not_false_eq_true, ab_01r, ab_01z, ab_01n, false_implies, ab_tt, Nat.reduceLT, Nat.reduceEqDiff, Int.reduceNeg, Int.reduceLT, Int.reduceLE, Int.add_zero, Int.zero_add, List.append_nil, Int.reduceEq, ab_sum1, ab_ri_0, ab_ri_1, ab_ri_2, ab_ri_3, ab_ri_4, ab_ri_5, ab_ri_6, ab_ri_7, ab_ri_8, ab_ri_12, ab_ri_30, ab_ri_60, ab_ri_100, ab_ri_101, ab_ri_127, ab_ri_m1, ab_ri_m2, ab_ri_m3, ab_ri_m4, ab_ri_m5, ab_ri_m11, ab_ri_m13, ab_ri_m14, ab_ri_10]
              simpa only [List.append_assoc, List.cons_append, List.nil_append] using kh
            rw [s183_96]
            by_cases c : k ≤ 0
            · have e0 : k.toNat = 0 := by omega
              have t := tail [] (by decide) (by rw [if_pos e0])
              rw [List.append_nil] at t
              simp only [s183_98, s183_99, s183_102, s183_104, s183_105, s183_108, s183_110, true_and, and_true, true_implies, Option.toList_some, Option.toList_none, List.nil_append, List.cons_append, List.map_nil, List.map_cons, List.sum_nil, List.sum_cons, Nat.zero_le, ab_nl_n, ab_nl_i, ab_nl_r, ab_nl_0, ab_cat_i, ab_cat_r, ab_cat_l, Nat.reduceAdd, Nat.reduceLeDiff, Nat.add_zero, Nat.zero_add, reduceIte, List.getElem?_cons_succ, List.getElem?_cons_zero, List.length_cons, List.length_nil, List.set_cons_zero, List.set_cons_succ, true_or, or_true, Classical.not_not, not_true_eq_false, not_false_eq_true, ab_01r, ab_01z, ab_01n, false_implies, ab_tt, Nat.reduceLT, Nat.reduceEqDiff, Int.reduceNeg, Int.reduceLT, Int.reduceLE, Int.add_zero, Int.zero_add, List.append_nil, Int.reduceEq, ab_sum1, ab_ri_0, ab_ri_1, ab_ri_2, ab_ri_3, ab_ri_4, ab_ri_5, ab_ri_6, ab_ri_7, ab_ri_8, ab_ri_12, ab_ri_30, ab_ri_60, ab_ri_100, ab_ri_101, ab_ri_127, ab_ri_m1, ab_ri_m2, ab_ri_m3, ab_ri_m4, ab_ri_m5, ab_ri_m11, ab_ri_m13, ab_ri_m14, ab_ri_10, ab_fd, ab_fs, ab_ai, ab_as, ab_fit, ab_tyf, tyX12, ab_mg_0, ab_mg_1, ab_mg_2, ab_mg_3, ab_mg_4, ab_mg_5, ab_mg_6, ab_mg_7, ab_mg_8, ab_mg_9, ab_mg_10, ab_mg_11, ab_mg_12, ab_mg_13, ab_mg_14, ab_mg_15, ab_mg_16, ab_mg_17, ab_mg_18, ab_mg_19, ab_mg_20, ab_mg_21, ab_mg_22, ab_mg_23, ab_mg_24, ab_mg_25, ab_mg_26, ab_mg_27, ab_mg_28, ab_mg_29, ab_mg_30, ab_mg_31, ab_mg_32, ab_mg_33, ab_ms_8, ab_ms_10, ab_ms_11, ab_ms_17, ab_ms_21, ab_ms_22, ab_ms_24, ab_ms_25, ab_ms_26, ab_ms_29, ab_ms_32, ab_mol_l, Nat.reduceLT, Nat.reduceLeDiff, ab_pgm_68, (S _).2.2.1, b0, b19, lbr, hkr, ck, c, t]
            · have e0 : ¬ k.toNat = 0 := by omega
              have t := tail [32] (by decide) (by rw [if_neg e0])
              simp only [s183_98, s183_99, s183_102, s183_104, s183_105, s183_108, s183_110, s183_113, s183_114, s183_116, true_and, and_true, true_implies, Option.toList_some, Option.toList_none, List.nil_append, List.cons_append, List.map_nil, List.map_cons, List.sum_nil, List.sum_cons, Nat.zero_le, ab_nl_n, ab_nl_i, ab_nl_r, ab_nl_0, ab_cat_i, ab_cat_r, ab_cat_l, Nat.reduceAdd, Nat.reduceLeDiff, Nat.add_zero, Nat.zero_add, reduceIte, List.getElem?_cons_succ, List.getElem?_cons_zero, List.length_cons, List.length_nil, List.set_cons_zero, List.set_cons_succ, true_or, or_true, Classical.not_not, not_true_eq_false, not_false_eq_true, ab_01r, ab_01z, ab_01n, false_implies, ab_tt, Nat.reduceLT, Nat.reduceEqDiff, Int.reduceNeg, Int.reduceLT, Int.reduceLE, Int.add_zero, Int.zero_add, List.append_nil, Int.reduceEq, ab_sum1, ab_ri_0, ab_ri_1, ab_ri_2, ab_ri_3, ab_ri_4, ab_ri_5, ab_ri_6, ab_ri_7, ab_ri_8, ab_ri_12, ab_ri_30, ab_ri_60, ab_ri_100, ab_ri_101, ab_ri_127, ab_ri_m1, ab_ri_m2, ab_ri_m3, ab_ri_m4, ab_ri_m5, ab_ri_m11, ab_ri_m13, ab_ri_m14, ab_ri_10, ab_fd, ab_fs, ab_ai, ab_as, ab_fit, ab_tyf, tyX12, ab_mg_0, ab_mg_1, ab_mg_2, ab_mg_3, ab_mg_4, ab_mg_5, ab_mg_6, ab_mg_7, ab_mg_8, ab_mg_9, ab_mg_10, ab_mg_11, ab_mg_12, ab_mg_13, ab_mg_14, ab_mg_15, ab_mg_16, ab_mg_17, ab_mg_18, ab_mg_19, ab_mg_20, ab_mg_21, ab_mg_22, ab_mg_23, ab_mg_24, ab_mg_25, ab_mg_26, ab_mg_27, ab_mg_28, ab_mg_29, ab_mg_30, ab_mg_31, ab_mg_32, ab_mg_33, ab_ms_8, ab_ms_10, ab_ms_11, ab_ms_17, ab_ms_21, ab_ms_22, ab_ms_24, ab_ms_25, ab_ms_26, ab_ms_29, ab_ms_32, ab_mol_l, Nat.reduceLT, Nat.reduceLeDiff, ab_vc, ab_sv_12_100, ab_sv_12_249, ab_sv_12_252, ab_sv_12_249, ab_sv_12_249, ab_sv_12_249, ab_sv_12_249, ab_sv_12_249, ab_pgm_68, (S _).2.2.1, b0, b19, lbr, hkr, ck, c]
              refine mp_writes ⟨by omega, by omega⟩ ?_
              rw [ab_aps_app]
              exact t
        have number : ∀ z' : (Int → Int) × Int, 0 ≤ z'.2 → z'.2 ≤ 96 → (∀ l5 : Option ab_V, ab_nl [l5] = true → ab_G 183 156 [some (vr 68), some (vi v), some (vi i), some (vi x), some (vi b), l5] [] (ab_pgm h σ (ab_aps 200 z' ((if 1 < x then ab_digs x else []) ++ (91 :: (ab_pts b (ab_LENGTH b).toNat ++ [93]))))) n (0, 0) Q) → ab_G 183 77 [some (vr 68), some (vi v), some (vi i), some (vi x), some (vi b), l5] [] (ab_pgm h σ z') n (0, 0) Q := by
          intro z' z0 z100 g
          by_cases c : 1 < x
          · have cn : ¬ x ≤ 1 := by omega
            rw [if_pos c] at g
            have d := (ab_digs_ok xr).2
            have b1 := bnd z' (ab_digs x) z0 (by omega)
            simp only [s183_77, s183_78, s183_79, s183_82, s183_83, s183_84, true_and, and_true, true_implies, Option.toList_some, Option.toList_none, List.nil_append, List.cons_append, List.map_nil, List.map_cons, List.sum_nil, List.sum_cons, Nat.zero_le, ab_nl_n, ab_nl_i, ab_nl_r, ab_nl_0, ab_cat_i, ab_cat_r, ab_cat_l, Nat.reduceAdd, Nat.reduceLeDiff, Nat.add_zero, Nat.zero_add, reduceIte, List.getElem?_cons_succ, List.getElem?_cons_zero, List.length_cons, List.length_nil, List.set_cons_zero, List.set_cons_succ, true_or, or_true, Classical.not_not, not_true_eq_false, not_false_eq_true, ab_01r, ab_01z, ab_01n, false_implies, ab_tt, Nat.reduceLT, Nat.reduceEqDiff, Int.reduceNeg, Int.reduceLT, Int.reduceLE, Int.add_zero, Int.zero_add, List.append_nil, Int.reduceEq, ab_sum1, ab_ri_0, ab_ri_1, ab_ri_2, ab_ri_3, ab_ri_4, ab_ri_5, ab_ri_6, ab_ri_7, ab_ri_8, ab_ri_12, ab_ri_30, ab_ri_60, ab_ri_100, ab_ri_101, ab_ri_127, ab_ri_m1, ab_ri_m2, ab_ri_m3, ab_ri_m4, ab_ri_m5, ab_ri_m11, ab_ri_m13, ab_ri_m14, ab_ri_10, ab_vc, ab_sv_12_100, ab_sv_12_249, ab_sv_12_252, ab_sv_12_249, ab_sv_12_249, ab_sv_12_249, ab_sv_12_249, ab_sv_12_249, ab_pgm_68, hvr, cn, Nat.reduceLeDiff]
            refine mp_writesNumber ⟨z0, by omega⟩ xr ?_
            refine body _ (by omega) (by omega) (fun l5 z5 => ?_)
            rw [ab_aps_app]
            exact g l5 z5
          · have cn : x ≤ 1 := by omega
            rw [if_neg c, List.nil_append] at g
            have t := body z' z0 (by omega) g
            simp only [s183_77, s183_78, s183_79, true_and, and_true, true_implies, Option.toList_some, Option.toList_none, List.nil_append, List.cons_append, List.map_nil, List.map_cons, List.sum_nil, List.sum_cons, Nat.zero_le, ab_nl_n, ab_nl_i, ab_nl_r, ab_nl_0, ab_cat_i, ab_cat_r, ab_cat_l, Nat.reduceAdd, Nat.reduceLeDiff, Nat.add_zero, Nat.zero_add, reduceIte, List.getElem?_cons_succ, List.getElem?_cons_zero, List.length_cons, List.length_nil, List.set_cons_zero, List.set_cons_succ, true_or, or_true, Classical.not_not, not_true_eq_false, not_false_eq_true, ab_01r, ab_01z, ab_01n, false_implies, ab_tt, Nat.reduceLT, Nat.reduceEqDiff, Int.reduceNeg, Int.reduceLT, Int.reduceLE, Int.add_zero, Int.zero_add, List.append_nil, Int.reduceEq, ab_sum1, ab_ri_0, ab_ri_1, ab_ri_2, ab_ri_3, ab_ri_4, ab_ri_5, ab_ri_6, ab_ri_7, ab_ri_8, ab_ri_12, ab_ri_30, ab_ri_60, ab_ri_100, ab_ri_101, ab_ri_127, ab_ri_m1, ab_ri_m2, ab_ri_m3, ab_ri_m4, ab_ri_m5, ab_ri_m11, ab_ri_m13, ab_ri_m14, ab_ri_10, hvr, cn, t]
        have done : ∀ l5 : Option ab_V, ab_nl [l5] = true → ab_G 183 156 [some (vr 68), some (vi v), some (vi i), some (vi x), some (vi b), l5] [] (ab_pgm h σ (ab_aps 200 z (ab_trm (if 0 < z.2 then 1 else 0) x b))) n (0, 0) Q := by
          intro l5 z5
          have ih := ih l5 z5 z5 z5
          simp only [s183_156, s183_159, true_and, and_true, true_implies, Option.toList_some, Option.toList_none, List.nil_append, List.cons_append, List.map_nil, List.map_cons, List.sum_nil, List.sum_cons, Nat.zero_le, ab_nl_n, ab_nl_i, ab_nl_r, ab_nl_0, ab_cat_i, ab_cat_r, ab_cat_l, Nat.reduceAdd, Nat.reduceLeDiff, Nat.add_zero, Nat.zero_add, reduceIte, List.getElem?_cons_succ, List.getElem?_cons_zero, List.length_cons, List.length_nil, List.set_cons_zero, List.set_cons_succ, true_or, or_true, Classical.not_not, not_true_eq_false, not_false_eq_true, ab_01r, ab_01z, ab_01n, false_implies, ab_tt, Nat.reduceLT, Nat.reduceEqDiff, Int.reduceNeg, Int.reduceLT, Int.reduceLE, Int.add_zero, Int.zero_add, List.append_nil, Int.reduceEq, ab_sum1, ab_ri_0, ab_ri_1, ab_ri_2, ab_ri_3, ab_ri_4, ab_ri_5, ab_ri_6, ab_ri_7, ab_ri_8, ab_ri_12, ab_ri_30, ab_ri_60, ab_ri_100, ab_ri_101, ab_ri_127, ab_ri_m1, ab_ri_m2, ab_ri_m3, ab_ri_m4, ab_ri_m5, ab_ri_m11, ab_ri_m13, ab_ri_m14, ab_ri_10, z5, ih]
        have hzr : ab_inR z.2 = True := eq_true (by omega)
        unfold ab_trm at done
        simp only [s183_17, s183_18, s183_19, s183_22, s183_23, s183_24, s183_27, s183_30, s183_31, s183_34, s183_36, s183_37, s183_38, s183_39, s183_40, s183_41, s183_42, s183_43, s183_46, s183_47, s183_50, s183_51, s183_52, s183_53, s183_54, s183_55, s183_57, s183_58, true_and, and_true, true_implies, Option.toList_some, Option.toList_none, List.nil_append, List.cons_append, List.map_nil, List.map_cons, List.sum_nil, List.sum_cons, Nat.zero_le, ab_nl_n, ab_nl_i, ab_nl_r, ab_nl_0, ab_cat_i, ab_cat_r, ab_cat_l, Nat.reduceAdd, Nat.reduceLeDiff, Nat.add_zero, Nat.zero_add, reduceIte, List.getElem?_cons_succ, List.getElem?_cons_zero, List.length_cons, List.length_nil, List.set_cons_zero, List.set_cons_succ, true_or, or_true, Classical.not_not, not_true_eq_false, not_false_eq_true, ab_01r, ab_01z, ab_01n, false_implies, ab_tt, Nat.reduceLT, Nat.reduceEqDiff, Int.reduceNeg, Int.reduceLT, Int.reduceLE, Int.add_zero, Int.zero_add, List.append_nil, Int.reduceEq, ab_sum1, ab_ri_0, ab_ri_1, ab_ri_2, ab_ri_3, ab_ri_4, ab_ri_5, ab_ri_6, ab_ri_7, ab_ri_8, ab_ri_12, ab_ri_30, ab_ri_60, ab_ri_100, ab_ri_101, ab_ri_127, ab_ri_m1, ab_ri_m2, ab_ri_m3, ab_ri_m4, ab_ri_m5, ab_ri_m11, ab_ri_m13, ab_ri_m14, ab_ri_10, ab_fd, ab_fs, ab_ai, ab_as, ab_fit, ab_tyf, tyX12, ab_mg_0, ab_mg_1, ab_mg_2, ab_mg_3, ab_mg_4, ab_mg_5, ab_mg_6, ab_mg_7, ab_mg_8, ab_mg_9, ab_mg_10, ab_mg_11, ab_mg_12, ab_mg_13, ab_mg_14, ab_mg_15, ab_mg_16, ab_mg_17, ab_mg_18, ab_mg_19, ab_mg_20, ab_mg_21, ab_mg_22, ab_mg_23, ab_mg_24, ab_mg_25, ab_mg_26, ab_mg_27, ab_mg_28, ab_mg_29, ab_mg_30, ab_mg_31, ab_mg_32, ab_mg_33, ab_ms_8, ab_ms_10, ab_ms_11, ab_ms_17, ab_ms_21, ab_ms_22, ab_ms_24, ab_ms_25, ab_ms_26, ab_ms_29, ab_ms_32, ab_mol_l, Nat.reduceLT, Nat.reduceLeDiff, ab_vc, ab_sv_12_100, ab_sv_12_249, ab_sv_12_252, ab_sv_12_249, ab_sv_12_249, ab_sv_12_249, ab_sv_12_249, ab_sv_12_249, ab_pgm_68, O74, O75, (S _).1, mp_many ab_pgm_68 (S _) hg5, ci, v0, v4, l0, l7, x0, x1, hxe, hbe, c2, hvr, z3, z4, z5]
        (repeat refine And.intro (by omega) ?_)
        by_cases c3 : 0 < z.2
        · have c3n : ¬ z.2 ≤ 0 := by omega
          rw [if_pos c3, if_pos (show (0 : Int) < 1 by decide)] at done
          simp only [s183_64, s183_65, s183_68, s183_71, s183_72, s183_74, true_and, and_true, true_implies, Option.toList_some, Option.toList_none, List.nil_append, List.cons_append, List.map_nil, List.map_cons, List.sum_nil, List.sum_cons, Nat.zero_le, ab_nl_n, ab_nl_i, ab_nl_r, ab_nl_0, ab_cat_i, ab_cat_r, ab_cat_l, Nat.reduceAdd, Nat.reduceLeDiff, Nat.add_zero, Nat.zero_add, reduceIte, List.getElem?_cons_succ, List.getElem?_cons_zero, List.length_cons, List.length_nil, List.set_cons_zero, List.set_cons_succ, true_or, or_true, Classical.not_not, not_true_eq_false, not_false_eq_true, ab_01r, ab_01z, ab_01n, false_implies, ab_tt, Nat.reduceLT, Nat.reduceEqDiff, Int.reduceNeg, Int.reduceLT, Int.reduceLE, Int.add_zero, Int.zero_add, List.append_nil, Int.reduceEq, ab_sum1, ab_ri_0, ab_ri_1, ab_ri_2, ab_ri_3, ab_ri_4, ab_ri_5, ab_ri_6, ab_ri_7, ab_ri_8, ab_ri_12, ab_ri_30, ab_ri_60, ab_ri_100, ab_ri_101, ab_ri_127, ab_ri_m1, ab_ri_m2, ab_ri_m3, ab_ri_m4, ab_ri_m5, ab_ri_m11, ab_ri_m13, ab_ri_m14, ab_ri_10, ab_fd, ab_fs, ab_ai, ab_as, ab_fit, ab_tyf, tyX12, ab_mg_0, ab_mg_1, ab_mg_2, ab_mg_3, ab_mg_4, ab_mg_5, ab_mg_6, ab_mg_7, ab_mg_8, ab_mg_9, ab_mg_10, ab_mg_11, ab_mg_12, ab_mg_13, ab_mg_14, ab_mg_15, ab_mg_16, ab_mg_17, ab_mg_18, ab_mg_19, ab_mg_20, ab_mg_21, ab_mg_22, ab_mg_23, ab_mg_24, ab_mg_25, ab_mg_26, ab_mg_27, ab_mg_28, ab_mg_29, ab_mg_30, ab_mg_31, ab_mg_32, ab_mg_33, ab_ms_8, ab_ms_10, ab_ms_11, ab_ms_17, ab_ms_21, ab_ms_22, ab_ms_24, ab_ms_25, ab_ms_26, ab_ms_29, ab_ms_32, ab_mol_l, Nat.reduceLT, Nat.reduceLeDiff, ab_vc, ab_sv_12_100, ab_sv_12_249, ab_sv_12_252, ab_sv_12_249, ab_sv_12_249, ab_sv_12_249, ab_sv_12_249, ab_sv_12_249, ab_pgm_68, ab_su_e, hzr, c3n]
          have b1 := bnd z [43] hz94.1 (by show z.2 + 1 ≤ 200; omega)
          have b1 : (ab_aps 200 z [43]).2 = z.2 + 1 := b1
          refine mp_writes ⟨hz94.1, by omega⟩ ?_
          refine number _ (by omega) (by omega) (fun l5 z5 => ?_)
          rw [ab_aps_app]
          exact done l5 z5
        · have c3n : z.2 ≤ 0 := by omega
          rw [if_neg c3, if_neg (show ¬ (0 : Int) < 0 by decide), List.nil_append] at done
          have t := number z hz94.1 (by omega) done
          simp only [s183_64, s183_65, s183_68, true_and, and_true, true_implies, Option.toList_some, Option.toList_none, List.nil_append, List.cons_append, List.map_nil, List.map_cons, List.sum_nil, List.sum_cons, Nat.zero_le, ab_nl_n, ab_nl_i, ab_nl_r, ab_nl_0, ab_cat_i, ab_cat_r, ab_cat_l, Nat.reduceAdd, Nat.reduceLeDiff, Nat.add_zero, Nat.zero_add, reduceIte, List.getElem?_cons_succ, List.getElem?_cons_zero, List.length_cons, List.length_nil, List.set_cons_zero, List.set_cons_succ, true_or, or_true, Classical.not_not, not_true_eq_false, not_false_eq_true, ab_01r, ab_01z, ab_01n, false_implies, ab_tt, Nat.reduceLT, Nat.reduceEqDiff, Int.reduceNeg, Int.reduceLT, Int.reduceLE, Int.add_zero, Int.zero_add, List.append_nil, Int.reduceEq, ab_sum1, ab_ri_0, ab_ri_1, ab_ri_2, ab_ri_3, ab_ri_4, ab_ri_5, ab_ri_6, ab_ri_7, ab_ri_8, ab_ri_12, ab_ri_30, ab_ri_60, ab_ri_100, ab_ri_101, ab_ri_127, ab_ri_m1, ab_ri_m2, ab_ri_m3, ab_ri_m4, ab_ri_m5, ab_ri_m11, ab_ri_m13, ab_ri_m14, ab_ri_10, ab_fd, ab_fs, ab_ai, ab_as, ab_fit, ab_tyf, tyX12, ab_mg_0, ab_mg_1, ab_mg_2, ab_mg_3, ab_mg_4, ab_mg_5, ab_mg_6, ab_mg_7, ab_mg_8, ab_mg_9, ab_mg_10, ab_mg_11, ab_mg_12, ab_mg_13, ab_mg_14, ab_mg_15, ab_mg_16, ab_mg_17, ab_mg_18, ab_mg_19, ab_mg_20, ab_mg_21, ab_mg_22, ab_mg_23, ab_mg_24, ab_mg_25, ab_mg_26, ab_mg_27, ab_mg_28, ab_mg_29, ab_mg_30, ab_mg_31, ab_mg_32, ab_mg_33, ab_ms_8, ab_ms_10, ab_ms_11, ab_ms_17, ab_ms_21, ab_ms_22, ab_ms_24, ab_ms_25, ab_ms_26, ab_ms_29, ab_ms_32, ab_mol_l, Nat.reduceLT, Nat.reduceLeDiff, ab_pgm_68, ab_su_e, hzr, c3n, t]
  · rw [if_neg c1, if_neg c1] at q
    have q := q h (fun _ _ => rfl) J
    simp (disch := omega) only [s183_0, s183_1, s183_4, s183_7, s183_8, true_and, and_true, true_implies, Option.toList_some, Option.toList_none, List.nil_append, List.cons_append, List.map_nil, List.map_cons, List.sum_nil, List.sum_cons, Nat.zero_le, ab_nl_n, ab_nl_i, ab_nl_r, ab_nl_0, ab_cat_i, ab_cat_r, ab_cat_l, Nat.reduceAdd, Nat.reduceLeDiff, Nat.add_zero, Nat.zero_add, reduceIte, List.getElem?_cons_succ, List.getElem?_cons_zero, List.length_cons, List.length_nil, List.set_cons_zero, List.set_cons_succ, true_or, or_true, Classical.not_not, not_true_eq_false, not_false_eq_true, ab_01r, ab_01z, ab_01n, false_implies, ab_tt, Nat.reduceLT, Nat.reduceEqDiff, Int.reduceNeg, Int.reduceLT, Int.reduceLE, Int.add_zero, Int.zero_add, List.append_nil, Int.reduceEq, ab_sum1, ab_ri_0, ab_ri_1, ab_ri_2, ab_ri_3, ab_ri_4, ab_ri_5, ab_ri_6, ab_ri_7, ab_ri_8, ab_ri_12, ab_ri_30, ab_ri_60, ab_ri_100, ab_ri_101, ab_ri_127, ab_ri_m1, ab_ri_m2, ab_ri_m3, ab_ri_m4, ab_ri_m5, ab_ri_m11, ab_ri_m13, ab_ri_m14, ab_ri_10, mp_isVector, ab_01n, ab_01z, c1, q]
theorem xm_paper {i : Int} (J : ab_JM X Y h) (I : ab_XI X) (hi : ab_inR i) (q : Q (some (vi (ab_s_paper X i))) h n) : ab_G 184 0 [some (vr 68), some (vi i)] [] h n (0, 0) Q := by
  have J' := J
  obtain ⟨σ, hmo, hsc, hst, hp, hw⟩ := J'
  obtain ⟨⟨la, p1, q1⟩, ⟨lev, p2, q2⟩, ⟨att, p3, q3⟩, ⟨tp, p4, q4⟩, ⟨ppr, p5, q5⟩, ⟨rwh, p6, q6⟩, ⟨rby, p7, q7⟩, ⟨sz, p8, q8⟩, ⟨cl, p9, q9⟩, ⟨im, p10, q10⟩⟩ := id hp
  obtain ⟨⟨T, w1⟩, ⟨th, w2⟩, ⟨bw, w3⟩, ⟨M, w4, w4'⟩, ⟨pva, w5⟩, ⟨tby, w6⟩, ⟨tfr, w7⟩, ⟨mds, w8⟩, ⟨smm, w9⟩⟩ := id hw
  have hl := ab_lok_cg q1 I.1.1
  have e10 := hsc.2.1
  have I2 := I.2.2.2.1
  unfold ab_s_paper at q
  by_cases c1 : 0 ≤ i ∧ i ≤ X 5 2 - 1
  · rw [if_pos c1, ← q5 i c1.1 (by omega)] at q
    have i0 := c1.1
    have i200 : i < ((200 : Nat) : Int) := by omega
    simp (disch := omega) only [s184_0, s184_1, s184_2, s184_3, s184_6, s184_7, s184_8, s184_11, s184_14, s184_15, s184_18, s184_19, s184_20, s184_23, s184_24, true_and, and_true, true_implies, Option.toList_some, Option.toList_none, List.nil_append, List.cons_append, List.map_nil, List.map_cons, List.sum_nil, List.sum_cons, Nat.zero_le, ab_nl_n, ab_nl_i, ab_nl_r, ab_nl_0, ab_cat_i, ab_cat_r, ab_cat_l, Nat.reduceAdd, Nat.reduceLeDiff, Nat.add_zero, Nat.zero_add, reduceIte, List.getElem?_cons_succ, List.getElem?_cons_zero, List.length_cons, List.length_nil, List.set_cons_zero, List.set_cons_succ, true_or, or_true, Classical.not_not, not_true_eq_false, not_false_eq_true, ab_01r, ab_01z, ab_01n, false_implies, ab_tt, Nat.reduceLT, Nat.reduceEqDiff, Int.reduceNeg, Int.reduceLT, Int.reduceLE, Int.add_zero, Int.zero_add, List.append_nil, Int.reduceEq, ab_sum1, ab_ri_0, ab_ri_1, ab_ri_2, ab_ri_3, ab_ri_4, ab_ri_5, ab_ri_6, ab_ri_7, ab_ri_8, ab_ri_12, ab_ri_30, ab_ri_60, ab_ri_100, ab_ri_101, ab_ri_127, ab_ri_m1, ab_ri_m2, ab_ri_m3, ab_ri_m4, ab_ri_m5, ab_ri_m11, ab_ri_m13, ab_ri_m14, ab_ri_10, ab_fd, ab_fs, ab_ai, ab_as, ab_fit, ab_tyf, tyX12, ab_mg_0, ab_mg_1, ab_mg_2, ab_mg_3, ab_mg_4, ab_mg_5, ab_mg_6, ab_mg_7, ab_mg_8, ab_mg_9, ab_mg_10, ab_mg_11, ab_mg_12, ab_mg_13, ab_mg_14, ab_mg_15, ab_mg_16, ab_mg_17, ab_mg_18, ab_mg_19, ab_mg_20, ab_mg_21, ab_mg_22, ab_mg_23, ab_mg_24, ab_mg_25, ab_mg_26, ab_mg_27, ab_mg_28, ab_mg_29, ab_mg_30, ab_mg_31, ab_mg_32, ab_mg_33, ab_ms_8, ab_ms_10, ab_ms_11, ab_ms_17, ab_ms_21, ab_ms_22, ab_ms_24, ab_ms_25, ab_ms_26, ab_ms_29, ab_ms_32, ab_mol_l, Nat.reduceLT, Nat.reduceLeDiff, mp_in, ab_01n, ab_01z, hmo, e10, p5, c1, i0, i200, q]
  · rw [if_neg c1] at q
    simp (disch := omega) only [s184_0, s184_1, s184_2, s184_3, s184_6, s184_7, s184_8, s184_11, s184_14, s184_15, s184_18, s184_19, s184_20, s184_23, s184_24, true_and, and_true, true_implies, Option.toList_some, Option.toList_none, List.nil_append, List.cons_append, List.map_nil, List.map_cons, List.sum_nil, List.sum_cons, Nat.zero_le, ab_nl_n, ab_nl_i, ab_nl_r, ab_nl_0, ab_cat_i, ab_cat_r, ab_cat_l, Nat.reduceAdd, Nat.reduceLeDiff, Nat.add_zero, Nat.zero_add, reduceIte, List.getElem?_cons_succ, List.getElem?_cons_zero, List.length_cons, List.length_nil, List.set_cons_zero, List.set_cons_succ, true_or, or_true, Classical.not_not, not_true_eq_false, not_false_eq_true, ab_01r, ab_01z, ab_01n, false_implies, ab_tt, Nat.reduceLT, Nat.reduceEqDiff, Int.reduceNeg, Int.reduceLT, Int.reduceLE, Int.add_zero, Int.zero_add, List.append_nil, Int.reduceEq, ab_sum1, ab_ri_0, ab_ri_1, ab_ri_2, ab_ri_3, ab_ri_4, ab_ri_5, ab_ri_6, ab_ri_7, ab_ri_8, ab_ri_12, ab_ri_30, ab_ri_60, ab_ri_100, ab_ri_101, ab_ri_127, ab_ri_m1, ab_ri_m2, ab_ri_m3, ab_ri_m4, ab_ri_m5, ab_ri_m11, ab_ri_m13, ab_ri_m14, ab_ri_10, ab_fd, ab_fs, ab_ai, ab_as, ab_fit, ab_tyf, tyX12, ab_mg_0, ab_mg_1, ab_mg_2, ab_mg_3, ab_mg_4, ab_mg_5, ab_mg_6, ab_mg_7, ab_mg_8, ab_mg_9, ab_mg_10, ab_mg_11, ab_mg_12, ab_mg_13, ab_mg_14, ab_mg_15, ab_mg_16, ab_mg_17, ab_mg_18, ab_mg_19, ab_mg_20, ab_mg_21, ab_mg_22, ab_mg_23, ab_mg_24, ab_mg_25, ab_mg_26, ab_mg_27, ab_mg_28, ab_mg_29, ab_mg_30, ab_mg_31, ab_mg_32, ab_mg_33, ab_ms_8, ab_ms_10, ab_ms_11, ab_ms_17, ab_ms_21, ab_ms_22, ab_ms_24, ab_ms_25, ab_ms_26, ab_ms_29, ab_ms_32, ab_mol_l, Nat.reduceLT, Nat.reduceLeDiff, mp_in, ab_01n, ab_01z, hmo, e10, c1, q]
end MI
