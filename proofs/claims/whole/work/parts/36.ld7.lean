/-! ===== Ladder: move, productOf ===== -/
def ab_mvs (T f : Int → Int) (s c : Int) : Nat → Int
  | 0 => 0
  | k + 1 => ab_mvs T f s c k + f k * T ((s + k) * 19 + c)
/-- what a mode makes of coordinates f of a level, at another level -/
def ab_mv (T f : Int → Int) (hg to : Int) : Int → Int := fun j => if 0 ≤ j ∧ j < ab_wd to then ab_mvs T f (ab_START hg) (ab_START to + j) (ab_wd hg).toNat % 101 else 0
theorem ab_mv_r {T f : Int → Int} {hg to j : Int} : 0 ≤ ab_mv T f hg to j ∧ ab_mv T f hg to j ≤ 100 := by
  unfold ab_mv
  split <;> omega
theorem ab_mvs_cg {T U f g : Int → Int} {s c : Int} : ∀ k : Nat, (∀ i : Int, 0 ≤ i → i < k → f i = g i ∧ T ((s + i) * 19 + c) = U ((s + i) * 19 + c)) → ab_mvs T f s c k = ab_mvs U g s c k
  | 0, _ => rfl
  | k + 1, h => by
    have ih := ab_mvs_cg k (fun i h0 h1 => h i h0 (by omega))
    have e := h k (by omega) (by omega)
    unfold ab_mvs
    rw [ih, e.1, e.2]
theorem ab_mvs_r {T f : Int → Int} {s c : Int} : ∀ k : Nat, (∀ i : Int, 0 ≤ i → i < k → (0 ≤ f i ∧ f i ≤ 100) ∧ 0 ≤ T ((s + i) * 19 + c) ∧ T ((s + i) * 19 + c) ≤ 100) → 0 ≤ ab_mvs T f s c k ∧ ab_mvs T f s c k ≤ 10000 * k
  | 0, _ => by unfold ab_mvs; omega
  | k + 1, h => by
    have ih := ab_mvs_r k (fun i h0 h1 => h i h0 (by omega))
    have ⟨m1, m2⟩ := h k (by omega) (by omega)
    have m3 := Int.mul_nonneg m1.1 m2.1
    have m4 : f k * T ((s + k) * 19 + c) ≤ 100 * 100 := Int.mul_le_mul m1.2 m2.2 m2.1 (by omega)
    unfold ab_mvs
    omega
section LD7
variable {h : ab_H} {n : Nat} {Q : ab_Q} {u : Int} {L : Int → Int}
abbrev ab_out (a : Nat) : Prop := 6 ≤ a ∧ (a < 33 ∨ 46 < a)
theorem sp_move {a b : Nat} {m hg : Int} {f : Int → Int} (hs : ab_stat h) (hl : ab_lad h L u) (ha : ab_out a) (hb : ab_out b) (hab : a ≠ b) (h1 : h a = some (ab_vec b hg)) (h2 : h b = some (ab_ia 7 f)) (hg0 : 0 ≤ hg ∧ hg ≤ u) (hto : 0 ≤ hg - m ∧ hg - m ≤ u) (hu : u ≤ 5) (hf : ∀ i, 0 ≤ i → i < 7 → 0 ≤ f i ∧ f i ≤ 100)
    (q : ∀ h', (∀ x, x ≠ a → x ≠ b → x ≠ 43 → h' x = h x) → h' a = some (ab_vec b (hg - m)) → h' b = some (ab_ia 7 (ab_fi (ab_mv (ab_AT L) f hg (hg - m)) f 0 7)) → ab_lad h' L u → Q none h' n) : ab_G 26 0 [some (vr 33), some (vr a), some (vi m), none, none, none, none, none] [] h n (0, 0) Q := by
  obtain ⟨B, A, F, Mv, top, ⟨k1, k2, k3, k4, k5, k6, k7, k8⟩, hgr, hbt, hrest⟩ := hl
  have hA' : ∀ j, 0 ≤ j → j < 361 → ab_inR (A j) := fun j k0 k1 => by have := k7 j k0 k1; omega
  have hwh := ab_wd_eq hg0.1 (by omega)
  have hwt := ab_wd_eq hto.1 (by omega)
  have p7 : hg < ((7 : Nat) : Int) := by omega
  have p8 : hg + 1 < ((7 : Nat) : Int) := by omega
  have p9 : 0 ≤ hg + 1 := by omega
  have ha6 := ha.1
  have hb6 := hb.1
  simp only [s26_0, s26_1, s26_4, s26_5, s26_6, s26_7, s26_8, true_and, and_true, true_implies, Option.toList_some, Option.toList_none, List.nil_append, List.cons_append, List.map_nil, List.map_cons, List.sum_nil, List.sum_cons, Nat.zero_le, ab_nl_n, ab_nl_i, ab_nl_r, ab_nl_0, ab_cat_i, ab_cat_r, ab_cat_l, Nat.reduceAdd, Nat.reduceLeDiff, Nat.add_zero, Nat.zero_add, reduceIte, List.getElem?_cons_succ, List.getElem?_cons_zero, List.length_cons, List.length_nil, List.set_cons_zero, List.set_cons_succ, true_or, or_true, Classical.not_not, not_true_eq_false, not_false_eq_true, ab_01r, ab_01z, ab_01n, false_implies, ab_tt, Nat.reduceLT, Nat.reduceEqDiff, Int.reduceNeg, Int.reduceLT, Int.reduceLE, Int.add_zero, Int.zero_add, List.append_nil, Int.reduceEq, ab_sum1, ab_ri_0, ab_ri_1, ab_ri_2, ab_ri_3, ab_ri_4, ab_ri_5, ab_ri_6, ab_ri_7, ab_ri_8, ab_ri_12, ab_ri_30, ab_ri_60, ab_ri_100, ab_ri_101, ab_ri_127, ab_ri_m1, ab_ri_m2, ab_ri_m3, ab_ri_m4, ab_ri_m5, ab_ri_m11, ab_ri_m13, ab_ri_m14, ab_ri_10, ab_fd, h1, ha6]
  generalize hte : hg - m = to at hto hwt q
  have t7 : to < ((7 : Nat) : Int) := by omega
  have t8 : to + 1 < ((7 : Nat) : Int) := by omega
  have t9 : 0 ≤ to + 1 := by omega
  simp only [s26_10, s26_13, s26_15, s26_16, true_and, and_true, true_implies, Option.toList_some, Option.toList_none, List.nil_append, List.cons_append, List.map_nil, List.map_cons, List.sum_nil, List.sum_cons, Nat.zero_le, ab_nl_n, ab_nl_i, ab_nl_r, ab_nl_0, ab_cat_i, ab_cat_r, ab_cat_l, Nat.reduceAdd, Nat.reduceLeDiff, Nat.add_zero, Nat.zero_add, reduceIte, List.getElem?_cons_succ, List.getElem?_cons_zero, List.length_cons, List.length_nil, List.set_cons_zero, List.set_cons_succ, true_or, or_true, Classical.not_not, not_true_eq_false, not_false_eq_true, ab_01r, ab_01z, ab_01n, false_implies, ab_tt, Nat.reduceLT, Nat.reduceEqDiff, Int.reduceNeg, Int.reduceLT, Int.reduceLE, Int.add_zero, Int.zero_add, List.append_nil, Int.reduceEq, ab_sum1, ab_ri_0, ab_ri_1, ab_ri_2, ab_ri_3, ab_ri_4, ab_ri_5, ab_ri_6, ab_ri_7, ab_ri_8, ab_ri_12, ab_ri_30, ab_ri_60, ab_ri_100, ab_ri_101, ab_ri_127, ab_ri_m1, ab_ri_m2, ab_ri_m3, ab_ri_m4, ab_ri_m5, ab_ri_m11, ab_ri_m13, ab_ri_m14, ab_ri_10, ab_ai, hs.1, hto.1, t7]
  have Ha : ∀ c, ab_hs h 43 c a = some (ab_vec b hg) := fun c => (ab_hs_ne (by omega)).trans h1
  have Hb : ∀ c, ab_hs h 43 c b = some (ab_ia 7 f) := fun c => (ab_hs_ne (by omega)).trans h2
  have H33 : ∀ c, ab_hs h 43 c 33 = some (ab_ld 34 40 41 42 43 44 top) := fun c => (ab_hs_ne (by decide)).trans k1
  have H41 : ∀ c, ab_hs h 43 c 41 = some (ab_ia 361 A) := fun c => (ab_hs_ne (by decide)).trans k4
  have HS : ∀ c, ab_stat (ab_hs h 43 c) := fun c => ab_stat_hs (by decide) hs
  have key := ab_dn (P := fun j => ∀ l6 l7 : Option ab_V, ab_nl [l6, l7] = true → ab_nl [l7] = true → ab_G 26 18 [some (vr 33), some (vr a), some (vi m), some (vi hg), some (vi to), some (vi (ab_START to + j)), l6, l7] [] (ab_hs h 43 (ab_ia 7 (ab_fi (ab_mv (ab_AT L) f hg to) Mv 0 j))) n (0, 0) Q) (a := 0) (e := ab_wd to) (by omega) ?_ ?_
  · have := key none none rfl rfl
    rw [Int.add_zero, ab_fi_0, ab_hs_id k6] at this
    exact this
  · intro l6 l7 z6 z7
    rw [s26_18]
    simp only [s26_20, s26_23, s26_25, s26_26, s26_27, s26_28, s26_111, s26_112, s26_114, true_and, and_true, true_implies, Option.toList_some, Option.toList_none, List.nil_append, List.cons_append, List.map_nil, List.map_cons, List.sum_nil, List.sum_cons, Nat.zero_le, ab_nl_n, ab_nl_i, ab_nl_r, ab_nl_0, ab_cat_i, ab_cat_r, ab_cat_l, Nat.reduceAdd, Nat.reduceLeDiff, Nat.add_zero, Nat.zero_add, reduceIte, List.getElem?_cons_succ, List.getElem?_cons_zero, List.length_cons, List.length_nil, List.set_cons_zero, List.set_cons_succ, true_or, or_true, Classical.not_not, not_true_eq_false, not_false_eq_true, ab_01r, ab_01z, ab_01n, false_implies, ab_tt, Nat.reduceLT, Nat.reduceEqDiff, Int.reduceNeg, Int.reduceLT, Int.reduceLE, Int.add_zero, Int.zero_add, List.append_nil, Int.reduceEq, ab_sum1, ab_ri_0, ab_ri_1, ab_ri_2, ab_ri_3, ab_ri_4, ab_ri_5, ab_ri_6, ab_ri_7, ab_ri_8, ab_ri_12, ab_ri_30, ab_ri_60, ab_ri_100, ab_ri_101, ab_ri_127, ab_ri_m1, ab_ri_m2, ab_ri_m3, ab_ri_m4, ab_ri_m5, ab_ri_m11, ab_ri_m13, ab_ri_m14, ab_ri_10, ab_ai, ab_vc, ab_sv_3_96, ab_sv_3_117, (HS _).1, Ha, ha6, t8, t9, hwt.1, Int.le_refl, Int.lt_irrefl]
    (repeat refine And.intro (by omega) ?_)
    refine sp_becomeZero ha6 hb6 hab (Ha _) (Hb _) ?_
    have e1 : ab_START to + ab_wd to - ab_START to = ab_wd to := by omega
    have S2 : ∀ c d e, ab_stat (ab_hs (ab_hs (ab_hs h 43 c) a d) b e) := fun c d e => ab_stat_hs hb6 (ab_stat_hs ha6 (HS c))
    have G33 : ∀ c d e, ab_hs (ab_hs (ab_hs h 43 c) a d) b e 33 = some (ab_ld 34 40 41 42 43 44 top) := fun c d e => (ab_hs_ne (by omega)).trans ((ab_hs_ne (by omega)).trans (H33 c))
    have Ga : ∀ c d e, ab_hs (ab_hs (ab_hs h 43 c) a d) b e a = some d := fun c d e => (ab_hs_ne hab).trans ab_hs_self
    have G43 : ∀ c d e, ab_hs (ab_hs (ab_hs h 43 c) a d) b e 43 = some c := fun c d e => (ab_hs_ne (by omega)).trans ((ab_hs_ne (by omega)).trans ab_hs_self)
    simp only [s26_117, s26_118, s26_121, s26_122, s26_123, s26_126, s26_127, s26_130, s26_132, s26_133, s26_134, s26_135, s26_138, s26_140, s26_141, true_and, and_true, true_implies, Option.toList_some, Option.toList_none, List.nil_append, List.cons_append, List.map_nil, List.map_cons, List.sum_nil, List.sum_cons, Nat.zero_le, ab_nl_n, ab_nl_i, ab_nl_r, ab_nl_0, ab_cat_i, ab_cat_r, ab_cat_l, Nat.reduceAdd, Nat.reduceLeDiff, Nat.add_zero, Nat.zero_add, reduceIte, List.getElem?_cons_succ, List.getElem?_cons_zero, List.length_cons, List.length_nil, List.set_cons_zero, List.set_cons_succ, true_or, or_true, Classical.not_not, not_true_eq_false, not_false_eq_true, ab_01r, ab_01z, ab_01n, false_implies, ab_tt, Nat.reduceLT, Nat.reduceEqDiff, Int.reduceNeg, Int.reduceLT, Int.reduceLE, Int.add_zero, Int.zero_add, List.append_nil, Int.reduceEq, ab_sum1, ab_ri_0, ab_ri_1, ab_ri_2, ab_ri_3, ab_ri_4, ab_ri_5, ab_ri_6, ab_ri_7, ab_ri_8, ab_ri_12, ab_ri_30, ab_ri_60, ab_ri_100, ab_ri_101, ab_ri_127, ab_ri_m1, ab_ri_m2, ab_ri_m3, ab_ri_m4, ab_ri_m5, ab_ri_m11, ab_ri_m13, ab_ri_m14, ab_ri_10, ab_fd, ab_ai, (S2 _ _ _).1, G33, Ga, ha6, t7, t8, t9, hto.1, hwt.1, e1, Nat.reduceLeDiff]
    refine s26_142 ⟨by decide, hb6, by decide, ?_⟩
    have w0 : 0 ≤ ab_wd to := by omega
    have w7 : (0 : Int) + ab_wd to ≤ ((7 : Nat) : Int) := by omega
    have w7' : ab_wd to ≤ ((7 : Nat) : Int) := by omega
    simp only [ab_cp, G43, ab_hs_self, ab_hs_hs, true_and, and_true, true_implies, Option.toList_some, Option.toList_none, List.nil_append, List.cons_append, List.map_nil, List.map_cons, List.sum_nil, List.sum_cons, Nat.zero_le, ab_nl_n, ab_nl_i, ab_nl_r, ab_nl_0, ab_cat_i, ab_cat_r, ab_cat_l, Nat.reduceAdd, Nat.reduceLeDiff, Nat.add_zero, Nat.zero_add, reduceIte, List.getElem?_cons_succ, List.getElem?_cons_zero, List.length_cons, List.length_nil, List.set_cons_zero, List.set_cons_succ, true_or, or_true, Classical.not_not, not_true_eq_false, not_false_eq_true, ab_01r, ab_01z, ab_01n, false_implies, ab_tt, Nat.reduceLT, Nat.reduceEqDiff, Int.reduceNeg, Int.reduceLT, Int.reduceLE, Int.add_zero, Int.zero_add, List.append_nil, Int.reduceEq, ab_sum1, ab_ri_0, ab_ri_1, ab_ri_2, ab_ri_3, ab_ri_4, ab_ri_5, ab_ri_6, ab_ri_7, ab_ri_8, ab_ri_12, ab_ri_30, ab_ri_60, ab_ri_100, ab_ri_101, ab_ri_127, ab_ri_m1, ab_ri_m2, ab_ri_m3, ab_ri_m4, ab_ri_m5, ab_ri_m11, ab_ri_m13, ab_ri_m14, ab_ri_10, w0, w7, w7', ab_cpy0, s26_145]
    have ef : ab_fi (ab_fi (ab_mv (ab_AT L) f hg to) Mv 0 (ab_wd to)) (ab_fi (fun _ => 0) f 0 7) 0 (ab_wd to) = ab_fi (ab_mv (ab_AT L) f hg to) f 0 7 := by
      refine ab_fi_ext (fun j j0 j1 => ?_) (fun j hj => ?_)
      · by_cases c : j < ab_wd to
        · rw [ab_fi_lo ⟨j0, c⟩, ab_fi_lo ⟨j0, c⟩]
        · rw [ab_fi_no (by omega), ab_fi_lo ⟨j0, j1⟩]
          unfold ab_mv
          rw [if_neg (by omega)]
      · rw [ab_fi_no (by omega), ab_fi_no hj]
    refine q _ (fun x x1 x2 x3 => (ab_hs_ne x2).trans ((ab_hs_ne x1).trans (ab_hs_ne x3))) ((ab_hs_ne hab).trans ab_hs_self) (by rw [ab_hs_self, ef]) ?_
    obtain ⟨M, g, R, C, Fo, P, g1, g2, g3, g4⟩ := hgr
    have fr : ∀ x, 33 ≤ x → x ≤ 46 → x ≠ 43 → ∀ c d e, ab_hs (ab_hs (ab_hs h 43 c) a d) b e x = h x := fun x x1 x2 x3 c d e => (ab_hs_ne (by omega)).trans ((ab_hs_ne (by omega)).trans (ab_hs_ne x3))
    obtain ⟨d1, d2, d3, d4, d5, d6⟩ := k2
    refine ⟨B, A, F, _, top, ⟨G33 _ _ _, ⟨(fr 34 (by decide) (by decide) (by decide) _ _ _).trans d1, (fr 35 (by decide) (by decide) (by decide) _ _ _).trans d2, (fr 36 (by decide) (by decide) (by decide) _ _ _).trans d3, (fr 37 (by decide) (by decide) (by decide) _ _ _).trans d4, (fr 38 (by decide) (by decide) (by decide) _ _ _).trans d5, (fr 39 (by decide) (by decide) (by decide) _ _ _).trans d6⟩, (fr 40 (by decide) (by decide) (by decide) _ _ _).trans k3, (fr 41 (by decide) (by decide) (by decide) _ _ _).trans k4, (fr 42 (by decide) (by decide) (by decide) _ _ _).trans k5, G43 _ _ _, k7, k8⟩, ⟨M, g, R, C, Fo, P, (fr 44 (by decide) (by decide) (by decide) _ _ _).trans g1, (fr 45 (by decide) (by decide) (by decide) _ _ _).trans g2, (fr 46 (by decide) (by decide) (by decide) _ _ _).trans g3, g4⟩, hbt, hrest⟩
  · intro j j0 j9 jh l6 l7 z6 z7
    have nj : ¬ ab_START to + ab_wd to ≤ ab_START to + j := by omega
    have bj : ab_bb (ab_START to + j) := ⟨by omega, by omega⟩
    have lj := ab_lv_at hto.1 (by omega) j0 j9
    have p0 := hg0.1
    rw [s26_18]
    simp only [s26_20, s26_23, s26_25, s26_26, s26_27, s26_28, s26_31, s26_32, s26_34, s26_37, s26_38, s26_39, true_and, and_true, true_implies, Option.toList_some, Option.toList_none, List.nil_append, List.cons_append, List.map_nil, List.map_cons, List.sum_nil, List.sum_cons, Nat.zero_le, ab_nl_n, ab_nl_i, ab_nl_r, ab_nl_0, ab_cat_i, ab_cat_r, ab_cat_l, Nat.reduceAdd, Nat.reduceLeDiff, Nat.add_zero, Nat.zero_add, reduceIte, List.getElem?_cons_succ, List.getElem?_cons_zero, List.length_cons, List.length_nil, List.set_cons_zero, List.set_cons_succ, true_or, or_true, Classical.not_not, not_true_eq_false, not_false_eq_true, ab_01r, ab_01z, ab_01n, false_implies, ab_tt, Nat.reduceLT, Nat.reduceEqDiff, Int.reduceNeg, Int.reduceLT, Int.reduceLE, Int.add_zero, Int.zero_add, List.append_nil, Int.reduceEq, ab_sum1, ab_ri_0, ab_ri_1, ab_ri_2, ab_ri_3, ab_ri_4, ab_ri_5, ab_ri_6, ab_ri_7, ab_ri_8, ab_ri_12, ab_ri_30, ab_ri_60, ab_ri_100, ab_ri_101, ab_ri_127, ab_ri_m1, ab_ri_m2, ab_ri_m3, ab_ri_m4, ab_ri_m5, ab_ri_m11, ab_ri_m13, ab_ri_m14, ab_ri_10, ab_ai, (HS _).1, t8, t9, hwt.1, nj, p0, p7, z6, z7]
    (repeat refine And.intro (by omega) ?_)
    refine ab_lp 0 (ab_wd hg) (fun i => [some (vr 33), some (vr a), some (vi m), some (vi hg), some (vi to), some (vi (ab_START to + j)), some (vi (ab_mvs A f (ab_START hg) (ab_START to + j) i.toNat)), some (vi (ab_START hg + i))]) (fun _ => ab_hs h 43 (ab_ia 7 (ab_fi (ab_mv (ab_AT L) f hg to) Mv 0 j))) (by omega) (by rw [Int.add_zero]; rfl) rfl ?_ ?_
    · have hbd := ab_mvs_r (T := A) (f := f) (s := ab_START hg) (c := ab_START to + j) (ab_wd hg).toNat (fun i i0 i1 => ⟨hf i i0 (by omega), k7 _ (by omega) (by omega)⟩)
      have ev : ab_mvs A f (ab_START hg) (ab_START to + j) (ab_wd hg).toNat % 101 = ab_mv (ab_AT L) f hg to j := by
        unfold ab_mv
        rw [if_pos ⟨j0, j9⟩, ab_mvs_cg (U := ab_AT L) (g := f)]
        intro i i0 i1
        have li := ab_lv_at hg0.1 (by omega) i0 (by omega)
        exact ⟨rfl, hbt.1 _ _ ⟨by omega, by omega⟩ bj (by omega) (by omega)⟩
      have j7 : j < ((7 : Nat) : Int) := by omega
      have es : ab_START to + j - ab_START to = j := by omega
      have jh := jh (some (vi (ab_mvs A f (ab_START hg) (ab_START to + j) (ab_wd hg).toNat))) (some (vi (ab_START hg + ab_wd hg))) rfl rfl
      rw [← ab_fi_s j0 ev, show ab_START to + (j + 1) = ab_START to + j + 1 by omega] at jh
      rw [s26_41]
      simp only [s26_43, s26_46, s26_47, s26_48, s26_49, s26_50, s26_86, s26_87, s26_90, s26_92, s26_95, s26_97, s26_98, s26_99, s26_101, s26_103, s26_104, s26_105, s26_108, true_and, and_true, true_implies, Option.toList_some, Option.toList_none, List.nil_append, List.cons_append, List.map_nil, List.map_cons, List.sum_nil, List.sum_cons, Nat.zero_le, ab_nl_n, ab_nl_i, ab_nl_r, ab_nl_0, ab_cat_i, ab_cat_r, ab_cat_l, Nat.reduceAdd, Nat.reduceLeDiff, Nat.add_zero, Nat.zero_add, reduceIte, List.getElem?_cons_succ, List.getElem?_cons_zero, List.length_cons, List.length_nil, List.set_cons_zero, List.set_cons_succ, true_or, or_true, Classical.not_not, not_true_eq_false, not_false_eq_true, ab_01r, ab_01z, ab_01n, false_implies, ab_tt, Nat.reduceLT, Nat.reduceEqDiff, Int.reduceNeg, Int.reduceLT, Int.reduceLE, Int.add_zero, Int.zero_add, List.append_nil, Int.reduceEq, ab_sum1, ab_ri_0, ab_ri_1, ab_ri_2, ab_ri_3, ab_ri_4, ab_ri_5, ab_ri_6, ab_ri_7, ab_ri_8, ab_ri_12, ab_ri_30, ab_ri_60, ab_ri_100, ab_ri_101, ab_ri_127, ab_ri_m1, ab_ri_m2, ab_ri_m3, ab_ri_m4, ab_ri_m5, ab_ri_m11, ab_ri_m13, ab_ri_m14, ab_ri_10, ab_fd, ab_ai, ab_as, (HS _).1, H33, ab_hs_self, ab_hs_hs, p8, p9, t7, hto.1, hwh.1, Int.le_refl, Int.lt_irrefl, es, j0, j7, ab_md hbd.1, jh] <;> omega
    · intro i i0 i9 ih
      have ei : (i + 1).toNat = i.toNat + 1 := by omega
      have ec : ((i.toNat : Nat) : Int) = i := Int.toNat_of_nonneg i0
      have ni : ¬ ab_START hg + ab_wd hg ≤ ab_START hg + i := by omega
      have i7 : i < ((7 : Nat) : Int) := by omega
      have es : ab_START hg + i - ab_START hg = i := by omega
      rw [ei, ab_mvs, ec, show ab_START hg + (i + 1) = ab_START hg + i + 1 by omega] at ih
      rw [s26_41]
      simp only [s26_43, s26_46, s26_47, s26_48, s26_49, s26_50, s26_53, s26_55, s26_56, s26_59, s26_61, s26_64, s26_65, s26_66, s26_67, s26_68, s26_69, s26_71, s26_73, s26_76, s26_77, s26_78, s26_80, s26_83, true_and, and_true, true_implies, Option.toList_some, Option.toList_none, List.nil_append, List.cons_append, List.map_nil, List.map_cons, List.sum_nil, List.sum_cons, Nat.zero_le, ab_nl_n, ab_nl_i, ab_nl_r, ab_nl_0, ab_cat_i, ab_cat_r, ab_cat_l, Nat.reduceAdd, Nat.reduceLeDiff, Nat.add_zero, Nat.zero_add, reduceIte, List.getElem?_cons_succ, List.getElem?_cons_zero, List.length_cons, List.length_nil, List.set_cons_zero, List.set_cons_succ, true_or, or_true, Classical.not_not, not_true_eq_false, not_false_eq_true, ab_01r, ab_01z, ab_01n, false_implies, ab_tt, Nat.reduceLT, Nat.reduceEqDiff, Int.reduceNeg, Int.reduceLT, Int.reduceLE, Int.add_zero, Int.zero_add, List.append_nil, Int.reduceEq, ab_sum1, ab_ri_0, ab_ri_1, ab_ri_2, ab_ri_3, ab_ri_4, ab_ri_5, ab_ri_6, ab_ri_7, ab_ri_8, ab_ri_12, ab_ri_30, ab_ri_60, ab_ri_100, ab_ri_101, ab_ri_127, ab_ri_m1, ab_ri_m2, ab_ri_m3, ab_ri_m4, ab_ri_m5, ab_ri_m11, ab_ri_m13, ab_ri_m14, ab_ri_10, ab_fd, ab_ai, ab_vc, ab_sv_3_96, ab_sv_3_117, (HS _).1, H33, Ha, Hb, ha6, hb6, p0, p7, p8, p9, hwh.1, ni, es, i0, i7, sp_made (by decide) (by decide) (H33 _) (H41 _) (show 0 ≤ ab_START hg + i ∧ ab_START hg + i < 19 by omega) bj hA', ih] <;> omega
def ab_pri (F f1 f2 : Int → Int) (s i : Int) : Nat → Int
  | 0 => 0
  | k + 1 => ab_pri F f1 f2 s i k + f1 i * f2 k % 101 * F ((s + i) * 19 + (s + k))
def ab_pro (F f1 f2 : Int → Int) (s : Int) (w : Nat) : Nat → Int
  | 0 => 0
  | i + 1 => ab_pro F f1 f2 s w i + ab_pri F f1 f2 s i w
theorem ab_pri_r {F f1 f2 : Int → Int} {s i : Int} : ∀ k : Nat, (∀ j : Int, 0 ≤ j → j < k → 0 ≤ F ((s + i) * 19 + (s + j)) ∧ F ((s + i) * 19 + (s + j)) ≤ 100) → 0 ≤ ab_pri F f1 f2 s i k ∧ ab_pri F f1 f2 s i k ≤ 10000 * k
  | 0, _ => by unfold ab_pri; omega
  | k + 1, h => by
    have ih := ab_pri_r (f1 := f1) (f2 := f2) k (fun i h0 h1 => h i h0 (by omega))
    have m2 := h k (by omega) (by omega)
    have m1 : 0 ≤ f1 i * f2 k % 101 ∧ f1 i * f2 k % 101 ≤ 100 := by omega
    have m3 := Int.mul_nonneg m1.1 m2.1
    have m4 : f1 i * f2 k % 101 * F ((s + i) * 19 + (s + k)) ≤ 100 * 100 := Int.mul_le_mul m1.2 m2.2 m2.1 (by omega)
    unfold ab_pri
    omega
theorem ab_pro_r {F f1 f2 : Int → Int} {s : Int} {w : Nat} (hw : w ≤ 7) : ∀ k : Nat, (∀ i j : Int, 0 ≤ i → i < k → 0 ≤ j → j < w → 0 ≤ F ((s + i) * 19 + (s + j)) ∧ F ((s + i) * 19 + (s + j)) ≤ 100) → 0 ≤ ab_pro F f1 f2 s w k ∧ ab_pro F f1 f2 s w k ≤ 70000 * k
  | 0, _ => by unfold ab_pro; omega
  | k + 1, h => by
    have ih := ab_pro_r (f1 := f1) (f2 := f2) hw k (fun i j h0 h1 => h i j h0 (by omega))
    have := ab_pri_r (F := F) (f1 := f1) (f2 := f2) (s := s) (i := k) w (fun j j0 j1 => h k j (by omega) (by omega) j0 j1)
    unfold ab_pro
    omega
theorem ab_pri_cg {F G f1 f2 : Int → Int} {s i : Int} : ∀ k : Nat, (∀ j : Int, 0 ≤ j → j < k → F ((s + i) * 19 + (s + j)) = G ((s + i) * 19 + (s + j))) → ab_pri F f1 f2 s i k = ab_pri G f1 f2 s i k
  | 0, _ => rfl
  | k + 1, h => by
    have ih := ab_pri_cg (f1 := f1) (f2 := f2) k (fun i h0 h1 => h i h0 (by omega))
    have e := h k (by omega) (by omega)
    unfold ab_pri
    rw [ih, e]
theorem ab_pro_cg {F G f1 f2 : Int → Int} {s : Int} {w : Nat} : ∀ k : Nat, (∀ i j : Int, 0 ≤ i → i < k → 0 ≤ j → j < w → F ((s + i) * 19 + (s + j)) = G ((s + i) * 19 + (s + j))) → ab_pro F f1 f2 s w k = ab_pro G f1 f2 s w k
  | 0, _ => rfl
  | k + 1, h => by
    have ih := ab_pro_cg (f1 := f1) (f2 := f2) k (fun i j h0 h1 => h i j h0 (by omega))
    unfold ab_pro
    rw [ih, ab_pri_cg w (fun j j0 j1 => h k j (by omega) (by omega) j0 j1)]
theorem sp_productOf {a b a2 b2 : Nat} {hg : Int} {f f2 : Int → Int} (hs : ab_stat h) (hl : ab_lad h L u) (ha : 6 ≤ a) (hb : 6 ≤ b) (ha2 : 6 ≤ a2) (hb2 : 6 ≤ b2) (h1 : h a = some (ab_vec b hg)) (h2 : h b = some (ab_ia 7 f)) (h3 : h a2 = some (ab_vec b2 hg)) (h4 : h b2 = some (ab_ia 7 f2)) (hg0 : 0 ≤ hg ∧ hg ≤ u) (hu : u ≤ 5) (hf : ∀ i, 0 ≤ i → i < 7 → 0 ≤ f i ∧ f i ≤ 100) (hf2 : ∀ i, 0 ≤ i → i < 7 → 0 ≤ f2 i ∧ f2 i ≤ 100)
    (q : Q (some (vi (ab_pro (ab_FT L) f f2 (ab_START hg) (ab_wd hg).toNat (ab_wd hg).toNat % 101))) h n) : ab_G 27 0 [some (vr 33), some (vr a), some (vr a2), none, none, none, none, none] [] h n (0, 0) Q := by
  obtain ⟨B, A, F, Mv, top, ⟨k1, k2, k3, k4, k5, k6, k7, k8⟩, hgr, hbt, hrest⟩ := hl
  have hF' : ∀ j, 0 ≤ j → j < 361 → ab_inR (F j) := fun j k0 k1 => by have := k8 j k0 k1; omega
  have hw := ab_wd_eq hg0.1 (by omega)
  have p7 : hg < ((7 : Nat) : Int) := by omega
  have p8 : hg + 1 < ((7 : Nat) : Int) := by omega
  have p9 : 0 ≤ hg + 1 := by omega
  have p0 := hg0.1
  have eq : ab_pro (ab_FT L) f f2 (ab_START hg) (ab_wd hg).toNat (ab_wd hg).toNat = ab_pro F f f2 (ab_START hg) (ab_wd hg).toNat (ab_wd hg).toNat := by
    refine ab_pro_cg _ fun i j i0 i1 j0 j1 => ?_
    have li := ab_lv_at p0 (by omega) i0 (by omega)
    have lj := ab_lv_at p0 (by omega) j0 (by omega)
    exact (hbt.2 _ _ ⟨by omega, by omega⟩ ⟨by omega, by omega⟩ (by omega) (by omega)).symm
  rw [eq] at q
  simp only [s27_0, s27_3, s27_4, s27_7, s27_8, s27_9, s27_12, s27_13, s27_16, s27_17, s27_18, s27_19, s27_21, s27_22, s27_24, s27_25, true_and, and_true, true_implies, Option.toList_some, Option.toList_none, List.nil_append, List.cons_append, List.map_nil, List.map_cons, List.sum_nil, List.sum_cons, Nat.zero_le, ab_nl_n, ab_nl_i, ab_nl_r, ab_nl_0, ab_cat_i, ab_cat_r, ab_cat_l, Nat.reduceAdd, Nat.reduceLeDiff, Nat.add_zero, Nat.zero_add, reduceIte, List.getElem?_cons_succ, List.getElem?_cons_zero, List.length_cons, List.length_nil, List.set_cons_zero, List.set_cons_succ, true_or, or_true, Classical.not_not, not_true_eq_false, not_false_eq_true, ab_01r, ab_01z, ab_01n, false_implies, ab_tt, Nat.reduceLT, Nat.reduceEqDiff, Int.reduceNeg, Int.reduceLT, Int.reduceLE, Int.add_zero, Int.zero_add, List.append_nil, Int.reduceEq, ab_sum1, ab_ri_0, ab_ri_1, ab_ri_2, ab_ri_3, ab_ri_4, ab_ri_5, ab_ri_6, ab_ri_7, ab_ri_8, ab_ri_12, ab_ri_30, ab_ri_60, ab_ri_100, ab_ri_101, ab_ri_127, ab_ri_m1, ab_ri_m2, ab_ri_m3, ab_ri_m4, ab_ri_m5, ab_ri_m11, ab_ri_m13, ab_ri_m14, ab_ri_10, ab_fd, ab_ai, hs.1, h1, ha, p0, p7, p8, p9, hw.1]
  have key := ab_dn (P := fun i => ∀ l7 : Option ab_V, ab_nl [l7] = true → ab_G 27 27 [some (vr 33), some (vr a), some (vr a2), some (vi (ab_START hg)), some (vi (ab_START hg + ab_wd hg)), some (vi (ab_pro F f f2 (ab_START hg) (ab_wd hg).toNat i.toNat)), some (vi (ab_START hg + i)), l7] [] h n (0, 0) Q) (a := 0) (e := ab_wd hg) (by omega) ?_ ?_
  · have := key none rfl
    rw [Int.add_zero] at this
    exact this
  · intro l7 z7
    have hbd := ab_pro_r (F := F) (f1 := f) (f2 := f2) (s := ab_START hg) (w := (ab_wd hg).toNat) (by omega) (ab_wd hg).toNat (fun i j i0 i1 j0 j1 => k8 _ (by omega) (by omega))
    rw [s27_27]
    simp only [s27_29, s27_31, s27_92, s27_94, s27_96, s27_97, true_and, and_true, true_implies, Option.toList_some, Option.toList_none, List.nil_append, List.cons_append, List.map_nil, List.map_cons, List.sum_nil, List.sum_cons, Nat.zero_le, ab_nl_n, ab_nl_i, ab_nl_r, ab_nl_0, ab_cat_i, ab_cat_r, ab_cat_l, Nat.reduceAdd, Nat.reduceLeDiff, Nat.add_zero, Nat.zero_add, reduceIte, List.getElem?_cons_succ, List.getElem?_cons_zero, List.length_cons, List.length_nil, List.set_cons_zero, List.set_cons_succ, true_or, or_true, Classical.not_not, not_true_eq_false, not_false_eq_true, ab_01r, ab_01z, ab_01n, false_implies, ab_tt, Nat.reduceLT, Nat.reduceEqDiff, Int.reduceNeg, Int.reduceLT, Int.reduceLE, Int.add_zero, Int.zero_add, List.append_nil, Int.reduceEq, ab_sum1, ab_ri_0, ab_ri_1, ab_ri_2, ab_ri_3, ab_ri_4, ab_ri_5, ab_ri_6, ab_ri_7, ab_ri_8, ab_ri_12, ab_ri_30, ab_ri_60, ab_ri_100, ab_ri_101, ab_ri_127, ab_ri_m1, ab_ri_m2, ab_ri_m3, ab_ri_m4, ab_ri_m5, ab_ri_m11, ab_ri_m13, ab_ri_m14, ab_ri_10, Int.le_refl, Int.lt_irrefl, ab_md hbd.1, q] <;> omega
  · intro i i0 i9 ih l7 z7
    have ei : (i + 1).toNat = i.toNat + 1 := by omega
    have ec : ((i.toNat : Nat) : Int) = i := Int.toNat_of_nonneg i0
    have ni : ¬ ab_START hg + ab_wd hg ≤ ab_START hg + i := by omega
    rw [s27_27]
    simp only [s27_29, s27_31, s27_34, s27_35, true_and, and_true, true_implies, Option.toList_some, Option.toList_none, List.nil_append, List.cons_append, List.map_nil, List.map_cons, List.sum_nil, List.sum_cons, Nat.zero_le, ab_nl_n, ab_nl_i, ab_nl_r, ab_nl_0, ab_cat_i, ab_cat_r, ab_cat_l, Nat.reduceAdd, Nat.reduceLeDiff, Nat.add_zero, Nat.zero_add, reduceIte, List.getElem?_cons_succ, List.getElem?_cons_zero, List.length_cons, List.length_nil, List.set_cons_zero, List.set_cons_succ, true_or, or_true, Classical.not_not, not_true_eq_false, not_false_eq_true, ab_01r, ab_01z, ab_01n, false_implies, ab_tt, Nat.reduceLT, Nat.reduceEqDiff, Int.reduceNeg, Int.reduceLT, Int.reduceLE, Int.add_zero, Int.zero_add, List.append_nil, Int.reduceEq, ab_sum1, ab_ri_0, ab_ri_1, ab_ri_2, ab_ri_3, ab_ri_4, ab_ri_5, ab_ri_6, ab_ri_7, ab_ri_8, ab_ri_12, ab_ri_30, ab_ri_60, ab_ri_100, ab_ri_101, ab_ri_127, ab_ri_m1, ab_ri_m2, ab_ri_m3, ab_ri_m4, ab_ri_m5, ab_ri_m11, ab_ri_m13, ab_ri_m14, ab_ri_10, ni, z7]
    (repeat refine And.intro (by omega) ?_)
    refine ab_lp 0 (ab_wd hg) (fun j => [some (vr 33), some (vr a), some (vr a2), some (vi (ab_START hg)), some (vi (ab_START hg + ab_wd hg)), some (vi (ab_pro F f f2 (ab_START hg) (ab_wd hg).toNat i.toNat + ab_pri F f f2 (ab_START hg) i j.toNat)), some (vi (ab_START hg + i)), some (vi (ab_START hg + j))]) (fun _ => h) (by omega) (by rw [Int.add_zero, show (0 : Int).toNat = 0 from rfl, ab_pri, Int.add_zero]) rfl ?_ ?_
    · have ih := ih (some (vi (ab_START hg + ab_wd hg))) rfl
      rw [ei, ab_pro, ec, show ab_START hg + (i + 1) = ab_START hg + i + 1 by omega] at ih
      rw [s27_37]
      simp only [s27_39, s27_41, s27_86, s27_89, true_and, and_true, true_implies, Option.toList_some, Option.toList_none, List.nil_append, List.cons_append, List.map_nil, List.map_cons, List.sum_nil, List.sum_cons, Nat.zero_le, ab_nl_n, ab_nl_i, ab_nl_r, ab_nl_0, ab_cat_i, ab_cat_r, ab_cat_l, Nat.reduceAdd, Nat.reduceLeDiff, Nat.add_zero, Nat.zero_add, reduceIte, List.getElem?_cons_succ, List.getElem?_cons_zero, List.length_cons, List.length_nil, List.set_cons_zero, List.set_cons_succ, true_or, or_true, Classical.not_not, not_true_eq_false, not_false_eq_true, ab_01r, ab_01z, ab_01n, false_implies, ab_tt, Nat.reduceLT, Nat.reduceEqDiff, Int.reduceNeg, Int.reduceLT, Int.reduceLE, Int.add_zero, Int.zero_add, List.append_nil, Int.reduceEq, ab_sum1, ab_ri_0, ab_ri_1, ab_ri_2, ab_ri_3, ab_ri_4, ab_ri_5, ab_ri_6, ab_ri_7, ab_ri_8, ab_ri_12, ab_ri_30, ab_ri_60, ab_ri_100, ab_ri_101, ab_ri_127, ab_ri_m1, ab_ri_m2, ab_ri_m3, ab_ri_m4, ab_ri_m5, ab_ri_m11, ab_ri_m13, ab_ri_m14, ab_ri_10, Int.le_refl, Int.lt_irrefl, ih] <;> omega
    · intro j j0 j9 jh
      have ej : (j + 1).toNat = j.toNat + 1 := by omega
      have ecj : ((j.toNat : Nat) : Int) = j := Int.toNat_of_nonneg j0
      have nj : ¬ ab_START hg + ab_wd hg ≤ ab_START hg + j := by omega
      have i7 : i < ((7 : Nat) : Int) := by omega
      have j7 : j < ((7 : Nat) : Int) := by omega
      have es : ab_START hg + i - ab_START hg = i := by omega
      have et : ab_START hg + j - ab_START hg = j := by omega
      have m1 := hf i i0 (by omega)
      have m2 := hf2 j j0 (by omega)
      have m3 := Int.mul_nonneg m1.1 m2.1
      have m4 : f i * f2 j ≤ 100 * 100 := Int.mul_le_mul m1.2 m2.2 m2.1 (by omega)
      rw [ej, ab_pri, ecj, show ab_START hg + (j + 1) = ab_START hg + j + 1 by omega, ← Int.add_assoc] at jh
      rw [s27_37]
      simp only [s27_39, s27_41, s27_44, s27_46, s27_47, s27_50, s27_52, s27_53, s27_54, s27_55, s27_56, s27_59, s27_61, s27_62, s27_63, s27_64, s27_65, s27_67, s27_68, s27_69, s27_71, s27_73, s27_76, s27_77, s27_78, s27_80, s27_83, true_and, and_true, true_implies, Option.toList_some, Option.toList_none, List.nil_append, List.cons_append, List.map_nil, List.map_cons, List.sum_nil, List.sum_cons, Nat.zero_le, ab_nl_n, ab_nl_i, ab_nl_r, ab_nl_0, ab_cat_i, ab_cat_r, ab_cat_l, Nat.reduceAdd, Nat.reduceLeDiff, Nat.add_zero, Nat.zero_add, reduceIte, List.getElem?_cons_succ, List.getElem?_cons_zero, List.length_cons, List.length_nil, List.set_cons_zero, List.set_cons_succ, true_or, or_true, Classical.not_not, not_true_eq_false, not_false_eq_true, ab_01r, ab_01z, ab_01n, false_implies, ab_tt, Nat.reduceLT, Nat.reduceEqDiff, Int.reduceNeg, Int.reduceLT, Int.reduceLE, Int.add_zero, Int.zero_add, List.append_nil, Int.reduceEq, ab_sum1, ab_ri_0, ab_ri_1, ab_ri_2, ab_ri_3, ab_ri_4, ab_ri_5, ab_ri_6, ab_ri_7, ab_ri_8, ab_ri_12, ab_ri_30, ab_ri_60, ab_ri_100, ab_ri_101, ab_ri_127, ab_ri_m1, ab_ri_m2, ab_ri_m3, ab_ri_m4, ab_ri_m5, ab_ri_m11, ab_ri_m13, ab_ri_m14, ab_ri_10, ab_fd, ab_ai, ab_vc, ab_sv_3_106, k1, h1, h2, h3, h4, ha, hb, ha2, hb2, ni, nj, es, et, i0, i7, j0, j7, ab_md m3, sp_formed (by decide) (by decide) k1 k5 (show 0 ≤ ab_START hg + i ∧ ab_START hg + i < 19 by omega) (show 0 ≤ ab_START hg + j ∧ ab_START hg + j < 19 by omega) hF', jh] <;> omega
end LD7
