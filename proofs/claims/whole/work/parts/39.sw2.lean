/-! ===== Sweep: learn ===== -/
def ab_pol (L : Int → Int) : Prop := ∀ l, 0 ≤ l → l ≤ 5 → ∀ x, ab_dl (fun x => ab_DT (ab_ui L 2 x) l) ((ab_DEGREE l).toNat + 1) x % 101 = 0
theorem ab_swv_cg {T L V : Int → Int} {l : Int} (h0 : T 0 = L 0) (h1 : T 1 = L 1) (h3 : T 3 = L 3) (h : ab_swv T V l) : ab_swv L V l := by
  intro x x0 x1
  rw [h x x0 x1]
  refine ab_DT_cg (fun j j0 j1 => ?_) l
  have : j = 0 ∨ j = 1 ∨ j = 2 ∨ j = 3 := by omega
  rcases this with rfl | rfl | rfl | rfl
  · rw [ab_ui_ne (by decide), ab_ui_ne (by decide)]; exact h0
  · rw [ab_ui_ne (by decide), ab_ui_ne (by decide)]; exact h1
  · rw [ab_ui_at, ab_ui_at]
  · rw [ab_ui_ne (by decide), ab_ui_ne (by decide)]; exact h3
section SW2
variable {h : ab_H} {n : Nat} {Q : ab_Q} {V K T E L : Int → Int} {l : Int}
theorem sp_learn69 {la : Nat} {L0 : Int → Int} {u0 : Int} (hs : ab_stat h) (hl : ab_lad h L0 u0) (h6 : 6 ≤ la) (hla : la < 33 ∨ 51 < la) (h2 : h la = some (ab_ia 4 L)) (hL : ab_lok L) (hp : ab_pol L) (hl0 : 0 ≤ l ∧ l ≤ 5) (hsw : ab_sws h V K T E) (hK : ∀ l, 0 ≤ l → l < 6 → K l = 0 ∨ (K l = 1 ∧ ab_swv T V l ∧ ab_swv L V l)) (hT : ∀ j, 0 ≤ j → j < 4 → ab_inR (T j))
    (q : ∀ h', ab_eqo 33 51 h h' → ab_lad h' L (-1) → ab_swp h' → (∃ V', h' 47 = some ab_sp ∧ h' 48 = some (ab_ia 606 V') ∧ ab_swv L V' l) → Q none h' n) {l4 l5 : Option ab_V} (z4 : ab_nl [l4, l5] = true) (z5 : ab_nl [l5] = true) : ab_G 37 69 [some (vr 47), some (vr 33), some (vr la), some (vi l), l4, l5] [] h n (0, 0) Q := by
  obtain ⟨s1, s2, s3, s4, s5⟩ := hsw
  have l6 : l < ((6 : Nat) : Int) := by omega
  have l0 := hl0.1
  have hd : 0 ≤ ab_DEGREE l ∧ ab_DEGREE l ≤ 20 := ab_tb_all (P := fun l => 0 ≤ ab_DEGREE l ∧ ab_DEGREE l ≤ 20) (m := 6) (by decide) hl0.1 (by omega)
  have hL4 : ∀ j, 0 ≤ j → j < 4 → ab_inR (L j) := by
    intro j j0 j4
    obtain ⟨l0, l1, l2, l3⟩ := hL
    have : j = 0 ∨ j = 1 ∨ j = 2 ∨ j = 3 := by omega
    rcases this with rfl | rfl | rfl | rfl <;> omega
  have hcg : ∀ j, 0 ≤ j → j < 4 → ab_fi L T 0 4 j = L j := fun j j0 j4 => ab_fi_lo ⟨j0, j4⟩
  simp only [s37_69, s37_70, s37_73, s37_74, true_and, and_true, true_implies, Option.toList_some, Option.toList_none, List.nil_append, List.cons_append, List.map_nil, List.map_cons, List.sum_nil, List.sum_cons, Nat.zero_le, ab_nl_n, ab_nl_i, ab_nl_r, ab_nl_0, ab_cat_i, ab_cat_r, ab_cat_l, Nat.reduceAdd, Nat.reduceLeDiff, Nat.add_zero, Nat.zero_add, reduceIte, List.getElem?_cons_succ, List.getElem?_cons_zero, List.length_cons, List.length_nil, List.set_cons_zero, List.set_cons_succ, true_or, or_true, Classical.not_not, not_true_eq_false, not_false_eq_true, ab_01r, ab_01z, ab_01n, false_implies, ab_tt, Nat.reduceLT, Nat.reduceEqDiff, Int.reduceNeg, Int.reduceLT, Int.reduceLE, Int.add_zero, Int.zero_add, List.append_nil, Int.reduceEq, ab_sum1, ab_ri_0, ab_ri_1, ab_ri_2, ab_ri_3, ab_ri_4, ab_ri_5, ab_ri_6, ab_ri_7, ab_ri_8, ab_ri_12, ab_ri_30, ab_ri_60, ab_ri_100, ab_ri_101, ab_ri_127, ab_ri_m1, ab_ri_m2, ab_ri_m3, ab_ri_m4, ab_ri_m5, ab_ri_m11, ab_ri_m13, ab_ri_m14, ab_ri_10, ab_fd, s1, Nat.reduceLeDiff]
  refine s37_75 2 ⟨by decide, Or.inr ⟨rfl, Or.inr rfl⟩, ?_⟩
  have N47 : ∀ c, ab_hs h 49 c 47 = some ab_sp := fun c => (ab_hs_ne (by decide)).trans s1
  have Nla : ∀ c, ab_hs h 49 c la = some (ab_ia 4 L) := fun c => (ab_hs_ne (by omega)).trans h2
  have N50 : ∀ c, ab_hs h 49 c 50 = some (ab_ia 4 T) := fun c => (ab_hs_ne (by decide)).trans s4
  simp only [ab_as, s3, l0, l6, true_and, and_true, true_implies, Option.toList_some, Option.toList_none, List.nil_append, List.cons_append, List.map_nil, List.map_cons, List.sum_nil, List.sum_cons, Nat.zero_le, ab_nl_n, ab_nl_i, ab_nl_r, ab_nl_0, ab_cat_i, ab_cat_r, ab_cat_l, Nat.reduceAdd, Nat.reduceLeDiff, Nat.add_zero, Nat.zero_add, reduceIte, List.getElem?_cons_succ, List.getElem?_cons_zero, List.length_cons, List.length_nil, List.set_cons_zero, List.set_cons_succ, true_or, or_true, Classical.not_not, not_true_eq_false, not_false_eq_true, ab_01r, ab_01z, ab_01n, false_implies, ab_tt, Nat.reduceLT, Nat.reduceEqDiff, Int.reduceNeg, Int.reduceLT, Int.reduceLE, Int.add_zero, Int.zero_add, List.append_nil, Int.reduceEq, ab_sum1, ab_ri_0, ab_ri_1, ab_ri_2, ab_ri_3, ab_ri_4, ab_ri_5, ab_ri_6, ab_ri_7, ab_ri_8, ab_ri_12, ab_ri_30, ab_ri_60, ab_ri_100, ab_ri_101, ab_ri_127, ab_ri_m1, ab_ri_m2, ab_ri_m3, ab_ri_m4, ab_ri_m5, ab_ri_m11, ab_ri_m13, ab_ri_m14, ab_ri_10, s37_76, s37_77, s37_78, s37_79, s37_82, s37_83, ab_fd, N47, Nat.reduceLeDiff]
  refine s37_84 ⟨h6, by decide, by decide, ?_⟩
  have hss : ∀ c d, ab_stat (ab_hs (ab_hs h 49 c) 50 d) := fun c d => ab_stat_hs (by decide) (ab_stat_hs (by decide) hs)
  simp only [ab_cp, Nla, N50, true_and, and_true, true_implies, Option.toList_some, Option.toList_none, List.nil_append, List.cons_append, List.map_nil, List.map_cons, List.sum_nil, List.sum_cons, Nat.zero_le, ab_nl_n, ab_nl_i, ab_nl_r, ab_nl_0, ab_cat_i, ab_cat_r, ab_cat_l, Nat.reduceAdd, Nat.reduceLeDiff, Nat.add_zero, Nat.zero_add, reduceIte, List.getElem?_cons_succ, List.getElem?_cons_zero, List.length_cons, List.length_nil, List.set_cons_zero, List.set_cons_succ, true_or, or_true, Classical.not_not, not_true_eq_false, not_false_eq_true, ab_01r, ab_01z, ab_01n, false_implies, ab_tt, Nat.reduceLT, Nat.reduceEqDiff, Int.reduceNeg, Int.reduceLT, Int.reduceLE, Int.add_zero, Int.zero_add, List.append_nil, Int.reduceEq, ab_sum1, ab_ri_0, ab_ri_1, ab_ri_2, ab_ri_3, ab_ri_4, ab_ri_5, ab_ri_6, ab_ri_7, ab_ri_8, ab_ri_12, ab_ri_30, ab_ri_60, ab_ri_100, ab_ri_101, ab_ri_127, ab_ri_m1, ab_ri_m2, ab_ri_m3, ab_ri_m4, ab_ri_m5, ab_ri_m11, ab_ri_m13, ab_ri_m14, ab_ri_10, ab_cpy0, s37_87, s37_90, s37_91, s37_92, s37_94, s37_95, ab_ai, (hss _ _).2.2.2.2, l0, l6, z4, z5]
  have f4 : (4 : Int) ≤ ((4 : Nat) : Int) := by omega
  refine ⟨f4, f4, ?_⟩
  have key := ab_dn (P := fun x => ∀ h' V' E' T', ab_eqo 33 51 h h' → ab_lad h' L (-1) → ab_sws h' V' (ab_ui K l 1) T' E' → (∀ j, 0 ≤ j → j < x → E' j = ab_DT (ab_ui L 2 j) l ∧ V' (l * 101 + j) = ab_DT (ab_ui L 2 j) l) → (∀ j, ¬ (l * 101 ≤ j ∧ j < l * 101 + 101) → V' j = V j) → (∀ j, 0 ≤ j → j < 4 → j ≠ 2 → T' j = L j) → ab_inR (T' 2) → ab_G 37 97 [some (vr 47), some (vr 33), some (vr la), some (vi l), some (vi (ab_DEGREE l)), some (vi x)] [] h' n (0, 0) Q) (a := 0) (e := ab_DEGREE l + 1) (by omega) ?_ ?_
  · refine key _ V E (ab_fi L T 0 4) (fun x hx => (ab_hs_ne (by omega)).trans (ab_hs_ne (by omega))) (ab_lad_fr (fun x x0 x1 => (ab_hs_ne (by omega)).trans (ab_hs_ne (by omega))) (ab_lad_any hl)) ⟨(ab_hs_ne (by decide)).trans (N47 _), (ab_hs_ne (by decide)).trans ((ab_hs_ne (by decide)).trans s2), (ab_hs_ne (by decide)).trans ab_hs_self, ab_hs_self, (ab_hs_ne (by decide)).trans ((ab_hs_ne (by decide)).trans s5)⟩ (fun j j0 j1 => absurd j0 (by omega)) (fun _ _ => rfl) (fun j j0 j4 _ => hcg j j0 j4) (by rw [hcg 2 (by decide) (by decide)]; exact hL4 2 (by decide) (by decide))
  · intro h' V' E' T' he hlad hsw hEV hV hT' hT2
    obtain ⟨s1, s2, s3, s4, s5⟩ := hsw
    have c1 : ab_DEGREE l < ab_DEGREE l + 1 := by omega
    rw [s37_97]
    simp only [s37_99, s37_101, s37_161, s37_162, s37_163, s37_165, true_and, and_true, true_implies, Option.toList_some, Option.toList_none, List.nil_append, List.cons_append, List.map_nil, List.map_cons, List.sum_nil, List.sum_cons, Nat.zero_le, ab_nl_n, ab_nl_i, ab_nl_r, ab_nl_0, ab_cat_i, ab_cat_r, ab_cat_l, Nat.reduceAdd, Nat.reduceLeDiff, Nat.add_zero, Nat.zero_add, reduceIte, List.getElem?_cons_succ, List.getElem?_cons_zero, List.length_cons, List.length_nil, List.set_cons_zero, List.set_cons_succ, true_or, or_true, Classical.not_not, not_true_eq_false, not_false_eq_true, ab_01r, ab_01z, ab_01n, false_implies, ab_tt, Nat.reduceLT, Nat.reduceEqDiff, Int.reduceNeg, Int.reduceLT, Int.reduceLE, Int.add_zero, Int.zero_add, List.append_nil, Int.reduceEq, ab_sum1, ab_ri_0, ab_ri_1, ab_ri_2, ab_ri_3, ab_ri_4, ab_ri_5, ab_ri_6, ab_ri_7, ab_ri_8, ab_ri_12, ab_ri_30, ab_ri_60, ab_ri_100, ab_ri_101, ab_ri_127, ab_ri_m1, ab_ri_m2, ab_ri_m3, ab_ri_m4, ab_ri_m5, ab_ri_m11, ab_ri_m13, ab_ri_m14, ab_ri_10, ab_vc, ab_sv_6_34, ab_sv_6_40, ab_sv_6_50, s1, c1, Nat.reduceLeDiff]
    (repeat refine And.intro (by omega) ?_)
    refine sp_extend (D := fun x => ab_DT (ab_ui L 2 x) l) s1 s2 s5 hd hl0 (hp l hl0.1 hl0.2) (fun x _ _ => ab_DT_r hl0.1 hl0.2) (fun j j0 j1 => (hEV j j0 (by omega)).2) (fun j j0 j1 => (hEV j j0 (by omega)).1) ?_
    intro E2 V2 hV2 hO2
    simp only [s37_168, true_and, and_true, true_implies, Option.toList_some, Option.toList_none, List.nil_append, List.cons_append, List.map_nil, List.map_cons, List.sum_nil, List.sum_cons, Nat.zero_le, ab_nl_n, ab_nl_i, ab_nl_r, ab_nl_0, ab_cat_i, ab_cat_r, ab_cat_l, Nat.reduceAdd, Nat.reduceLeDiff, Nat.add_zero, Nat.zero_add, reduceIte, List.getElem?_cons_succ, List.getElem?_cons_zero, List.length_cons, List.length_nil, List.set_cons_zero, List.set_cons_succ, true_or, or_true, Classical.not_not, not_true_eq_false, not_false_eq_true, ab_01r, ab_01z, ab_01n, false_implies, ab_tt, Nat.reduceLT, Nat.reduceEqDiff, Int.reduceNeg, Int.reduceLT, Int.reduceLE, Int.add_zero, Int.zero_add, List.append_nil, Int.reduceEq, ab_sum1, ab_ri_0, ab_ri_1, ab_ri_2, ab_ri_3, ab_ri_4, ab_ri_5, ab_ri_6, ab_ri_7, ab_ri_8, ab_ri_12, ab_ri_30, ab_ri_60, ab_ri_100, ab_ri_101, ab_ri_127, ab_ri_m1, ab_ri_m2, ab_ri_m3, ab_ri_m4, ab_ri_m5, ab_ri_m11, ab_ri_m13, ab_ri_m14, ab_ri_10]
    have fr : ∀ x, x ≠ 48 → x ≠ 51 → ab_hs (ab_hs h' 51 (ab_ia 21 E2)) 48 (ab_ia 606 V2) x = h' x := fun x x1 x2 => (ab_hs_ne x1).trans (ab_hs_ne x2)
    have hvl : ab_swv L V2 l := fun x x0 x1 => hV2 x x0 x1
    refine q _ (fun x hx => (fr x (by omega) (by omega)).trans (he x hx)) (ab_lad_fr (fun x x0 x1 => fr x (by omega) (by omega)) hlad) ⟨V2, ab_ui K l 1, T', E2, ⟨(fr 47 (by decide) (by decide)).trans s1, ab_hs_self, (fr 49 (by decide) (by decide)).trans s3, (fr 50 (by decide) (by decide)).trans s4, (ab_hs_ne (by decide)).trans ab_hs_self⟩, ?_, ?_⟩ ⟨V2, (fr 47 (by decide) (by decide)).trans s1, ab_hs_self, hvl⟩
    · intro l' m0 m6
      have cg : ∀ W, ab_swv L W l' → ab_swv T' W l' := fun W hW => ab_swv_cg (hT' 0 (by decide) (by decide) (by decide)).symm (hT' 1 (by decide) (by decide) (by decide)).symm (hT' 3 (by decide) (by decide) (by decide)).symm hW
      by_cases e : l' = l
      · rw [e, ab_ui_at]
        rw [e] at cg
        exact Or.inr ⟨rfl, cg _ hvl⟩
      · rw [ab_ui_ne e]
        rcases hK l' m0 m6 with k | ⟨k1, k2, k3⟩
        · exact Or.inl k
        · refine Or.inr ⟨k1, cg _ fun x x0 x1 => ?_⟩
          rw [hO2 _ (by omega), hV _ (by omega)]
          exact k3 x x0 x1
    · intro j j0 j4
      by_cases e : j = 2
      · rw [e]; exact hT2
      · rw [hT' j j0 j4 e]; exact hL4 j j0 j4
  · intro x x0 x9 xh h' V' E' T' he hlad hsw hEV hV hT' hT2
    obtain ⟨s1, s2, s3, s4, s5⟩ := hsw
    have c1 : ¬ ab_DEGREE l < x := by omega
    have f2 : (2 : Int) < ((4 : Nat) : Int) := by omega
    have f2' : (0 : Int) ≤ 2 := by omega
    have hs' := ab_stat_fr (by decide) he hs
    have x21 : x < ((21 : Nat) : Int) := by omega
    have g0 : 0 ≤ l * 101 + x := by omega
    have g1 : l * 101 + x < ((606 : Nat) : Int) := by omega
    have hTl : ab_lok (ab_ui T' 2 x) := by
      obtain ⟨l0, l1, l2, l3⟩ := hL
      unfold ab_lok
      rw [ab_ui_ne (show (0 : Int) ≠ 2 by decide), ab_ui_ne (show (1 : Int) ≠ 2 by decide), ab_ui_ne (show (3 : Int) ≠ 2 by decide), ab_ui_at, hT' 0 (by decide) (by decide) (by decide), hT' 1 (by decide) (by decide) (by decide), hT' 3 (by decide) (by decide) (by decide)]
      exact ⟨l0, l1, ⟨by omega, by omega⟩, l3⟩
    have eDT : ab_DT (ab_ui T' 2 x) l = ab_DT (ab_ui L 2 x) l := by
      refine ab_DT_cg (fun j j0 j4 => ?_) l
      by_cases e : j = 2
      · rw [e, ab_ui_at, ab_ui_at]
      · rw [ab_ui_ne e, ab_ui_ne e, hT' j j0 j4 e]
    have O47 : ∀ c, ab_hs h' 50 c 47 = some ab_sp := fun c => (ab_hs_ne (by decide)).trans s1
    have lad50 : ∀ c, ab_lad (ab_hs h' 50 c) L (-1) := fun c => ab_lad_fr (fun y y0 y1 => ab_hs_ne (by omega)) hlad
    have h33 : ∃ t, ∀ c, ab_hs h' 50 c 33 = some (ab_ld 34 40 41 42 43 44 t) := by
      obtain ⟨B, A, F, Mv, top, ⟨k1, -⟩, -⟩ := hlad
      exact ⟨top, fun c => (ab_hs_ne (by decide)).trans k1⟩
    obtain ⟨t, h33⟩ := h33
    rw [s37_97]
    simp only [s37_99, s37_101, s37_104, s37_105, s37_108, s37_109, s37_111, s37_112, s37_113, s37_114, s37_117, s37_118, true_and, and_true, true_implies, Option.toList_some, Option.toList_none, List.nil_append, List.cons_append, List.map_nil, List.map_cons, List.sum_nil, List.sum_cons, Nat.zero_le, ab_nl_n, ab_nl_i, ab_nl_r, ab_nl_0, ab_cat_i, ab_cat_r, ab_cat_l, Nat.reduceAdd, Nat.reduceLeDiff, Nat.add_zero, Nat.zero_add, reduceIte, List.getElem?_cons_succ, List.getElem?_cons_zero, List.length_cons, List.length_nil, List.set_cons_zero, List.set_cons_succ, true_or, or_true, Classical.not_not, not_true_eq_false, not_false_eq_true, ab_01r, ab_01z, ab_01n, false_implies, ab_tt, Nat.reduceLT, Nat.reduceEqDiff, Int.reduceNeg, Int.reduceLT, Int.reduceLE, Int.add_zero, Int.zero_add, List.append_nil, Int.reduceEq, ab_sum1, ab_ri_0, ab_ri_1, ab_ri_2, ab_ri_3, ab_ri_4, ab_ri_5, ab_ri_6, ab_ri_7, ab_ri_8, ab_ri_12, ab_ri_30, ab_ri_60, ab_ri_100, ab_ri_101, ab_ri_127, ab_ri_m1, ab_ri_m2, ab_ri_m3, ab_ri_m4, ab_ri_m5, ab_ri_m11, ab_ri_m13, ab_ri_m14, ab_ri_10, ab_fd, ab_as, ab_vc, ab_sv_6_34, ab_sv_6_40, ab_sv_6_50, s1, s4, O47, h33, c1, f2, f2', Nat.reduceLeDiff]
    (repeat refine And.intro (by omega) ?_)
    refine sp_build (ab_stat_hs (by decide) hs') (lad50 _) (by decide) (by decide) ab_hs_self hTl hl0 fun h1 e1 lad1 => ?_
    have k47 : h1 47 = some ab_sp := (e1 47 (by decide)).trans (O47 _)
    have h33 : ∃ t, h1 33 = some (ab_ld 34 40 41 42 43 44 t) := by
      obtain ⟨B, A, F, Mv, top, ⟨k1, -⟩, -⟩ := lad1
      exact ⟨top, k1⟩
    obtain ⟨t, h33⟩ := h33
    simp only [s37_121, s37_122, s37_125, s37_127, s37_128, s37_129, true_and, and_true, true_implies, Option.toList_some, Option.toList_none, List.nil_append, List.cons_append, List.map_nil, List.map_cons, List.sum_nil, List.sum_cons, Nat.zero_le, ab_nl_n, ab_nl_i, ab_nl_r, ab_nl_0, ab_cat_i, ab_cat_r, ab_cat_l, Nat.reduceAdd, Nat.reduceLeDiff, Nat.add_zero, Nat.zero_add, reduceIte, List.getElem?_cons_succ, List.getElem?_cons_zero, List.length_cons, List.length_nil, List.set_cons_zero, List.set_cons_succ, true_or, or_true, Classical.not_not, not_true_eq_false, not_false_eq_true, ab_01r, ab_01z, ab_01n, false_implies, ab_tt, Nat.reduceLT, Nat.reduceEqDiff, Int.reduceNeg, Int.reduceLT, Int.reduceLE, Int.add_zero, Int.zero_add, List.append_nil, Int.reduceEq, ab_sum1, ab_ri_0, ab_ri_1, ab_ri_2, ab_ri_3, ab_ri_4, ab_ri_5, ab_ri_6, ab_ri_7, ab_ri_8, ab_ri_12, ab_ri_30, ab_ri_60, ab_ri_100, ab_ri_101, ab_ri_127, ab_ri_m1, ab_ri_m2, ab_ri_m3, ab_ri_m4, ab_ri_m5, ab_ri_m11, ab_ri_m13, ab_ri_m14, ab_ri_10, ab_fd, ab_vc, ab_sv_6_34, ab_sv_6_40, ab_sv_6_50, k47, h33, Nat.reduceLeDiff]
    refine sp_reducedForms (ab_stat_fr (by decide) e1 (ab_stat_hs (by decide) hs')) lad1 ⟨hl0.1, Int.le_refl l⟩ hl0.2 fun h2 e2 lad2 g44 => ?_
    have fr : ∀ a, a < 33 ∨ 46 < a → a ≠ 50 → h2 a = h' a := fun a ha hb => (e2 a (by omega)).trans ((e1 a ha).trans (ab_hs_ne hb))
    have m47 : h2 47 = some ab_sp := (fr 47 (by decide) (by decide)).trans s1
    have m48 : h2 48 = some (ab_ia 606 V') := (fr 48 (by decide) (by decide)).trans s2
    have m49 := (fr 49 (by decide) (by decide)).trans s3
    have m50 : h2 50 = some (ab_ia 4 (ab_ui T' 2 x)) := (e2 50 (by decide)).trans ((e1 50 (by decide)).trans ab_hs_self)
    have m51 : h2 51 = some (ab_ia 21 E') := (fr 51 (by decide) (by decide)).trans s5
    have eP : (ab_fr (ab_ui T' 2 x) l).2.2.2 = ab_DT (ab_ui L 2 x) l := eDT
    have P47 : ∀ c, ab_hs h2 51 c 47 = some ab_sp := fun c => (ab_hs_ne (by decide)).trans m47
    have P48 : ∀ c, ab_hs h2 51 c 48 = some (ab_ia 606 V') := fun c => (ab_hs_ne (by decide)).trans m48
    have xh := xh (ab_hs (ab_hs h2 51 (ab_ia 21 (ab_ui E' x (ab_DT (ab_ui L 2 x) l)))) 48 (ab_ia 606 (ab_ui V' (l * 101 + x) (ab_DT (ab_ui L 2 x) l)))) _ _ _ (fun a ha => (ab_hs_ne (by omega)).trans ((ab_hs_ne (by omega)).trans ((fr a (by omega) (by omega)).trans (he a ha)))) (ab_lad_fr (fun a a0 a1 => (ab_hs_ne (by omega)).trans (ab_hs_ne (by omega))) (ab_lad_any lad2)) ⟨(ab_hs_ne (by decide)).trans (P47 _), ab_hs_self, (ab_hs_ne (by decide)).trans ((ab_hs_ne (by decide)).trans m49), (ab_hs_ne (by decide)).trans ((ab_hs_ne (by decide)).trans m50), (ab_hs_ne (by decide)).trans ab_hs_self⟩ (fun j j0 j1 => by
      by_cases e : j = x
      · rw [e, ab_ui_at, ab_ui_at]; exact ⟨rfl, rfl⟩
      · rw [ab_ui_ne e, ab_ui_ne (by omega)]
        exact hEV j j0 (by omega)) (fun j hj => by
      rw [ab_ui_ne (by omega)]
      exact hV j hj) (fun j j0 j4 e => by rw [ab_ui_ne e]; exact hT' j j0 j4 e) (by rw [ab_ui_at]; omega)
    simp only [s37_132, s37_135, s37_136, s37_137, s37_140, s37_141, s37_143, s37_144, s37_146, s37_147, s37_148, s37_151, s37_153, s37_154, s37_155, s37_158, true_and, and_true, true_implies, Option.toList_some, Option.toList_none, List.nil_append, List.cons_append, List.map_nil, List.map_cons, List.sum_nil, List.sum_cons, Nat.zero_le, ab_nl_n, ab_nl_i, ab_nl_r, ab_nl_0, ab_cat_i, ab_cat_r, ab_cat_l, Nat.reduceAdd, Nat.reduceLeDiff, Nat.add_zero, Nat.zero_add, reduceIte, List.getElem?_cons_succ, List.getElem?_cons_zero, List.length_cons, List.length_nil, List.set_cons_zero, List.set_cons_succ, true_or, or_true, Classical.not_not, not_true_eq_false, not_false_eq_true, ab_01r, ab_01z, ab_01n, false_implies, ab_tt, Nat.reduceLT, Nat.reduceEqDiff, Int.reduceNeg, Int.reduceLT, Int.reduceLE, Int.add_zero, Int.zero_add, List.append_nil, Int.reduceEq, ab_sum1, ab_ri_0, ab_ri_1, ab_ri_2, ab_ri_3, ab_ri_4, ab_ri_5, ab_ri_6, ab_ri_7, ab_ri_8, ab_ri_12, ab_ri_30, ab_ri_60, ab_ri_100, ab_ri_101, ab_ri_127, ab_ri_m1, ab_ri_m2, ab_ri_m3, ab_ri_m4, ab_ri_m5, ab_ri_m11, ab_ri_m13, ab_ri_m14, ab_ri_10, ab_fd, ab_as, ab_ai, g44, m47, m51, P47, P48, ab_hs_self, eP, ab_ui_at, x0, x21, g0, g1, Nat.reduceLeDiff, xh]
theorem sp_learn {la : Nat} {L0 : Int → Int} {u0 : Int} (hs : ab_stat h) (hl : ab_lad h L0 u0) (h6 : 6 ≤ la) (hla : la < 33 ∨ 51 < la) (h2 : h la = some (ab_ia 4 L)) (hL : ab_lok L) (hp : ab_pol L) (hl0 : 0 ≤ l ∧ l ≤ 5) (hsw : ab_swp h)
    (q : ∀ h', ab_eqo 33 51 h h' → ab_lad h' L (-1) → ab_swp h' → (∃ V', h' 47 = some ab_sp ∧ h' 48 = some (ab_ia 606 V') ∧ ab_swv L V' l) → Q none h' n) : ab_G 37 0 [some (vr 47), some (vr 33), some (vr la), some (vi l), none, none] [] h n (0, 0) Q := by
  obtain ⟨V, K, T, E, hsw, hK, hT⟩ := hsw
  obtain ⟨s1, s2, s3, s4, s5⟩ := hsw
  have hL4 : ∀ j, 0 ≤ j → j < 4 → ab_inR (L j) := by
    intro j j0 j4
    obtain ⟨l0, l1, l2, l3⟩ := hL
    have : j = 0 ∨ j = 1 ∨ j = 2 ∨ j = 3 := by omega
    rcases this with rfl | rfl | rfl | rfl <;> omega
  have l6 : l < ((6 : Nat) : Int) := by omega
  have l0 := hl0.1
  -- from 59 on
  have c59 : ∀ K', (∀ l, 0 ≤ l → l < 6 → K' l = 0 ∨ (K' l = 1 ∧ ab_swv T V l ∧ ab_swv L V l)) → ∀ l4 : Option ab_V, ab_nl [l4, none] = true → ab_G 37 59 [some (vr 47), some (vr 33), some (vr la), some (vi l), l4, none] [] (ab_hs h 49 (.inr (.inl (2, 6, K')))) n (0, 0) Q := by
    intro K' hK' l4 z4
    have N47 : ∀ c, ab_hs h 49 c 47 = some ab_sp := fun c => (ab_hs_ne (by decide)).trans s1
    have hsw' : ab_sws (ab_hs h 49 (.inr (.inl (2, 6, K')))) V K' T E := ⟨N47 _, (ab_hs_ne (by decide)).trans s2, ab_hs_self, (ab_hs_ne (by decide)).trans s4, (ab_hs_ne (by decide)).trans s5⟩
    have lad' : ab_lad (ab_hs h 49 (.inr (.inl (2, 6, K')))) L0 u0 := ab_lad_fr (fun y y0 y1 => ab_hs_ne (by omega)) hl
    simp only [s37_59, s37_60, s37_63, true_and, and_true, true_implies, Option.toList_some, Option.toList_none, List.nil_append, List.cons_append, List.map_nil, List.map_cons, List.sum_nil, List.sum_cons, Nat.zero_le, ab_nl_n, ab_nl_i, ab_nl_r, ab_nl_0, ab_cat_i, ab_cat_r, ab_cat_l, Nat.reduceAdd, Nat.reduceLeDiff, Nat.add_zero, Nat.zero_add, reduceIte, List.getElem?_cons_succ, List.getElem?_cons_zero, List.length_cons, List.length_nil, List.set_cons_zero, List.set_cons_succ, true_or, or_true, Classical.not_not, not_true_eq_false, not_false_eq_true, ab_01r, ab_01z, ab_01n, false_implies, ab_tt, Nat.reduceLT, Nat.reduceEqDiff, Int.reduceNeg, Int.reduceLT, Int.reduceLE, Int.add_zero, Int.zero_add, List.append_nil, Int.reduceEq, ab_sum1, ab_ri_0, ab_ri_1, ab_ri_2, ab_ri_3, ab_ri_4, ab_ri_5, ab_ri_6, ab_ri_7, ab_ri_8, ab_ri_12, ab_ri_30, ab_ri_60, ab_ri_100, ab_ri_101, ab_ri_127, ab_ri_m1, ab_ri_m2, ab_ri_m3, ab_ri_m4, ab_ri_m5, ab_ri_m11, ab_ri_m13, ab_ri_m14, ab_ri_10, ab_fd, N47, Nat.reduceLeDiff]
    refine s37_64 2 (Or.inr rfl) ⟨by decide, ?_⟩
    simp only [ab_ai, ab_hs_self, l0, l6, true_and, and_true, true_implies, Option.toList_some, Option.toList_none, List.nil_append, List.cons_append, List.map_nil, List.map_cons, List.sum_nil, List.sum_cons, Nat.zero_le, ab_nl_n, ab_nl_i, ab_nl_r, ab_nl_0, ab_cat_i, ab_cat_r, ab_cat_l, Nat.reduceAdd, Nat.reduceLeDiff, Nat.add_zero, Nat.zero_add, reduceIte, List.getElem?_cons_succ, List.getElem?_cons_zero, List.length_cons, List.length_nil, List.set_cons_zero, List.set_cons_succ, true_or, or_true, Classical.not_not, not_true_eq_false, not_false_eq_true, ab_01r, ab_01z, ab_01n, false_implies, ab_tt, Nat.reduceLT, Nat.reduceEqDiff, Int.reduceNeg, Int.reduceLT, Int.reduceLE, Int.add_zero, Int.zero_add, List.append_nil, Int.reduceEq, ab_sum1, ab_ri_0, ab_ri_1, ab_ri_2, ab_ri_3, ab_ri_4, ab_ri_5, ab_ri_6, ab_ri_7, ab_ri_8, ab_ri_12, ab_ri_30, ab_ri_60, ab_ri_100, ab_ri_101, ab_ri_127, ab_ri_m1, ab_ri_m2, ab_ri_m3, ab_ri_m4, ab_ri_m5, ab_ri_m11, ab_ri_m13, ab_ri_m14, ab_ri_10]
    rcases hK' l hl0.1 (by omega) with k | ⟨k1, k2, k3⟩
    · have := sp_learn69 (n := n) (Q := Q) (ab_stat_hs (by decide) hs) lad' h6 hla ((ab_hs_ne (by omega)).trans h2) hL hp hl0 hsw' hK' hT (fun h' e lad sw ex => q h' (fun a ha => (e a ha).trans (ab_hs_ne (by omega))) lad sw ex) z4 rfl
      simp only [s37_65, true_and, and_true, true_implies, Option.toList_some, Option.toList_none, List.nil_append, List.cons_append, List.map_nil, List.map_cons, List.sum_nil, List.sum_cons, Nat.zero_le, ab_nl_n, ab_nl_i, ab_nl_r, ab_nl_0, ab_cat_i, ab_cat_r, ab_cat_l, Nat.reduceAdd, Nat.reduceLeDiff, Nat.add_zero, Nat.zero_add, reduceIte, List.getElem?_cons_succ, List.getElem?_cons_zero, List.length_cons, List.length_nil, List.set_cons_zero, List.set_cons_succ, true_or, or_true, Classical.not_not, not_true_eq_false, not_false_eq_true, ab_01r, ab_01z, ab_01n, false_implies, ab_tt, Nat.reduceLT, Nat.reduceEqDiff, Int.reduceNeg, Int.reduceLT, Int.reduceLE, Int.add_zero, Int.zero_add, List.append_nil, Int.reduceEq, ab_sum1, ab_ri_0, ab_ri_1, ab_ri_2, ab_ri_3, ab_ri_4, ab_ri_5, ab_ri_6, ab_ri_7, ab_ri_8, ab_ri_12, ab_ri_30, ab_ri_60, ab_ri_100, ab_ri_101, ab_ri_127, ab_ri_m1, ab_ri_m2, ab_ri_m3, ab_ri_m4, ab_ri_m5, ab_ri_m11, ab_ri_m13, ab_ri_m14, ab_ri_10, k, this]
    · have q := q (ab_hs h 49 (.inr (.inl (2, 6, K')))) (fun a ha => ab_hs_ne (by omega)) (ab_lad_any lad') ⟨V, K', T, E, hsw', fun l' m0 m6 => (hK' l' m0 m6).imp id (fun z => ⟨z.1, z.2.1⟩), hT⟩ ⟨V, N47 _, (ab_hs_ne (by decide)).trans s2, k3⟩
      simp only [s37_65, s37_68, true_and, and_true, true_implies, Option.toList_some, Option.toList_none, List.nil_append, List.cons_append, List.map_nil, List.map_cons, List.sum_nil, List.sum_cons, Nat.zero_le, ab_nl_n, ab_nl_i, ab_nl_r, ab_nl_0, ab_cat_i, ab_cat_r, ab_cat_l, Nat.reduceAdd, Nat.reduceLeDiff, Nat.add_zero, Nat.zero_add, reduceIte, List.getElem?_cons_succ, List.getElem?_cons_zero, List.length_cons, List.length_nil, List.set_cons_zero, List.set_cons_succ, true_or, or_true, Classical.not_not, not_true_eq_false, not_false_eq_true, ab_01r, ab_01z, ab_01n, false_implies, ab_tt, Nat.reduceLT, Nat.reduceEqDiff, Int.reduceNeg, Int.reduceLT, Int.reduceLE, Int.add_zero, Int.zero_add, List.append_nil, Int.reduceEq, ab_sum1, ab_ri_0, ab_ri_1, ab_ri_2, ab_ri_3, ab_ri_4, ab_ri_5, ab_ri_6, ab_ri_7, ab_ri_8, ab_ri_12, ab_ri_30, ab_ri_60, ab_ri_100, ab_ri_101, ab_ri_127, ab_ri_m1, ab_ri_m2, ab_ri_m3, ab_ri_m4, ab_ri_m5, ab_ri_m11, ab_ri_m13, ab_ri_m14, ab_ri_10, k1, q] <;> omega
  -- the row of flags wiped
  have c36 : ab_G 37 36 [some (vr 47), some (vr 33), some (vr la), some (vi l), none, none] [] h n (0, 0) Q := by
    simp only [s37_36, s37_37, true_and, and_true, true_implies, Option.toList_some, Option.toList_none, List.nil_append, List.cons_append, List.map_nil, List.map_cons, List.sum_nil, List.sum_cons, Nat.zero_le, ab_nl_n, ab_nl_i, ab_nl_r, ab_nl_0, ab_cat_i, ab_cat_r, ab_cat_l, Nat.reduceAdd, Nat.reduceLeDiff, Nat.add_zero, Nat.zero_add, reduceIte, List.getElem?_cons_succ, List.getElem?_cons_zero, List.length_cons, List.length_nil, List.set_cons_zero, List.set_cons_succ, true_or, or_true, Classical.not_not, not_true_eq_false, not_false_eq_true, ab_01r, ab_01z, ab_01n, false_implies, ab_tt, Nat.reduceLT, Nat.reduceEqDiff, Int.reduceNeg, Int.reduceLT, Int.reduceLE, Int.add_zero, Int.zero_add, List.append_nil, Int.reduceEq, ab_sum1, ab_ri_0, ab_ri_1, ab_ri_2, ab_ri_3, ab_ri_4, ab_ri_5, ab_ri_6, ab_ri_7, ab_ri_8, ab_ri_12, ab_ri_30, ab_ri_60, ab_ri_100, ab_ri_101, ab_ri_127, ab_ri_m1, ab_ri_m2, ab_ri_m3, ab_ri_m4, ab_ri_m5, ab_ri_m11, ab_ri_m13, ab_ri_m14, ab_ri_10]
    refine ab_lp 0 6 (fun i => [some (vr 47), some (vr 33), some (vr la), some (vi l), some (vi i), none]) (fun i => ab_hs h 49 (.inr (.inl (2, 6, ab_fi (fun _ => 0) K 0 i)))) (by decide) rfl (by rw [ab_fi_0, ab_hs_id s3]) ?_ ?_
    · have := c59 (ab_fi (fun _ => 0) K 0 6) (fun l' m0 m6 => Or.inl (ab_fi_lo ⟨m0, m6⟩)) (some (vi 6)) rfl
      rw [s37_39]
      simp only [s37_41, s37_42, true_and, and_true, true_implies, Option.toList_some, Option.toList_none, List.nil_append, List.cons_append, List.map_nil, List.map_cons, List.sum_nil, List.sum_cons, Nat.zero_le, ab_nl_n, ab_nl_i, ab_nl_r, ab_nl_0, ab_cat_i, ab_cat_r, ab_cat_l, Nat.reduceAdd, Nat.reduceLeDiff, Nat.add_zero, Nat.zero_add, reduceIte, List.getElem?_cons_succ, List.getElem?_cons_zero, List.length_cons, List.length_nil, List.set_cons_zero, List.set_cons_succ, true_or, or_true, Classical.not_not, not_true_eq_false, not_false_eq_true, ab_01r, ab_01z, ab_01n, false_implies, ab_tt, Nat.reduceLT, Nat.reduceEqDiff, Int.reduceNeg, Int.reduceLT, Int.reduceLE, Int.add_zero, Int.zero_add, List.append_nil, Int.reduceEq, ab_sum1, ab_ri_0, ab_ri_1, ab_ri_2, ab_ri_3, ab_ri_4, ab_ri_5, ab_ri_6, ab_ri_7, ab_ri_8, ab_ri_12, ab_ri_30, ab_ri_60, ab_ri_100, ab_ri_101, ab_ri_127, ab_ri_m1, ab_ri_m2, ab_ri_m3, ab_ri_m4, ab_ri_m5, ab_ri_m11, ab_ri_m13, ab_ri_m14, ab_ri_10, this] <;> omega
    · intro i i0 i9 ih
      have c1 : ¬ 5 < i := by omega
      have i6 : i < ((6 : Nat) : Int) := by omega
      have N47 : ∀ c, ab_hs h 49 c 47 = some ab_sp := fun c => (ab_hs_ne (by decide)).trans s1
      rw [s37_39]
      simp only [s37_41, s37_42, s37_45, s37_46, s37_49, s37_51, true_and, and_true, true_implies, Option.toList_some, Option.toList_none, List.nil_append, List.cons_append, List.map_nil, List.map_cons, List.sum_nil, List.sum_cons, Nat.zero_le, ab_nl_n, ab_nl_i, ab_nl_r, ab_nl_0, ab_cat_i, ab_cat_r, ab_cat_l, Nat.reduceAdd, Nat.reduceLeDiff, Nat.add_zero, Nat.zero_add, reduceIte, List.getElem?_cons_succ, List.getElem?_cons_zero, List.length_cons, List.length_nil, List.set_cons_zero, List.set_cons_succ, true_or, or_true, Classical.not_not, not_true_eq_false, not_false_eq_true, ab_01r, ab_01z, ab_01n, false_implies, ab_tt, Nat.reduceLT, Nat.reduceEqDiff, Int.reduceNeg, Int.reduceLT, Int.reduceLE, Int.add_zero, Int.zero_add, List.append_nil, Int.reduceEq, ab_sum1, ab_ri_0, ab_ri_1, ab_ri_2, ab_ri_3, ab_ri_4, ab_ri_5, ab_ri_6, ab_ri_7, ab_ri_8, ab_ri_12, ab_ri_30, ab_ri_60, ab_ri_100, ab_ri_101, ab_ri_127, ab_ri_m1, ab_ri_m2, ab_ri_m3, ab_ri_m4, ab_ri_m5, ab_ri_m11, ab_ri_m13, ab_ri_m14, ab_ri_10, ab_fd, N47, c1, Nat.reduceLeDiff]
      (repeat refine And.intro (by omega) ?_)
      refine s37_52 2 ⟨by decide, Or.inr ⟨rfl, Or.inl rfl⟩, ?_⟩
      have e := ab_fi_s (g := fun _ => (0 : Int)) (f := K) (a := 0) (i := i) i0 rfl
      simp only [ab_as, ab_hs_self, ab_hs_hs, i0, i6, true_and, and_true, true_implies, Option.toList_some, Option.toList_none, List.nil_append, List.cons_append, List.map_nil, List.map_cons, List.sum_nil, List.sum_cons, Nat.zero_le, ab_nl_n, ab_nl_i, ab_nl_r, ab_nl_0, ab_cat_i, ab_cat_r, ab_cat_l, Nat.reduceAdd, Nat.reduceLeDiff, Nat.add_zero, Nat.zero_add, reduceIte, List.getElem?_cons_succ, List.getElem?_cons_zero, List.length_cons, List.length_nil, List.set_cons_zero, List.set_cons_succ, true_or, or_true, Classical.not_not, not_true_eq_false, not_false_eq_true, ab_01r, ab_01z, ab_01n, false_implies, ab_tt, Nat.reduceLT, Nat.reduceEqDiff, Int.reduceNeg, Int.reduceLT, Int.reduceLE, Int.add_zero, Int.zero_add, List.append_nil, Int.reduceEq, ab_sum1, ab_ri_0, ab_ri_1, ab_ri_2, ab_ri_3, ab_ri_4, ab_ri_5, ab_ri_6, ab_ri_7, ab_ri_8, ab_ri_12, ab_ri_30, ab_ri_60, ab_ri_100, ab_ri_101, ab_ri_127, ab_ri_m1, ab_ri_m2, ab_ri_m3, ab_ri_m4, ab_ri_m5, ab_ri_m11, ab_ri_m13, ab_ri_m14, ab_ri_10, e, s37_53, s37_56, ih]
  have t0 := hT 0 (by decide) (by decide)
  have t1 := hT 1 (by decide) (by decide)
  have t3 := hT 3 (by decide) (by decide)
  have m0 := hL4 0 (by decide) (by decide)
  have m1 := hL4 1 (by decide) (by decide)
  have m3 := hL4 3 (by decide) (by decide)
  have g0 : (0 : Int) < ((4 : Nat) : Int) := by omega
  have g1 : (1 : Int) < ((4 : Nat) : Int) := by omega
  have g3 : (3 : Int) < ((4 : Nat) : Int) := by omega
  have g1' : (0 : Int) ≤ 1 := by omega
  have g3' : (0 : Int) ≤ 3 := by omega
  by_cases d0 : T 0 = L 0
  · by_cases d1 : T 1 = L 1
    · by_cases d3 : T 3 = L 3
      · have := c59 K (fun l' m0 m6 => (hK l' m0 m6).imp id (fun z => ⟨z.1, z.2, ab_swv_cg d0 d1 d3 z.2⟩)) none rfl
        rw [ab_hs_id s3] at this
        simp only [s37_0, s37_1, s37_4, s37_5, s37_6, s37_7, s37_8, s37_9, s37_12, s37_13, s37_16, s37_17, s37_18, s37_19, s37_20, s37_21, s37_24, s37_25, s37_28, s37_29, s37_30, s37_31, s37_32, s37_33, true_and, and_true, true_implies, Option.toList_some, Option.toList_none, List.nil_append, List.cons_append, List.map_nil, List.map_cons, List.sum_nil, List.sum_cons, Nat.zero_le, ab_nl_n, ab_nl_i, ab_nl_r, ab_nl_0, ab_cat_i, ab_cat_r, ab_cat_l, Nat.reduceAdd, Nat.reduceLeDiff, Nat.add_zero, Nat.zero_add, reduceIte, List.getElem?_cons_succ, List.getElem?_cons_zero, List.length_cons, List.length_nil, List.set_cons_zero, List.set_cons_succ, true_or, or_true, Classical.not_not, not_true_eq_false, not_false_eq_true, ab_01r, ab_01z, ab_01n, false_implies, ab_tt, Nat.reduceLT, Nat.reduceEqDiff, Int.reduceNeg, Int.reduceLT, Int.reduceLE, Int.add_zero, Int.zero_add, List.append_nil, Int.reduceEq, ab_sum1, ab_ri_0, ab_ri_1, ab_ri_2, ab_ri_3, ab_ri_4, ab_ri_5, ab_ri_6, ab_ri_7, ab_ri_8, ab_ri_12, ab_ri_30, ab_ri_60, ab_ri_100, ab_ri_101, ab_ri_127, ab_ri_m1, ab_ri_m2, ab_ri_m3, ab_ri_m4, ab_ri_m5, ab_ri_m11, ab_ri_m13, ab_ri_m14, ab_ri_10, ab_fd, ab_ai, s1, s4, h2, g0, g1, g3, g1', g3', d0, d1, d3, eq_true m0, eq_true m1, eq_true m3, Int.le_refl, Nat.reduceLeDiff, this]
      · simp only [s37_0, s37_1, s37_4, s37_5, s37_6, s37_7, s37_8, s37_9, s37_12, s37_13, s37_16, s37_17, s37_18, s37_19, s37_20, s37_21, s37_24, s37_25, s37_28, s37_29, s37_30, s37_31, s37_32, s37_33, true_and, and_true, true_implies, Option.toList_some, Option.toList_none, List.nil_append, List.cons_append, List.map_nil, List.map_cons, List.sum_nil, List.sum_cons, Nat.zero_le, ab_nl_n, ab_nl_i, ab_nl_r, ab_nl_0, ab_cat_i, ab_cat_r, ab_cat_l, Nat.reduceAdd, Nat.reduceLeDiff, Nat.add_zero, Nat.zero_add, reduceIte, List.getElem?_cons_succ, List.getElem?_cons_zero, List.length_cons, List.length_nil, List.set_cons_zero, List.set_cons_succ, true_or, or_true, Classical.not_not, not_true_eq_false, not_false_eq_true, ab_01r, ab_01z, ab_01n, false_implies, ab_tt, Nat.reduceLT, Nat.reduceEqDiff, Int.reduceNeg, Int.reduceLT, Int.reduceLE, Int.add_zero, Int.zero_add, List.append_nil, Int.reduceEq, ab_sum1, ab_ri_0, ab_ri_1, ab_ri_2, ab_ri_3, ab_ri_4, ab_ri_5, ab_ri_6, ab_ri_7, ab_ri_8, ab_ri_12, ab_ri_30, ab_ri_60, ab_ri_100, ab_ri_101, ab_ri_127, ab_ri_m1, ab_ri_m2, ab_ri_m3, ab_ri_m4, ab_ri_m5, ab_ri_m11, ab_ri_m13, ab_ri_m14, ab_ri_10, ab_fd, ab_ai, s1, s4, h2, g0, g1, g3, g1', g3', d0, d1, d3, eq_true m0, eq_true m1, eq_true m3, eq_true t3, Int.le_refl, Nat.reduceLeDiff, c36]
    · simp only [s37_0, s37_1, s37_4, s37_5, s37_6, s37_7, s37_8, s37_9, s37_12, s37_13, s37_16, s37_17, s37_18, s37_19, s37_20, s37_21, s37_24, s37_25, s37_28, s37_29, s37_30, s37_31, s37_32, s37_33, true_and, and_true, true_implies, Option.toList_some, Option.toList_none, List.nil_append, List.cons_append, List.map_nil, List.map_cons, List.sum_nil, List.sum_cons, Nat.zero_le, ab_nl_n, ab_nl_i, ab_nl_r, ab_nl_0, ab_cat_i, ab_cat_r, ab_cat_l, Nat.reduceAdd, Nat.reduceLeDiff, Nat.add_zero, Nat.zero_add, reduceIte, List.getElem?_cons_succ, List.getElem?_cons_zero, List.length_cons, List.length_nil, List.set_cons_zero, List.set_cons_succ, true_or, or_true, Classical.not_not, not_true_eq_false, not_false_eq_true, ab_01r, ab_01z, ab_01n, false_implies, ab_tt, Nat.reduceLT, Nat.reduceEqDiff, Int.reduceNeg, Int.reduceLT, Int.reduceLE, Int.add_zero, Int.zero_add, List.append_nil, Int.reduceEq, ab_sum1, ab_ri_0, ab_ri_1, ab_ri_2, ab_ri_3, ab_ri_4, ab_ri_5, ab_ri_6, ab_ri_7, ab_ri_8, ab_ri_12, ab_ri_30, ab_ri_60, ab_ri_100, ab_ri_101, ab_ri_127, ab_ri_m1, ab_ri_m2, ab_ri_m3, ab_ri_m4, ab_ri_m5, ab_ri_m11, ab_ri_m13, ab_ri_m14, ab_ri_10, ab_fd, ab_ai, s1, s4, h2, g0, g1, g3, g1', g3', d0, d1, eq_true m0, eq_true m1, eq_true t1, Int.le_refl, Nat.reduceLeDiff, c36]
  · simp only [s37_0, s37_1, s37_4, s37_5, s37_6, s37_7, s37_8, s37_9, s37_12, s37_13, s37_16, s37_17, s37_18, s37_19, s37_20, s37_21, s37_24, s37_25, s37_28, s37_29, s37_30, s37_31, s37_32, s37_33, true_and, and_true, true_implies, Option.toList_some, Option.toList_none, List.nil_append, List.cons_append, List.map_nil, List.map_cons, List.sum_nil, List.sum_cons, Nat.zero_le, ab_nl_n, ab_nl_i, ab_nl_r, ab_nl_0, ab_cat_i, ab_cat_r, ab_cat_l, Nat.reduceAdd, Nat.reduceLeDiff, Nat.add_zero, Nat.zero_add, reduceIte, List.getElem?_cons_succ, List.getElem?_cons_zero, List.length_cons, List.length_nil, List.set_cons_zero, List.set_cons_succ, true_or, or_true, Classical.not_not, not_true_eq_false, not_false_eq_true, ab_01r, ab_01z, ab_01n, false_implies, ab_tt, Nat.reduceLT, Nat.reduceEqDiff, Int.reduceNeg, Int.reduceLT, Int.reduceLE, Int.add_zero, Int.zero_add, List.append_nil, Int.reduceEq, ab_sum1, ab_ri_0, ab_ri_1, ab_ri_2, ab_ri_3, ab_ri_4, ab_ri_5, ab_ri_6, ab_ri_7, ab_ri_8, ab_ri_12, ab_ri_30, ab_ri_60, ab_ri_100, ab_ri_101, ab_ri_127, ab_ri_m1, ab_ri_m2, ab_ri_m3, ab_ri_m4, ab_ri_m5, ab_ri_m11, ab_ri_m13, ab_ri_m14, ab_ri_10, ab_fd, ab_ai, s1, s4, h2, g0, d0, eq_true m0, eq_true t0, Int.le_refl, Nat.reduceLeDiff, c36]
end SW2
