/-! ===== the model: terms read, whole ===== -/
theorem ab_en_eq {t : Int → Int} {s p a : Int} (h1 : p ≤ a) (h2 : a < s) (h3 : ∀ i, p ≤ i → i < a → t i ≠ 93) (h4 : t a = 93) : ab_en t s p = a := by
  have h := ab_en_ok (t := t) (s := s) (p := p) (by omega)
  obtain ⟨e1, e2, e3, e4⟩ := h
  by_cases c : ab_en t s p < a
  · exact absurd (e4 (by omega)) (h3 _ e1 c)
  · by_cases d : a < ab_en t s p
    · exact absurd h4 (e3 a h1 d)
    · omega
/-- a term that began at p has been read up to a -/
def ab_trd (t : Int → Int) (s p a m nu mc : Int) (g M0 M : Int → Int) : Prop := ab_pgd t s a ∧ ab_sts t a.toNat = 7 ∧ 0 ≤ p ∧ p + 2 ≤ a ∧ m + mc ≤ a ∧ 0 ≤ mc ∧ 2 * mc ≤ a - p ∧ 0 ≤ nu ∧ nu ≤ 99 ∧ ab_en t s p = a - 1 ∧ ab_nts t p (fun _ => 0) (a - 1 - p).toNat = (1, 1, nu, g, mc) ∧ (∀ j, 0 ≤ j → j < mc → M (m + j) = g j ∧ -5 ≤ g j ∧ g j ≤ 5) ∧ ∀ j, j < m → M j = M0 j
section MN
variable {h : ab_H} {n : Nat} {Q : ab_Q} {σ : Nat → Int} {a k m p nu mc : Int} {F G M g t : Int → Int}
theorem mp_readTerm (hp : ab_tpe h t (σ 8)) (hk : 0 ≤ k ∧ k ≤ 29) (hm : 0 ≤ m ∧ m ≤ a) (hy : ab_py t (σ 8) p a 0 (0, 1, 0, (fun _ => 0), 0))
    (q1 : ∀ a' nu g mc M', a + 2 ≤ a' → ab_trd t (σ 8) p a' m nu mc g M M' → Q (some (vi 1)) (ab_pz h σ a' (k + 1) (m + mc) (ab_ui F k (if nu = 0 then 1 else nu)) (ab_ui (ab_ui G k m) (k + 1) (m + mc)) M') n)
    (q2 : ∀ a' k m F G M, ab_pbd t (σ 8) a' → Q (some (vi 0)) (ab_pz h σ a' k m F G M) n) : ab_G 161 0 [some (vr 68)] [] (ab_pz h σ a k m F G M) n (0, 0) Q := by
  have hp' := hp
  obtain ⟨p1, p2, p3, p4⟩ := hp'
  have r1 : ab_inR 1 = True := eq_true (by omega)
  have r0 : ab_inR 0 = True := eq_true (by omega)
  have h91 : ab_inR 91 = True := eq_true (by omega)
  have h93 : ab_inR 93 = True := eq_true (by omega)
  have h32 : ab_inR 32 = True := eq_true (by omega)
  have k0 := hk.1
  have k31 : k < ((31 : Nat) : Int) := by omega
  have kk0 : 0 ≤ k + 1 := by omega
  have kk31 : k + 1 < ((31 : Nat) : Int) := by omega
  simp only [s161_0, s161_1, true_and, and_true, true_implies, Option.toList_some, Option.toList_none, List.nil_append, List.cons_append, List.map_nil, List.map_cons, List.sum_nil, List.sum_cons, Nat.zero_le, ab_nl_n, ab_nl_i, ab_nl_r, ab_nl_0, ab_cat_i, ab_cat_r, ab_cat_l, Nat.reduceAdd, Nat.reduceLeDiff, Nat.add_zero, Nat.zero_add, reduceIte, List.getElem?_cons_succ, List.getElem?_cons_zero, List.length_cons, List.length_nil, List.set_cons_zero, List.set_cons_succ, true_or, or_true, Classical.not_not, not_true_eq_false, not_false_eq_true, ab_01r, ab_01z, ab_01n, false_implies, ab_tt, Nat.reduceLT, Nat.reduceEqDiff, Int.reduceNeg, Int.reduceLT, Int.reduceLE, Int.add_zero, Int.zero_add, List.append_nil, Int.reduceEq, ab_sum1, ab_ri_0, ab_ri_1, ab_ri_2, ab_ri_3, ab_ri_4, ab_ri_5, ab_ri_6, ab_ri_7, ab_ri_8, ab_ri_12, ab_ri_30, ab_ri_60, ab_ri_100, ab_ri_101, ab_ri_127, ab_ri_m1, ab_ri_m2, ab_ri_m3, ab_ri_m4, ab_ri_m5, ab_ri_m11, ab_ri_m13, ab_ri_m14, ab_ri_10, ab_vc, ab_sv_12_200, ab_sv_12_194, ab_sv_12_194, ab_sv_12_203, ab_sv_12_194, ab_sv_12_194, ab_pz_68]
  refine mp_readNumber hp hk hy fun a1 nu st d1 nu0 nu99 hy1 hst hnx => ?_
  have f1 := hy1.1.1
  have f2 := hy1.1.2.1
  have p0 := hy1.2.2.1
  have pa := hy1.2.2.2.1
  simp only [s161_4, s161_5, s161_8, s161_9, s161_12, s161_13, s161_16, s161_17, s161_18, s161_20, true_and, and_true, true_implies, Option.toList_some, Option.toList_none, List.nil_append, List.cons_append, List.map_nil, List.map_cons, List.sum_nil, List.sum_cons, Nat.zero_le, ab_nl_n, ab_nl_i, ab_nl_r, ab_nl_0, ab_cat_i, ab_cat_r, ab_cat_l, Nat.reduceAdd, Nat.reduceLeDiff, Nat.add_zero, Nat.zero_add, reduceIte, List.getElem?_cons_succ, List.getElem?_cons_zero, List.length_cons, List.length_nil, List.set_cons_zero, List.set_cons_succ, true_or, or_true, Classical.not_not, not_true_eq_false, not_false_eq_true, ab_01r, ab_01z, ab_01n, false_implies, ab_tt, Nat.reduceLT, Nat.reduceEqDiff, Int.reduceNeg, Int.reduceLT, Int.reduceLE, Int.add_zero, Int.zero_add, List.append_nil, Int.reduceEq, ab_sum1, ab_ri_0, ab_ri_1, ab_ri_2, ab_ri_3, ab_ri_4, ab_ri_5, ab_ri_6, ab_ri_7, ab_ri_8, ab_ri_12, ab_ri_30, ab_ri_60, ab_ri_100, ab_ri_101, ab_ri_127, ab_ri_m1, ab_ri_m2, ab_ri_m3, ab_ri_m4, ab_ri_m5, ab_ri_m11, ab_ri_m13, ab_ri_m14, ab_ri_10, ab_fd, ab_fs, ab_ai, ab_as, ab_fit, ab_tyf, tyX12, ab_mg_0, ab_mg_1, ab_mg_2, ab_mg_3, ab_mg_4, ab_mg_5, ab_mg_6, ab_mg_7, ab_mg_8, ab_mg_9, ab_mg_10, ab_mg_11, ab_mg_12, ab_mg_13, ab_mg_14, ab_mg_15, ab_mg_16, ab_mg_17, ab_mg_18, ab_mg_19, ab_mg_20, ab_mg_21, ab_mg_22, ab_mg_23, ab_mg_24, ab_mg_25, ab_mg_26, ab_mg_27, ab_mg_28, ab_mg_29, ab_mg_30, ab_mg_31, ab_mg_32, ab_mg_33, ab_ms_8, ab_ms_10, ab_ms_11, ab_ms_17, ab_ms_21, ab_ms_22, ab_ms_24, ab_ms_25, ab_ms_26, ab_ms_29, ab_ms_32, ab_mol_l, Nat.reduceLT, Nat.reduceLeDiff, ab_vc, ab_sv_12_200, ab_sv_12_194, ab_sv_12_194, ab_sv_12_203, ab_sv_12_194, ab_sv_12_194, ab_pz_68, ab_pz_88, ab_ps_26, ab_ps_29, k0, k31, ab_pz_s88, h91]
  -- the end of it
  have tail : ∀ a2 g mc M2, a1 < a2 → ab_py t (σ 8) p a2 5 (1, 1, nu, g, mc) ∨ (ab_py t (σ 8) p a2 3 (1, 1, nu, g, mc) ∧ mc = 0) → a2 < σ 8 → t a2 = 93 → m + mc ≤ a2 → 0 ≤ mc → 2 * mc ≤ a2 - p → (∀ j, 0 ≤ j → j < mc → M2 (m + j) = g j ∧ -5 ≤ g j ∧ g j ≤ 5) → (∀ j, j < m → M2 j = M j) → ab_G 161 66 [some (vr 68)] [] (ab_pz h σ (a2 + 1) k (m + mc) (ab_ui F k (if nu = 0 then 1 else nu)) (ab_ui G k m) M2) n (0, 0) Q := by
    intro a2 g mc M2 b1 hy2 b2 b3 b4 b5 b6 b7 b8
    have hx : ∃ st, ab_py t (σ 8) p a2 st (1, 1, nu, g, mc) ∧ ab_nx st (t a2) = 7 := by
      rcases hy2 with hy2 | ⟨hy2, -⟩
      · exact ⟨5, hy2, by rw [b3]; rfl⟩
      · exact ⟨3, hy2, by rw [b3]; rfl⟩
    obtain ⟨st, hy2, hx⟩ := hx
    obtain ⟨g1, g2, g3, g4, g5, g6⟩ := hy2
    have s1 := ab_pgd_s g1 b2 (by rw [g2, hx]; decide)
    rw [g2, hx] at s1
    have q := q1 (a2 + 1) nu g mc M2 (by omega) ⟨s1.1, s1.2, p0, by omega, by omega, b5, by omega, nu0, nu99, by rw [ab_en_eq g4 b2 g5 b3]; omega, by rw [show a2 + 1 - 1 - p = a2 - p by omega]; exact g6, b7, b8⟩
    simp only [s161_66, s161_67, s161_68, s161_71, s161_72, s161_73, s161_76, s161_77, s161_80, s161_81, s161_84, s161_85, s161_88, s161_89, s161_90, true_and, and_true, true_implies, Option.toList_some, Option.toList_none, List.nil_append, List.cons_append, List.map_nil, List.map_cons, List.sum_nil, List.sum_cons, Nat.zero_le, ab_nl_n, ab_nl_i, ab_nl_r, ab_nl_0, ab_cat_i, ab_cat_r, ab_cat_l, Nat.reduceAdd, Nat.reduceLeDiff, Nat.add_zero, Nat.zero_add, reduceIte, List.getElem?_cons_succ, List.getElem?_cons_zero, List.length_cons, List.length_nil, List.set_cons_zero, List.set_cons_succ, true_or, or_true, Classical.not_not, not_true_eq_false, not_false_eq_true, ab_01r, ab_01z, ab_01n, false_implies, ab_tt, Nat.reduceLT, Nat.reduceEqDiff, Int.reduceNeg, Int.reduceLT, Int.reduceLE, Int.add_zero, Int.zero_add, List.append_nil, Int.reduceEq, ab_sum1, ab_ri_0, ab_ri_1, ab_ri_2, ab_ri_3, ab_ri_4, ab_ri_5, ab_ri_6, ab_ri_7, ab_ri_8, ab_ri_12, ab_ri_30, ab_ri_60, ab_ri_100, ab_ri_101, ab_ri_127, ab_ri_m1, ab_ri_m2, ab_ri_m3, ab_ri_m4, ab_ri_m5, ab_ri_m11, ab_ri_m13, ab_ri_m14, ab_ri_10, ab_fd, ab_fs, ab_ai, ab_as, ab_fit, ab_tyf, tyX12, ab_mg_0, ab_mg_1, ab_mg_2, ab_mg_3, ab_mg_4, ab_mg_5, ab_mg_6, ab_mg_7, ab_mg_8, ab_mg_9, ab_mg_10, ab_mg_11, ab_mg_12, ab_mg_13, ab_mg_14, ab_mg_15, ab_mg_16, ab_mg_17, ab_mg_18, ab_mg_19, ab_mg_20, ab_mg_21, ab_mg_22, ab_mg_23, ab_mg_24, ab_mg_25, ab_mg_26, ab_mg_27, ab_mg_28, ab_mg_29, ab_mg_30, ab_mg_31, ab_mg_32, ab_mg_33, ab_ms_8, ab_ms_10, ab_ms_11, ab_ms_17, ab_ms_21, ab_ms_22, ab_ms_24, ab_ms_25, ab_ms_26, ab_ms_29, ab_ms_32, ab_mol_l, Nat.reduceLT, Nat.reduceLeDiff, ab_pz_68, ab_pz_88, ab_ps_26, ab_ps_29, kk0, kk31, ab_pz_s26, ab_pz_s88, r1, q]
  -- modes, one behind the other
  have loop : ∀ (d : Nat) a2 st g mc M2, σ 8 - a2 ≤ d → a1 < a2 → ab_py t (σ 8) p a2 st (1, 1, nu, g, mc) → 0 ≤ mc → 2 * mc + 1 ≤ a2 - p → st ≠ 7 → (a2 < σ 8 → ab_nx st (t a2) = ab_mb (t a2)) → m + mc ≤ a2 → (∀ j, 0 ≤ j → j < mc → M2 (m + j) = g j ∧ -5 ≤ g j ∧ g j ≤ 5) → (∀ j, j < m → M2 j = M j) → ab_G 161 37 [some (vr 68)] [] (ab_pz h σ a2 k (m + mc) (ab_ui F k (if nu = 0 then 1 else nu)) (ab_ui G k m) M2) n (0, 0) Q := by
    intro d
    induction d with
    | zero =>
      intro a2 st g mc M2 hd b1 hy2 b2 b3 b4 b5 b6 b7 b8
      rw [s161_37]
      simp only [s161_38, true_and, and_true, true_implies, Option.toList_some, Option.toList_none, List.nil_append, List.cons_append, List.map_nil, List.map_cons, List.sum_nil, List.sum_cons, Nat.zero_le, ab_nl_n, ab_nl_i, ab_nl_r, ab_nl_0, ab_cat_i, ab_cat_r, ab_cat_l, Nat.reduceAdd, Nat.reduceLeDiff, Nat.add_zero, Nat.zero_add, reduceIte, List.getElem?_cons_succ, List.getElem?_cons_zero, List.length_cons, List.length_nil, List.set_cons_zero, List.set_cons_succ, true_or, or_true, Classical.not_not, not_true_eq_false, not_false_eq_true, ab_01r, ab_01z, ab_01n, false_implies, ab_tt, Nat.reduceLT, Nat.reduceEqDiff, Int.reduceNeg, Int.reduceLT, Int.reduceLE, Int.add_zero, Int.zero_add, List.append_nil, Int.reduceEq, ab_sum1, ab_ri_0, ab_ri_1, ab_ri_2, ab_ri_3, ab_ri_4, ab_ri_5, ab_ri_6, ab_ri_7, ab_ri_8, ab_ri_12, ab_ri_30, ab_ri_60, ab_ri_100, ab_ri_101, ab_ri_127, ab_ri_m1, ab_ri_m2, ab_ri_m3, ab_ri_m4, ab_ri_m5, ab_ri_m11, ab_ri_m13, ab_ri_m14, ab_ri_10, ab_vc, ab_sv_12_200, ab_sv_12_194, ab_sv_12_194, ab_sv_12_203, ab_sv_12_194, ab_sv_12_194, ab_pz_68]
      refine mp_readMode hp ⟨by omega, b6⟩ hy2 ⟨b2, b3⟩ b4 b5 (fun a3 x c1 c2 c3 c4 hy3 => ?_) (fun a3 hb => ?_)
      · have := hy3.1.2.1
        omega
      · have q := q2 a3 k (m + mc) (ab_ui F k (if nu = 0 then 1 else nu)) (ab_ui G k m) M2 hb
        simp only [s161_41, s161_44, s161_45, true_and, and_true, true_implies, Option.toList_some, Option.toList_none, List.nil_append, List.cons_append, List.map_nil, List.map_cons, List.sum_nil, List.sum_cons, Nat.zero_le, ab_nl_n, ab_nl_i, ab_nl_r, ab_nl_0, ab_cat_i, ab_cat_r, ab_cat_l, Nat.reduceAdd, Nat.reduceLeDiff, Nat.add_zero, Nat.zero_add, reduceIte, List.getElem?_cons_succ, List.getElem?_cons_zero, List.length_cons, List.length_nil, List.set_cons_zero, List.set_cons_succ, true_or, or_true, Classical.not_not, not_true_eq_false, not_false_eq_true, ab_01r, ab_01z, ab_01n, false_implies, ab_tt, Nat.reduceLT, Nat.reduceEqDiff, Int.reduceNeg, Int.reduceLT, Int.reduceLE, Int.add_zero, Int.zero_add, List.append_nil, Int.reduceEq, ab_sum1, ab_ri_0, ab_ri_1, ab_ri_2, ab_ri_3, ab_ri_4, ab_ri_5, ab_ri_6, ab_ri_7, ab_ri_8, ab_ri_12, ab_ri_30, ab_ri_60, ab_ri_100, ab_ri_101, ab_ri_127, ab_ri_m1, ab_ri_m2, ab_ri_m3, ab_ri_m4, ab_ri_m5, ab_ri_m11, ab_ri_m13, ab_ri_m14, ab_ri_10, r0, q]
    | succ d ih =>
      intro a2 st g mc M2 hd b1 hy2 b2 b3 b4 b5 b6 b7 b8
      rw [s161_37]
      simp only [s161_38, true_and, and_true, true_implies, Option.toList_some, Option.toList_none, List.nil_append, List.cons_append, List.map_nil, List.map_cons, List.sum_nil, List.sum_cons, Nat.zero_le, ab_nl_n, ab_nl_i, ab_nl_r, ab_nl_0, ab_cat_i, ab_cat_r, ab_cat_l, Nat.reduceAdd, Nat.reduceLeDiff, Nat.add_zero, Nat.zero_add, reduceIte, List.getElem?_cons_succ, List.getElem?_cons_zero, List.length_cons, List.length_nil, List.set_cons_zero, List.set_cons_succ, true_or, or_true, Classical.not_not, not_true_eq_false, not_false_eq_true, ab_01r, ab_01z, ab_01n, false_implies, ab_tt, Nat.reduceLT, Nat.reduceEqDiff, Int.reduceNeg, Int.reduceLT, Int.reduceLE, Int.add_zero, Int.zero_add, List.append_nil, Int.reduceEq, ab_sum1, ab_ri_0, ab_ri_1, ab_ri_2, ab_ri_3, ab_ri_4, ab_ri_5, ab_ri_6, ab_ri_7, ab_ri_8, ab_ri_12, ab_ri_30, ab_ri_60, ab_ri_100, ab_ri_101, ab_ri_127, ab_ri_m1, ab_ri_m2, ab_ri_m3, ab_ri_m4, ab_ri_m5, ab_ri_m11, ab_ri_m13, ab_ri_m14, ab_ri_10, ab_vc, ab_sv_12_200, ab_sv_12_194, ab_sv_12_194, ab_sv_12_203, ab_sv_12_194, ab_sv_12_194, ab_pz_68]
      refine mp_readMode hp ⟨by omega, b6⟩ hy2 ⟨b2, b3⟩ b4 b5 (fun a3 x c1 c2 c3 c4 hy3 => ?_) (fun a3 hb => ?_)
      · have f1 := hy3.1.1
        have f2 := hy3.1.2.1
        have b7' : ∀ j, 0 ≤ j → j < mc + 1 → ab_ui M2 (m + mc) x (m + j) = ab_ui g mc x j ∧ -5 ≤ ab_ui g mc x j ∧ ab_ui g mc x j ≤ 5 := by
          intro j j0 j1
          by_cases e : j = mc
          · rw [e, ab_ui_at, ab_ui_at]
            exact ⟨rfl, c3, c4⟩
          · rw [ab_ui_ne (by omega), ab_ui_ne e]
            exact b7 j j0 (by omega)
        have b8' : ∀ j, j < m → ab_ui M2 (m + mc) x j = M j := fun j j1 => by
          rw [ab_ui_ne (by omega)]
          exact b8 j j1
        rw [show m + mc + 1 = m + (mc + 1) by omega]
        simp only [s161_41, s161_46, s161_47, s161_49, true_and, and_true, true_implies, Option.toList_some, Option.toList_none, List.nil_append, List.cons_append, List.map_nil, List.map_cons, List.sum_nil, List.sum_cons, Nat.zero_le, ab_nl_n, ab_nl_i, ab_nl_r, ab_nl_0, ab_cat_i, ab_cat_r, ab_cat_l, Nat.reduceAdd, Nat.reduceLeDiff, Nat.add_zero, Nat.zero_add, reduceIte, List.getElem?_cons_succ, List.getElem?_cons_zero, List.length_cons, List.length_nil, List.set_cons_zero, List.set_cons_succ, true_or, or_true, Classical.not_not, not_true_eq_false, not_false_eq_true, ab_01r, ab_01z, ab_01n, false_implies, ab_tt, Nat.reduceLT, Nat.reduceEqDiff, Int.reduceNeg, Int.reduceLT, Int.reduceLE, Int.add_zero, Int.zero_add, List.append_nil, Int.reduceEq, ab_sum1, ab_ri_0, ab_ri_1, ab_ri_2, ab_ri_3, ab_ri_4, ab_ri_5, ab_ri_6, ab_ri_7, ab_ri_8, ab_ri_12, ab_ri_30, ab_ri_60, ab_ri_100, ab_ri_101, ab_ri_127, ab_ri_m1, ab_ri_m2, ab_ri_m3, ab_ri_m4, ab_ri_m5, ab_ri_m11, ab_ri_m13, ab_ri_m14, ab_ri_10, ab_vc, ab_sv_12_200, ab_sv_12_194, ab_sv_12_194, ab_sv_12_203, ab_sv_12_194, ab_sv_12_194, ab_pz_68, h32]
        refine mp_takes hp ⟨f1, f2⟩ (by decide) (fun e1 e2 => ?_) (fun e1 => ?_)
        · have hy4 := ab_py_s hy3 e1 (by rw [e2]; decide) (by omega)
          rw [e2] at hy4
          have hy4 : ab_py t (σ 8) p (a3 + 1) 6 (1, 1, nu, ab_ui g mc x, mc + 1) := hy4
          have ih := ih (a3 + 1) 6 _ (mc + 1) _ (by omega) (by omega) hy4 (by omega) (by omega) (by decide) (fun _ => rfl) (by omega) b7' b8'
          simp only [s161_52, true_and, and_true, true_implies, Option.toList_some, Option.toList_none, List.nil_append, List.cons_append, List.map_nil, List.map_cons, List.sum_nil, List.sum_cons, Nat.zero_le, ab_nl_n, ab_nl_i, ab_nl_r, ab_nl_0, ab_cat_i, ab_cat_r, ab_cat_l, Nat.reduceAdd, Nat.reduceLeDiff, Nat.add_zero, Nat.zero_add, reduceIte, List.getElem?_cons_succ, List.getElem?_cons_zero, List.length_cons, List.length_nil, List.set_cons_zero, List.set_cons_succ, true_or, or_true, Classical.not_not, not_true_eq_false, not_false_eq_true, ab_01r, ab_01z, ab_01n, false_implies, ab_tt, Nat.reduceLT, Nat.reduceEqDiff, Int.reduceNeg, Int.reduceLT, Int.reduceLE, Int.add_zero, Int.zero_add, List.append_nil, Int.reduceEq, ab_sum1, ab_ri_0, ab_ri_1, ab_ri_2, ab_ri_3, ab_ri_4, ab_ri_5, ab_ri_6, ab_ri_7, ab_ri_8, ab_ri_12, ab_ri_30, ab_ri_60, ab_ri_100, ab_ri_101, ab_ri_127, ab_ri_m1, ab_ri_m2, ab_ri_m3, ab_ri_m4, ab_ri_m5, ab_ri_m11, ab_ri_m13, ab_ri_m14, ab_ri_10, ih]
        · simp only [s161_52, s161_55, s161_56, s161_58, true_and, and_true, true_implies, Option.toList_some, Option.toList_none, List.nil_append, List.cons_append, List.map_nil, List.map_cons, List.sum_nil, List.sum_cons, Nat.zero_le, ab_nl_n, ab_nl_i, ab_nl_r, ab_nl_0, ab_cat_i, ab_cat_r, ab_cat_l, Nat.reduceAdd, Nat.reduceLeDiff, Nat.add_zero, Nat.zero_add, reduceIte, List.getElem?_cons_succ, List.getElem?_cons_zero, List.length_cons, List.length_nil, List.set_cons_zero, List.set_cons_succ, true_or, or_true, Classical.not_not, not_true_eq_false, not_false_eq_true, ab_01r, ab_01z, ab_01n, false_implies, ab_tt, Nat.reduceLT, Nat.reduceEqDiff, Int.reduceNeg, Int.reduceLT, Int.reduceLE, Int.add_zero, Int.zero_add, List.append_nil, Int.reduceEq, ab_sum1, ab_ri_0, ab_ri_1, ab_ri_2, ab_ri_3, ab_ri_4, ab_ri_5, ab_ri_6, ab_ri_7, ab_ri_8, ab_ri_12, ab_ri_30, ab_ri_60, ab_ri_100, ab_ri_101, ab_ri_127, ab_ri_m1, ab_ri_m2, ab_ri_m3, ab_ri_m4, ab_ri_m5, ab_ri_m11, ab_ri_m13, ab_ri_m14, ab_ri_10, ab_vc, ab_sv_12_200, ab_sv_12_194, ab_sv_12_194, ab_sv_12_203, ab_sv_12_194, ab_sv_12_194, ab_pz_68, h93]
          refine mp_takes hp ⟨f1, f2⟩ (by decide) (fun g1 g2 => ?_) (fun g1 => ?_)
          · have t := tail a3 _ (mc + 1) _ (by omega) (Or.inl hy3) g1 g2 (by omega) (by omega) c2 b7' b8'
            simp only [s161_61, true_and, and_true, true_implies, Option.toList_some, Option.toList_none, List.nil_append, List.cons_append, List.map_nil, List.map_cons, List.sum_nil, List.sum_cons, Nat.zero_le, ab_nl_n, ab_nl_i, ab_nl_r, ab_nl_0, ab_cat_i, ab_cat_r, ab_cat_l, Nat.reduceAdd, Nat.reduceLeDiff, Nat.add_zero, Nat.zero_add, reduceIte, List.getElem?_cons_succ, List.getElem?_cons_zero, List.length_cons, List.length_nil, List.set_cons_zero, List.set_cons_succ, true_or, or_true, Classical.not_not, not_true_eq_false, not_false_eq_true, ab_01r, ab_01z, ab_01n, false_implies, ab_tt, Nat.reduceLT, Nat.reduceEqDiff, Int.reduceNeg, Int.reduceLT, Int.reduceLE, Int.add_zero, Int.zero_add, List.append_nil, Int.reduceEq, ab_sum1, ab_ri_0, ab_ri_1, ab_ri_2, ab_ri_3, ab_ri_4, ab_ri_5, ab_ri_6, ab_ri_7, ab_ri_8, ab_ri_12, ab_ri_30, ab_ri_60, ab_ri_100, ab_ri_101, ab_ri_127, ab_ri_m1, ab_ri_m2, ab_ri_m3, ab_ri_m4, ab_ri_m5, ab_ri_m11, ab_ri_m13, ab_ri_m14, ab_ri_10, t]
          · have q := q2 a3 k (m + (mc + 1)) (ab_ui F k (if nu = 0 then 1 else nu)) (ab_ui G k m) (ab_ui M2 (m + mc) x) (ab_py_bad hy3 (by decide) (fun z => by
              rw [ab_nx_5, if_neg (e1 z), if_neg (g1 z)]
              decide))
            simp only [s161_61, s161_64, s161_65, true_and, and_true, true_implies, Option.toList_some, Option.toList_none, List.nil_append, List.cons_append, List.map_nil, List.map_cons, List.sum_nil, List.sum_cons, Nat.zero_le, ab_nl_n, ab_nl_i, ab_nl_r, ab_nl_0, ab_cat_i, ab_cat_r, ab_cat_l, Nat.reduceAdd, Nat.reduceLeDiff, Nat.add_zero, Nat.zero_add, reduceIte, List.getElem?_cons_succ, List.getElem?_cons_zero, List.length_cons, List.length_nil, List.set_cons_zero, List.set_cons_succ, true_or, or_true, Classical.not_not, not_true_eq_false, not_false_eq_true, ab_01r, ab_01z, ab_01n, false_implies, ab_tt, Nat.reduceLT, Nat.reduceEqDiff, Int.reduceNeg, Int.reduceLT, Int.reduceLE, Int.add_zero, Int.zero_add, List.append_nil, Int.reduceEq, ab_sum1, ab_ri_0, ab_ri_1, ab_ri_2, ab_ri_3, ab_ri_4, ab_ri_5, ab_ri_6, ab_ri_7, ab_ri_8, ab_ri_12, ab_ri_30, ab_ri_60, ab_ri_100, ab_ri_101, ab_ri_127, ab_ri_m1, ab_ri_m2, ab_ri_m3, ab_ri_m4, ab_ri_m5, ab_ri_m11, ab_ri_m13, ab_ri_m14, ab_ri_10, r0, q]
      · have q := q2 a3 k (m + mc) (ab_ui F k (if nu = 0 then 1 else nu)) (ab_ui G k m) M2 hb
        simp only [s161_41, s161_44, s161_45, true_and, and_true, true_implies, Option.toList_some, Option.toList_none, List.nil_append, List.cons_append, List.map_nil, List.map_cons, List.sum_nil, List.sum_cons, Nat.zero_le, ab_nl_n, ab_nl_i, ab_nl_r, ab_nl_0, ab_cat_i, ab_cat_r, ab_cat_l, Nat.reduceAdd, Nat.reduceLeDiff, Nat.add_zero, Nat.zero_add, reduceIte, List.getElem?_cons_succ, List.getElem?_cons_zero, List.length_cons, List.length_nil, List.set_cons_zero, List.set_cons_succ, true_or, or_true, Classical.not_not, not_true_eq_false, not_false_eq_true, ab_01r, ab_01z, ab_01n, false_implies, ab_tt, Nat.reduceLT, Nat.reduceEqDiff, Int.reduceNeg, Int.reduceLT, Int.reduceLE, Int.add_zero, Int.zero_add, List.append_nil, Int.reduceEq, ab_sum1, ab_ri_0, ab_ri_1, ab_ri_2, ab_ri_3, ab_ri_4, ab_ri_5, ab_ri_6, ab_ri_7, ab_ri_8, ab_ri_12, ab_ri_30, ab_ri_60, ab_ri_100, ab_ri_101, ab_ri_127, ab_ri_m1, ab_ri_m2, ab_ri_m3, ab_ri_m4, ab_ri_m5, ab_ri_m11, ab_ri_m13, ab_ri_m14, ab_ri_10, r0, q]
  refine mp_takes hp ⟨f1, f2⟩ (by decide) (fun c1 c2 => ?_) (fun c1 => ?_)
  · have nx3 : ab_nx st (t a1) = 3 := by rw [hnx c1, if_pos c2]
    have hy2 := ab_py_s hy1 c1 (by rw [nx3]; decide) (by omega)
    rw [nx3, c2] at hy2
    have hy2 : ab_py t (σ 8) p (a1 + 1) 3 (1, 1, nu, (fun _ => 0), 0) := hy2
    simp only [s161_23, s161_28, s161_29, s161_31, true_and, and_true, true_implies, Option.toList_some, Option.toList_none, List.nil_append, List.cons_append, List.map_nil, List.map_cons, List.sum_nil, List.sum_cons, Nat.zero_le, ab_nl_n, ab_nl_i, ab_nl_r, ab_nl_0, ab_cat_i, ab_cat_r, ab_cat_l, Nat.reduceAdd, Nat.reduceLeDiff, Nat.add_zero, Nat.zero_add, reduceIte, List.getElem?_cons_succ, List.getElem?_cons_zero, List.length_cons, List.length_nil, List.set_cons_zero, List.set_cons_succ, true_or, or_true, Classical.not_not, not_true_eq_false, not_false_eq_true, ab_01r, ab_01z, ab_01n, false_implies, ab_tt, Nat.reduceLT, Nat.reduceEqDiff, Int.reduceNeg, Int.reduceLT, Int.reduceLE, Int.add_zero, Int.zero_add, List.append_nil, Int.reduceEq, ab_sum1, ab_ri_0, ab_ri_1, ab_ri_2, ab_ri_3, ab_ri_4, ab_ri_5, ab_ri_6, ab_ri_7, ab_ri_8, ab_ri_12, ab_ri_30, ab_ri_60, ab_ri_100, ab_ri_101, ab_ri_127, ab_ri_m1, ab_ri_m2, ab_ri_m3, ab_ri_m4, ab_ri_m5, ab_ri_m11, ab_ri_m13, ab_ri_m14, ab_ri_10, ab_vc, ab_sv_12_200, ab_sv_12_194, ab_sv_12_194, ab_sv_12_203, ab_sv_12_194, ab_sv_12_194, ab_pz_68, h93]
    refine mp_takes hp ⟨by omega, by omega⟩ (by decide) (fun e1 e2 => ?_) (fun e1 => ?_)
    · have t := tail (a1 + 1) _ 0 M (by omega) (Or.inr ⟨hy2, rfl⟩) e1 e2 (by omega) (Int.le_refl 0) (by omega) (fun j j0 j1 => absurd j0 (by omega)) (fun j _ => rfl)
      rw [Int.add_zero] at t
      simp only [s161_34, true_and, and_true, true_implies, Option.toList_some, Option.toList_none, List.nil_append, List.cons_append, List.map_nil, List.map_cons, List.sum_nil, List.sum_cons, Nat.zero_le, ab_nl_n, ab_nl_i, ab_nl_r, ab_nl_0, ab_cat_i, ab_cat_r, ab_cat_l, Nat.reduceAdd, Nat.reduceLeDiff, Nat.add_zero, Nat.zero_add, reduceIte, List.getElem?_cons_succ, List.getElem?_cons_zero, List.length_cons, List.length_nil, List.set_cons_zero, List.set_cons_succ, true_or, or_true, Classical.not_not, not_true_eq_false, not_false_eq_true, ab_01r, ab_01z, ab_01n, false_implies, ab_tt, Nat.reduceLT, Nat.reduceEqDiff, Int.reduceNeg, Int.reduceLT, Int.reduceLE, Int.add_zero, Int.zero_add, List.append_nil, Int.reduceEq, ab_sum1, ab_ri_0, ab_ri_1, ab_ri_2, ab_ri_3, ab_ri_4, ab_ri_5, ab_ri_6, ab_ri_7, ab_ri_8, ab_ri_12, ab_ri_30, ab_ri_60, ab_ri_100, ab_ri_101, ab_ri_127, ab_ri_m1, ab_ri_m2, ab_ri_m3, ab_ri_m4, ab_ri_m5, ab_ri_m11, ab_ri_m13, ab_ri_m14, ab_ri_10, t]
    · have l := loop (σ 8 - (a1 + 1)).toNat (a1 + 1) 3 _ 0 M (by omega) (by omega) hy2 (Int.le_refl 0) (by omega) (by decide) (fun z => by rw [ab_nx_3, if_neg (e1 z)]) (by omega) (fun j j0 j1 => absurd j0 (by omega)) (fun j _ => rfl)
      rw [Int.add_zero] at l
      simp only [s161_34, true_and, and_true, true_implies, Option.toList_some, Option.toList_none, List.nil_append, List.cons_append, List.map_nil, List.map_cons, List.sum_nil, List.sum_cons, Nat.zero_le, ab_nl_n, ab_nl_i, ab_nl_r, ab_nl_0, ab_cat_i, ab_cat_r, ab_cat_l, Nat.reduceAdd, Nat.reduceLeDiff, Nat.add_zero, Nat.zero_add, reduceIte, List.getElem?_cons_succ, List.getElem?_cons_zero, List.length_cons, List.length_nil, List.set_cons_zero, List.set_cons_succ, true_or, or_true, Classical.not_not, not_true_eq_false, not_false_eq_true, ab_01r, ab_01z, ab_01n, false_implies, ab_tt, Nat.reduceLT, Nat.reduceEqDiff, Int.reduceNeg, Int.reduceLT, Int.reduceLE, Int.add_zero, Int.zero_add, List.append_nil, Int.reduceEq, ab_sum1, ab_ri_0, ab_ri_1, ab_ri_2, ab_ri_3, ab_ri_4, ab_ri_5, ab_ri_6, ab_ri_7, ab_ri_8, ab_ri_12, ab_ri_30, ab_ri_60, ab_ri_100, ab_ri_101, ab_ri_127, ab_ri_m1, ab_ri_m2, ab_ri_m3, ab_ri_m4, ab_ri_m5, ab_ri_m11, ab_ri_m13, ab_ri_m14, ab_ri_10, l]
  · have q := q2 a1 k m (ab_ui F k (if nu = 0 then 1 else nu)) (ab_ui G k m) M (ab_py_bad hy1 hst (fun z => by
      rw [hnx z, if_neg (c1 z)]
      decide))
    simp only [s161_23, s161_26, s161_27, true_and, and_true, true_implies, Option.toList_some, Option.toList_none, List.nil_append, List.cons_append, List.map_nil, List.map_cons, List.sum_nil, List.sum_cons, Nat.zero_le, ab_nl_n, ab_nl_i, ab_nl_r, ab_nl_0, ab_cat_i, ab_cat_r, ab_cat_l, Nat.reduceAdd, Nat.reduceLeDiff, Nat.add_zero, Nat.zero_add, reduceIte, List.getElem?_cons_succ, List.getElem?_cons_zero, List.length_cons, List.length_nil, List.set_cons_zero, List.set_cons_succ, true_or, or_true, Classical.not_not, not_true_eq_false, not_false_eq_true, ab_01r, ab_01z, ab_01n, false_implies, ab_tt, Nat.reduceLT, Nat.reduceEqDiff, Int.reduceNeg, Int.reduceLT, Int.reduceLE, Int.add_zero, Int.zero_add, List.append_nil, Int.reduceEq, ab_sum1, ab_ri_0, ab_ri_1, ab_ri_2, ab_ri_3, ab_ri_4, ab_ri_5, ab_ri_6, ab_ri_7, ab_ri_8, ab_ri_12, ab_ri_30, ab_ri_60, ab_ri_100, ab_ri_101, ab_ri_127, ab_ri_m1, ab_ri_m2, ab_ri_m3, ab_ri_m4, ab_ri_m5, ab_ri_m11, ab_ri_m13, ab_ri_m14, ab_ri_10, r0, q]
/-- where terms begin -/
def ab_pp (t : Int → Int) (s : Int) : Nat → Int
  | 0 => 0
  | i + 1 => ab_en t s (ab_pp t s i) + 1
def ab_tx (t : Int → Int) (s : Int) (i : Nat) : ab_TM := ab_tmz (ab_nts t (ab_pp t s i) (fun _ => 0) (ab_en t s (ab_pp t s i) - ab_pp t s i).toNat)
/-- term i lies at its place -/
def ab_tat (x : ab_TM) (F G M : Int → Int) (i : Int) : Prop := F i = x.1 ∧ 1 ≤ x.1 ∧ x.1 ≤ 99 ∧ 0 ≤ x.2.1 ∧ x.2.1 ≤ 30 ∧ G (i + 1) = G i + x.2.1 ∧ ∀ j, 0 ≤ j → j < x.2.1 → M (G i + j) = x.2.2 j ∧ -5 ≤ x.2.2 j ∧ x.2.2 j ≤ 5
theorem mp_readTerms (hmo : h 68 = some (ab_mo σ)) (h87 : h 87 = some (ab_ia 30 F)) (h88 : h 88 = some (ab_ia 31 G)) (h89 : h 89 = some (ab_ia 60 M)) (hp : ab_tpe h t (σ 8))
    (q1 : ∀ (k : Nat) a m F G M, 1 ≤ k → k ≤ 29 → 0 ≤ m → m ≤ 60 → ab_ft t 0 (σ 8).toNat = -1 → ab_pp t (σ 8) k = σ 8 → (∀ i : Nat, i < k → ab_pp t (σ 8) i < σ 8) → G k = m → (∀ i : Nat, i ≤ k → 0 ≤ G i ∧ G i ≤ m) → (∀ i : Nat, i < k → ab_tat (ab_tx t (σ 8) i) F G M i) → Q (some (vi 1)) (ab_pz h σ a k m F G M) n)
    (q2 : ∀ a k m F G M, 0 ≤ a → a ≤ 60 → ab_ft t 0 (σ 8).toNat = a → Q (some (vi 0)) (ab_pz h σ a k m F G M) n) : ab_G 162 0 [some (vr 68)] [] h n (0, 0) Q := by
  have hp' := hp
  obtain ⟨p1, p2, p3, p4⟩ := hp'
  have r1 : ab_inR 1 = True := eq_true (by omega)
  have r0 : ab_inR 0 = True := eq_true (by omega)
  have h43 : ab_inR 43 = True := eq_true (by omega)
  have sr : ab_inR (σ 8) = True := eq_true (by omega)
  have e0 : ab_hs h 68 (ab_mo (ab_su (ab_su (ab_su σ 25 0) 26 0) 29 0)) = ab_pz h σ 0 0 0 F G M := by
    unfold ab_pz
    rw [ab_hs_id h87, ab_hs_id h88, ab_hs_id h89]
    rfl
  have bad : ∀ a' k m F G M, ab_pbd t (σ 8) a' → Q (some (vi 0)) (ab_pz h σ a' k m F G M) n := fun a' k m F G M hb => q2 a' k m F G M hb.1.1 (by have := hb.1.2.1; omega) (ab_pbd_ft hb)
  have loop : ∀ (d : Nat) (k : Nat) a m F G M, σ 8 - a ≤ d → 3 * k ≤ a → 0 ≤ m → m ≤ a → ab_py t (σ 8) (ab_pp t (σ 8) k) a 0 (0, 1, 0, (fun _ => 0), 0) → (∀ i : Nat, i < k → ab_pp t (σ 8) i < σ 8) → (0 < k → G k = m) → (∀ i : Nat, i < k → 0 ≤ G i ∧ G i ≤ m) → (∀ i : Nat, i < k → ab_tat (ab_tx t (σ 8) i) F G M i) → ab_G 162 15 [some (vr 68)] [] (ab_pz h σ a k m F G M) n (0, 0) Q := by
    intro d
    induction d with
    | zero =>
      intro k a m F G M hd hk m0 ma hy hlt hG hGi hat
      have f1 := hy.1.1
      have f2 := hy.1.2.1
      rw [s162_15]
      simp only [s162_16, true_and, and_true, true_implies, Option.toList_some, Option.toList_none, List.nil_append, List.cons_append, List.map_nil, List.map_cons, List.sum_nil, List.sum_cons, Nat.zero_le, ab_nl_n, ab_nl_i, ab_nl_r, ab_nl_0, ab_cat_i, ab_cat_r, ab_cat_l, Nat.reduceAdd, Nat.reduceLeDiff, Nat.add_zero, Nat.zero_add, reduceIte, List.getElem?_cons_succ, List.getElem?_cons_zero, List.length_cons, List.length_nil, List.set_cons_zero, List.set_cons_succ, true_or, or_true, Classical.not_not, not_true_eq_false, not_false_eq_true, ab_01r, ab_01z, ab_01n, false_implies, ab_tt, Nat.reduceLT, Nat.reduceEqDiff, Int.reduceNeg, Int.reduceLT, Int.reduceLE, Int.add_zero, Int.zero_add, List.append_nil, Int.reduceEq, ab_sum1, ab_ri_0, ab_ri_1, ab_ri_2, ab_ri_3, ab_ri_4, ab_ri_5, ab_ri_6, ab_ri_7, ab_ri_8, ab_ri_12, ab_ri_30, ab_ri_60, ab_ri_100, ab_ri_101, ab_ri_127, ab_ri_m1, ab_ri_m2, ab_ri_m3, ab_ri_m4, ab_ri_m5, ab_ri_m11, ab_ri_m13, ab_ri_m14, ab_ri_10, ab_vc, ab_sv_12_207, ab_sv_12_194, ab_pz_68]
      refine mp_readTerm hp ⟨by omega, by omega⟩ ⟨m0, ma⟩ hy (fun a' nu g mc M' c1 c2 => ?_) (fun a' k m F G M hb => ?_)
      · have := c2.1.2.1
        omega
      · have q := bad a' k m F G M hb
        simp only [s162_19, s162_22, s162_23, true_and, and_true, true_implies, Option.toList_some, Option.toList_none, List.nil_append, List.cons_append, List.map_nil, List.map_cons, List.sum_nil, List.sum_cons, Nat.zero_le, ab_nl_n, ab_nl_i, ab_nl_r, ab_nl_0, ab_cat_i, ab_cat_r, ab_cat_l, Nat.reduceAdd, Nat.reduceLeDiff, Nat.add_zero, Nat.zero_add, reduceIte, List.getElem?_cons_succ, List.getElem?_cons_zero, List.length_cons, List.length_nil, List.set_cons_zero, List.set_cons_succ, true_or, or_true, Classical.not_not, not_true_eq_false, not_false_eq_true, ab_01r, ab_01z, ab_01n, false_implies, ab_tt, Nat.reduceLT, Nat.reduceEqDiff, Int.reduceNeg, Int.reduceLT, Int.reduceLE, Int.add_zero, Int.zero_add, List.append_nil, Int.reduceEq, ab_sum1, ab_ri_0, ab_ri_1, ab_ri_2, ab_ri_3, ab_ri_4, ab_ri_5, ab_ri_6, ab_ri_7, ab_ri_8, ab_ri_12, ab_ri_30, ab_ri_60, ab_ri_100, ab_ri_101, ab_ri_127, ab_ri_m1, ab_ri_m2, ab_ri_m3, ab_ri_m4, ab_ri_m5, ab_ri_m11, ab_ri_m13, ab_ri_m14, ab_ri_10, r0, q]
    | succ d ih =>
      intro k a m F G M hd hk m0 ma hy hlt hG hGi hat
      have f1 := hy.1.1
      have f2 := hy.1.2.1
      have f3 := hy.2.2.1
      have f4 := hy.2.2.2.1
      rw [s162_15]
      simp only [s162_16, true_and, and_true, true_implies, Option.toList_some, Option.toList_none, List.nil_append, List.cons_append, List.map_nil, List.map_cons, List.sum_nil, List.sum_cons, Nat.zero_le, ab_nl_n, ab_nl_i, ab_nl_r, ab_nl_0, ab_cat_i, ab_cat_r, ab_cat_l, Nat.reduceAdd, Nat.reduceLeDiff, Nat.add_zero, Nat.zero_add, reduceIte, List.getElem?_cons_succ, List.getElem?_cons_zero, List.length_cons, List.length_nil, List.set_cons_zero, List.set_cons_succ, true_or, or_true, Classical.not_not, not_true_eq_false, not_false_eq_true, ab_01r, ab_01z, ab_01n, false_implies, ab_tt, Nat.reduceLT, Nat.reduceEqDiff, Int.reduceNeg, Int.reduceLT, Int.reduceLE, Int.add_zero, Int.zero_add, List.append_nil, Int.reduceEq, ab_sum1, ab_ri_0, ab_ri_1, ab_ri_2, ab_ri_3, ab_ri_4, ab_ri_5, ab_ri_6, ab_ri_7, ab_ri_8, ab_ri_12, ab_ri_30, ab_ri_60, ab_ri_100, ab_ri_101, ab_ri_127, ab_ri_m1, ab_ri_m2, ab_ri_m3, ab_ri_m4, ab_ri_m5, ab_ri_m11, ab_ri_m13, ab_ri_m14, ab_ri_10, ab_vc, ab_sv_12_207, ab_sv_12_194, ab_pz_68]
      refine mp_readTerm hp ⟨by omega, by omega⟩ ⟨m0, ma⟩ hy (fun a' nu g mc M' c1 c2 => ?_) (fun a' k m F G M hb => ?_)
      · obtain ⟨d1, d2, d3, d4, d5, d6, d6', d7, d8, d9, d10, d11, d12⟩ := c2
        have g1 := d1.1
        have g2 := d1.2.1
        -- what is known now
        have epp : ab_pp t (σ 8) (k + 1) = a' := by
          rw [ab_pp, d9]; omega
        have hlt' : ∀ i : Nat, i < k + 1 → ab_pp t (σ 8) i < σ 8 := fun i hi => by
          by_cases e : i = k
          · rw [e]; omega
          · exact hlt i (by omega)
        have etx : ab_tx t (σ 8) k = (if nu = 0 then 1 else nu, mc, g) := by
          unfold ab_tx
          rw [d9, d10]
          rfl
        have eG : ∀ i : Nat, i < k → ab_ui (ab_ui G k m) (k + 1) (m + mc) i = G i := fun i hi => by
          rw [ab_ui_ne (by omega), ab_ui_ne (by omega)]
        have eGk : ab_ui (ab_ui G k m) (k + 1) (m + mc) k = m := by
          rw [ab_ui_ne (by omega), ab_ui_at]
        have hG' : ab_ui (ab_ui G k m) (k + 1) (m + mc) ((k + 1 : Nat) : Int) = m + mc := ab_ui_at
        have hGi' : ∀ i : Nat, i < k + 1 → 0 ≤ ab_ui (ab_ui G k m) (k + 1) (m + mc) i ∧ ab_ui (ab_ui G k m) (k + 1) (m + mc) i ≤ m + mc := fun i hi => by
          by_cases e : i = k
          · rw [e, eGk]; omega
          · rw [eG i (by omega)]
            have := hGi i (by omega)
            omega
        have hat' : ∀ i : Nat, i < k + 1 → ab_tat (ab_tx t (σ 8) i) (ab_ui F k (if nu = 0 then 1 else nu)) (ab_ui (ab_ui G k m) (k + 1) (m + mc)) M' i := fun i hi => by
          by_cases e : i = k
          · rw [e, etx]
            refine ⟨ab_ui_at, ?_, ?_, d6, by show mc ≤ 30; omega, ?_, fun j j0 j1 => ?_⟩
            · show 1 ≤ if nu = 0 then 1 else nu
              split <;> omega
            · show (if nu = 0 then 1 else nu) ≤ 99
              split <;> omega
            · rw [eGk]
              exact ab_ui_at
            · rw [eGk]
              exact d11 j j0 j1
          · have hi' : i < k := by omega
            obtain ⟨a1, a2, a3, a4, a5, a6, a7⟩ := hat i hi'
            refine ⟨by rw [ab_ui_ne (by omega)]; exact a1, a2, a3, a4, a5, ?_, fun j j0 j1 => ?_⟩
            · rw [eG i hi']
              by_cases e2 : i + 1 = k
              · have e3 : (i : Int) + 1 = k := by omega
                rw [e3, eGk, ← hG (by omega), ← e3]
                exact a6
              · rw [show (i : Int) + 1 = ((i + 1 : Nat) : Int) by omega, eG (i + 1) (by omega)]
                exact a6
            · rw [eG i hi']
              have b2 : G i + (ab_tx t (σ 8) i).2.1 ≤ m := by
                rw [← a6]
                by_cases e2 : i + 1 = k
                · have e3 : (i : Int) + 1 = k := by omega
                  rw [e3, hG (by omega)]
                  omega
                · exact (hGi (i + 1) (by omega)).2
              rw [d12 _ (by omega)]
              exact a7 j j0 j1
        simp only [s162_19, s162_24, s162_25, s162_27, true_and, and_true, true_implies, Option.toList_some, Option.toList_none, List.nil_append, List.cons_append, List.map_nil, List.map_cons, List.sum_nil, List.sum_cons, Nat.zero_le, ab_nl_n, ab_nl_i, ab_nl_r, ab_nl_0, ab_cat_i, ab_cat_r, ab_cat_l, Nat.reduceAdd, Nat.reduceLeDiff, Nat.add_zero, Nat.zero_add, reduceIte, List.getElem?_cons_succ, List.getElem?_cons_zero, List.length_cons, List.length_nil, List.set_cons_zero, List.set_cons_succ, true_or, or_true, Classical.not_not, not_true_eq_false, not_false_eq_true, ab_01r, ab_01z, ab_01n, false_implies, ab_tt, Nat.reduceLT, Nat.reduceEqDiff, Int.reduceNeg, Int.reduceLT, Int.reduceLE, Int.add_zero, Int.zero_add, List.append_nil, Int.reduceEq, ab_sum1, ab_ri_0, ab_ri_1, ab_ri_2, ab_ri_3, ab_ri_4, ab_ri_5, ab_ri_6, ab_ri_7, ab_ri_8, ab_ri_12, ab_ri_30, ab_ri_60, ab_ri_100, ab_ri_101, ab_ri_127, ab_ri_m1, ab_ri_m2, ab_ri_m3, ab_ri_m4, ab_ri_m5, ab_ri_m11, ab_ri_m13, ab_ri_m14, ab_ri_10, ab_vc, ab_sv_12_207, ab_sv_12_194, ab_pz_68, h43]
        refine mp_takes hp ⟨g1, g2⟩ (by decide) (fun e1 e2 => ?_) (fun e1 => ?_)
        · have hs := ab_pgd_s d1 e1 (by rw [d2, e2]; decide)
          rw [d2, e2] at hs
          have ih := ih (k + 1) (a' + 1) (m + mc) _ _ M' (by omega) (by omega) (by omega) (by omega) ⟨hs.1, hs.2, by omega, by omega, fun i i0 i1 => by
            rw [show i = a' by omega, e2]
            decide, by rw [epp, show (a' + 1 - a').toNat = 0 + 1 by omega, ab_nts, ab_nts, show a' + ((0 : Nat) : Int) = a' by omega, e2]; rfl⟩ hlt' (fun _ => hG') hGi' hat'
          simp only [s162_30, true_and, and_true, true_implies, Option.toList_some, Option.toList_none, List.nil_append, List.cons_append, List.map_nil, List.map_cons, List.sum_nil, List.sum_cons, Nat.zero_le, ab_nl_n, ab_nl_i, ab_nl_r, ab_nl_0, ab_cat_i, ab_cat_r, ab_cat_l, Nat.reduceAdd, Nat.reduceLeDiff, Nat.add_zero, Nat.zero_add, reduceIte, List.getElem?_cons_succ, List.getElem?_cons_zero, List.length_cons, List.length_nil, List.set_cons_zero, List.set_cons_succ, true_or, or_true, Classical.not_not, not_true_eq_false, not_false_eq_true, ab_01r, ab_01z, ab_01n, false_implies, ab_tt, Nat.reduceLT, Nat.reduceEqDiff, Int.reduceNeg, Int.reduceLT, Int.reduceLE, Int.add_zero, Int.zero_add, List.append_nil, Int.reduceEq, ab_sum1, ab_ri_0, ab_ri_1, ab_ri_2, ab_ri_3, ab_ri_4, ab_ri_5, ab_ri_6, ab_ri_7, ab_ri_8, ab_ri_12, ab_ri_30, ab_ri_60, ab_ri_100, ab_ri_101, ab_ri_127, ab_ri_m1, ab_ri_m2, ab_ri_m3, ab_ri_m4, ab_ri_m5, ab_ri_m11, ab_ri_m13, ab_ri_m14, ab_ri_10]
          exact ih
        · by_cases c : a' = σ 8
          · have q := q1 (k + 1) a' (m + mc) _ _ M' (by omega) (by omega) (by omega) (by omega) (ab_pgd_ft (by rw [c] at d1; exact d1) (by rw [c] at d2; exact d2)) (by rw [epp]; exact c) hlt' hG' (fun i hi => by
              by_cases e : i = k + 1
              · rw [e, hG']; omega
              · exact hGi' i (by omega)) hat'
            have ct : (a' = σ 8) = True := eq_true c
            have q : Q (some (vi 1)) (ab_pz h σ a' (k + 1) (m + mc) (ab_ui F k (if nu = 0 then 1 else nu)) (ab_ui (ab_ui G k m) (k + 1) (m + mc)) M') n := q
            have ar : ab_inR a' = True := eq_true (by omega)
            simp only [s162_30, s162_33, s162_34, s162_37, s162_38, s162_41, s162_44, s162_45, s162_48, s162_49, true_and, and_true, true_implies, Option.toList_some, Option.toList_none, List.nil_append, List.cons_append, List.map_nil, List.map_cons, List.sum_nil, List.sum_cons, Nat.zero_le, ab_nl_n, ab_nl_i, ab_nl_r, ab_nl_0, ab_cat_i, ab_cat_r, ab_cat_l, Nat.reduceAdd, Nat.reduceLeDiff, Nat.add_zero, Nat.zero_add, reduceIte, List.getElem?_cons_succ, List.getElem?_cons_zero, List.length_cons, List.length_nil, List.set_cons_zero, List.set_cons_succ, true_or, or_true, Classical.not_not, not_true_eq_false, not_false_eq_true, ab_01r, ab_01z, ab_01n, false_implies, ab_tt, Nat.reduceLT, Nat.reduceEqDiff, Int.reduceNeg, Int.reduceLT, Int.reduceLE, Int.add_zero, Int.zero_add, List.append_nil, Int.reduceEq, ab_sum1, ab_ri_0, ab_ri_1, ab_ri_2, ab_ri_3, ab_ri_4, ab_ri_5, ab_ri_6, ab_ri_7, ab_ri_8, ab_ri_12, ab_ri_30, ab_ri_60, ab_ri_100, ab_ri_101, ab_ri_127, ab_ri_m1, ab_ri_m2, ab_ri_m3, ab_ri_m4, ab_ri_m5, ab_ri_m11, ab_ri_m13, ab_ri_m14, ab_ri_10, ab_fd, ab_fs, ab_ai, ab_as, ab_fit, ab_tyf, tyX12, ab_mg_0, ab_mg_1, ab_mg_2, ab_mg_3, ab_mg_4, ab_mg_5, ab_mg_6, ab_mg_7, ab_mg_8, ab_mg_9, ab_mg_10, ab_mg_11, ab_mg_12, ab_mg_13, ab_mg_14, ab_mg_15, ab_mg_16, ab_mg_17, ab_mg_18, ab_mg_19, ab_mg_20, ab_mg_21, ab_mg_22, ab_mg_23, ab_mg_24, ab_mg_25, ab_mg_26, ab_mg_27, ab_mg_28, ab_mg_29, ab_mg_30, ab_mg_31, ab_mg_32, ab_mg_33, ab_ms_8, ab_ms_10, ab_ms_11, ab_ms_17, ab_ms_21, ab_ms_22, ab_ms_24, ab_ms_25, ab_ms_26, ab_ms_29, ab_ms_32, ab_mol_l, Nat.reduceLT, Nat.reduceLeDiff, ab_pz_68, ab_ps_25, ab_ps_8, ar, sr, ct, r1, not_true_eq_false, Ne]
            exact q
          · have q := bad a' (k + 1) (m + mc) (ab_ui F k (if nu = 0 then 1 else nu)) (ab_ui (ab_ui G k m) (k + 1) (m + mc)) M' ⟨d1, Or.inr ⟨by omega, by
              rw [d2, ab_nx_7, if_neg (e1 (by omega))]
              decide⟩⟩
            have ct : (a' = σ 8) = False := eq_false c
            have ar : ab_inR a' = True := eq_true (by omega)
            simp only [s162_30, s162_33, s162_34, s162_37, s162_38, s162_41, s162_44, s162_45, s162_48, s162_49, true_and, and_true, true_implies, Option.toList_some, Option.toList_none, List.nil_append, List.cons_append, List.map_nil, List.map_cons, List.sum_nil, List.sum_cons, Nat.zero_le, ab_nl_n, ab_nl_i, ab_nl_r, ab_nl_0, ab_cat_i, ab_cat_r, ab_cat_l, Nat.reduceAdd, Nat.reduceLeDiff, Nat.add_zero, Nat.zero_add, reduceIte, List.getElem?_cons_succ, List.getElem?_cons_zero, List.length_cons, List.length_nil, List.set_cons_zero, List.set_cons_succ, true_or, or_true, Classical.not_not, not_true_eq_false, not_false_eq_true, ab_01r, ab_01z, ab_01n, false_implies, ab_tt, Nat.reduceLT, Nat.reduceEqDiff, Int.reduceNeg, Int.reduceLT, Int.reduceLE, Int.add_zero, Int.zero_add, List.append_nil, Int.reduceEq, ab_sum1, ab_ri_0, ab_ri_1, ab_ri_2, ab_ri_3, ab_ri_4, ab_ri_5, ab_ri_6, ab_ri_7, ab_ri_8, ab_ri_12, ab_ri_30, ab_ri_60, ab_ri_100, ab_ri_101, ab_ri_127, ab_ri_m1, ab_ri_m2, ab_ri_m3, ab_ri_m4, ab_ri_m5, ab_ri_m11, ab_ri_m13, ab_ri_m14, ab_ri_10, ab_fd, ab_fs, ab_ai, ab_as, ab_fit, ab_tyf, tyX12, ab_mg_0, ab_mg_1, ab_mg_2, ab_mg_3, ab_mg_4, ab_mg_5, ab_mg_6, ab_mg_7, ab_mg_8, ab_mg_9, ab_mg_10, ab_mg_11, ab_mg_12, ab_mg_13, ab_mg_14, ab_mg_15, ab_mg_16, ab_mg_17, ab_mg_18, ab_mg_19, ab_mg_20, ab_mg_21, ab_mg_22, ab_mg_23, ab_mg_24, ab_mg_25, ab_mg_26, ab_mg_27, ab_mg_28, ab_mg_29, ab_mg_30, ab_mg_31, ab_mg_32, ab_mg_33, ab_ms_8, ab_ms_10, ab_ms_11, ab_ms_17, ab_ms_21, ab_ms_22, ab_ms_24, ab_ms_25, ab_ms_26, ab_ms_29, ab_ms_32, ab_mol_l, Nat.reduceLT, Nat.reduceLeDiff, ab_pz_68, ab_ps_25, ab_ps_8, ar, sr, ct, r0, q, Ne]
      · have q := bad a' k m F G M hb
        simp only [s162_19, s162_22, s162_23, true_and, and_true, true_implies, Option.toList_some, Option.toList_none, List.nil_append, List.cons_append, List.map_nil, List.map_cons, List.sum_nil, List.sum_cons, Nat.zero_le, ab_nl_n, ab_nl_i, ab_nl_r, ab_nl_0, ab_cat_i, ab_cat_r, ab_cat_l, Nat.reduceAdd, Nat.reduceLeDiff, Nat.add_zero, Nat.zero_add, reduceIte, List.getElem?_cons_succ, List.getElem?_cons_zero, List.length_cons, List.length_nil, List.set_cons_zero, List.set_cons_succ, true_or, or_true, Classical.not_not, not_true_eq_false, not_false_eq_true, ab_01r, ab_01z, ab_01n, false_implies, ab_tt, Nat.reduceLT, Nat.reduceEqDiff, Int.reduceNeg, Int.reduceLT, Int.reduceLE, Int.add_zero, Int.zero_add, List.append_nil, Int.reduceEq, ab_sum1, ab_ri_0, ab_ri_1, ab_ri_2, ab_ri_3, ab_ri_4, ab_ri_5, ab_ri_6, ab_ri_7, ab_ri_8, ab_ri_12, ab_ri_30, ab_ri_60, ab_ri_100, ab_ri_101, ab_ri_127, ab_ri_m1, ab_ri_m2, ab_ri_m3, ab_ri_m4, ab_ri_m5, ab_ri_m11, ab_ri_m13, ab_ri_m14, ab_ri_10, r0, q]
  have l := loop (σ 8).toNat 0 0 0 F G M (by omega) (by decide) (by decide) (by decide) ⟨⟨Int.le_refl 0, p2, fun j j0 => absurd j0 (by omega)⟩, rfl, Int.le_refl 0, Int.le_refl 0, fun i (i0 : (0 : Int) ≤ i) (i1 : i < 0) => absurd i0 (by omega), rfl⟩ (fun i hi => absurd hi (by omega)) (fun h => absurd h (by decide)) (fun i hi => absurd hi (by omega)) (fun i hi => absurd hi (by omega))
  have l : ab_G 162 15 [some (vr 68)] [] (ab_pz h σ 0 0 0 F G M) n (0, 0) Q := l
  simp only [s162_0, s162_1, s162_2, s162_5, s162_6, s162_7, s162_10, s162_11, s162_12, true_and, and_true, true_implies, Option.toList_some, Option.toList_none, List.nil_append, List.cons_append, List.map_nil, List.map_cons, List.sum_nil, List.sum_cons, Nat.zero_le, ab_nl_n, ab_nl_i, ab_nl_r, ab_nl_0, ab_cat_i, ab_cat_r, ab_cat_l, Nat.reduceAdd, Nat.reduceLeDiff, Nat.add_zero, Nat.zero_add, reduceIte, List.getElem?_cons_succ, List.getElem?_cons_zero, List.length_cons, List.length_nil, List.set_cons_zero, List.set_cons_succ, true_or, or_true, Classical.not_not, not_true_eq_false, not_false_eq_true, ab_01r, ab_01z, ab_01n, false_implies, ab_tt, Nat.reduceLT, Nat.reduceEqDiff, Int.reduceNeg, Int.reduceLT, Int.reduceLE, Int.add_zero, Int.zero_add, List.append_nil, Int.reduceEq, ab_sum1, ab_ri_0, ab_ri_1, ab_ri_2, ab_ri_3, ab_ri_4, ab_ri_5, ab_ri_6, ab_ri_7, ab_ri_8, ab_ri_12, ab_ri_30, ab_ri_60, ab_ri_100, ab_ri_101, ab_ri_127, ab_ri_m1, ab_ri_m2, ab_ri_m3, ab_ri_m4, ab_ri_m5, ab_ri_m11, ab_ri_m13, ab_ri_m14, ab_ri_10, ab_fd, ab_fs, ab_ai, ab_as, ab_fit, ab_tyf, tyX12, ab_mg_0, ab_mg_1, ab_mg_2, ab_mg_3, ab_mg_4, ab_mg_5, ab_mg_6, ab_mg_7, ab_mg_8, ab_mg_9, ab_mg_10, ab_mg_11, ab_mg_12, ab_mg_13, ab_mg_14, ab_mg_15, ab_mg_16, ab_mg_17, ab_mg_18, ab_mg_19, ab_mg_20, ab_mg_21, ab_mg_22, ab_mg_23, ab_mg_24, ab_mg_25, ab_mg_26, ab_mg_27, ab_mg_28, ab_mg_29, ab_mg_30, ab_mg_31, ab_mg_32, ab_mg_33, ab_ms_8, ab_ms_10, ab_ms_11, ab_ms_17, ab_ms_21, ab_ms_22, ab_ms_24, ab_ms_25, ab_ms_26, ab_ms_29, ab_ms_32, ab_mol_l, Nat.reduceLT, Nat.reduceLeDiff, hmo, ab_hs_self, ab_hs_hs, r0, e0, l]
end MN
