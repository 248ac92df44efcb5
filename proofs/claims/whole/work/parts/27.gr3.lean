/-! ===== Grid: reduce ===== -/
def ab_rdx (R C k : Int) (z : (Int → Int → Int) × (Int → Int) × Int × Int) : (Int → Int → Int) × (Int → Int) × Int × Int :=
  if ab_pv z.1 k z.2.2.1 (R - z.2.2.1).toNat < 0 then (z.1, ab_ui z.2.1 k (-1), z.2.2.1, 0)
  else if ab_pv z.1 k z.2.2.1 (R - z.2.2.1).toNat = z.2.2.1 then
    (ab_cl (ab_mw z.1 z.2.2.1 (ab_inv (z.1 z.2.2.1 k)) C) k z.2.2.1 C R.toNat, ab_ui z.2.1 k z.2.2.1, z.2.2.1 + 1, z.2.2.2 * z.1 z.2.2.1 k % 101)
  else
    (ab_cl (ab_mw (ab_sw z.1 (ab_pv z.1 k z.2.2.1 (R - z.2.2.1).toNat) z.2.2.1 C) z.2.2.1 (ab_inv ((ab_sw z.1 (ab_pv z.1 k z.2.2.1 (R - z.2.2.1).toNat) z.2.2.1 C) z.2.2.1 k)) C) k z.2.2.1 C R.toNat, ab_ui z.2.1 k z.2.2.1, z.2.2.1 + 1, -z.2.2.2 % 101 * (ab_sw z.1 (ab_pv z.1 k z.2.2.1 (R - z.2.2.1).toNat) z.2.2.1 C) z.2.2.1 k % 101)
def ab_rd (R C : Int) (M : Int → Int → Int) (g : Int → Int) : Nat → (Int → Int → Int) × (Int → Int) × Int × Int
  | 0 => (M, g, 0, 1)
  | k + 1 => ab_rdx R C k (ab_rd R C M g k)
def ab_rdok (R : Int) (z : (Int → Int → Int) × (Int → Int) × Int × Int) : Prop := ab_v2 z.1 ∧ 0 ≤ z.2.2.1 ∧ z.2.2.1 ≤ R ∧ 0 ≤ z.2.2.2 ∧ z.2.2.2 ≤ 100
theorem ab_rdx_ok {R C k : Int} {z : (Int → Int → Int) × (Int → Int) × Int × Int} (hR : R ≤ 12) (h : ab_rdok R z) : ab_rdok R (ab_rdx R C k z) := by
  obtain ⟨M, g, F, P⟩ := z
  obtain ⟨h1, h2, h3, h4, h5⟩ := h
  simp only at h1 h2 h3 h4 h5
  have hp := ab_pv_r (M := M) (c := k) (R - F).toNat F
  unfold ab_rdx
  simp only
  split
  · exact ⟨h1, h2, h3, show (0 : Int) ≤ 0 by decide, show (0 : Int) ≤ 100 by decide⟩
  · split
    · exact ⟨ab_v2_cl (ab_v2_mw h1) _, by show 0 ≤ F + 1; omega, by show F + 1 ≤ R; omega, by show 0 ≤ _ % 101; omega, by show _ % 101 ≤ 100; omega⟩
    · exact ⟨ab_v2_cl (ab_v2_mw (ab_v2_sw h1 (by omega) (by omega))) _, by show 0 ≤ F + 1; omega, by show F + 1 ≤ R; omega, by show 0 ≤ _ % 101; omega, by show _ % 101 ≤ 100; omega⟩
theorem ab_rd_ok {R C : Int} {M : Int → Int → Int} {g : Int → Int} (hR0 : 0 ≤ R) (hR : R ≤ 12) (hv : ab_v2 M) : ∀ k, ab_rdok R (ab_rd R C M g k)
  | 0 => ⟨hv, Int.le_refl 0, hR0, show (0 : Int) ≤ 1 by decide, show (1 : Int) ≤ 100 by decide⟩
  | k + 1 => ab_rdx_ok hR (ab_rd_ok hR0 hR hv k)
def ab_gh (h : ab_H) (a b p : Nat) (R C : Int) (z : (Int → Int → Int) × (Int → Int) × Int × Int) : ab_H := ab_hs (ab_hs (ab_hs h p (ab_ia 7 z.2.1)) b (ab_ia 84 (ab_flt z.1))) a (ab_gr b p R C z.2.2.1 z.2.2.2)
section GR3
variable {h : ab_H} {n : Nat} {Q : ab_Q} {a b p : Nat} {R C F P : Int} {M M' : Int → Int → Int} {g g' : Int → Int}
theorem ab_gh_a : ab_gh h a b p R C (M, g, F, P) a = some (ab_gr b p R C F P) := ab_hs_self
theorem ab_gh_b (hab : a ≠ b) : ab_gh h a b p R C (M, g, F, P) b = some (ab_ia 84 (ab_flt M)) := (ab_hs_ne (Ne.symm hab)).trans ab_hs_self
theorem ab_gh_p (hap : a ≠ p) (hbp : b ≠ p) : ab_gh h a b p R C (M, g, F, P) p = some (ab_ia 7 g) := (ab_hs_ne (Ne.symm hap)).trans ((ab_hs_ne (Ne.symm hbp)).trans ab_hs_self)
theorem ab_gh_ua {F' P' : Int} : ab_hs (ab_gh h a b p R C (M, g, F, P)) a (ab_gr b p R C F' P') = ab_gh h a b p R C (M, g, F', P') := ab_hs_hs
theorem ab_gh_ub (hab : a ≠ b) : ab_hs (ab_gh h a b p R C (M, g, F, P)) b (ab_ia 84 (ab_flt M')) = ab_gh h a b p R C (M', g, F, P) := by
  unfold ab_gh
  rw [ab_hs_cm hab, ab_hs_hs]
theorem ab_gh_up (hap : a ≠ p) (hbp : b ≠ p) : ab_hs (ab_gh h a b p R C (M, g, F, P)) p (ab_ia 7 g') = ab_gh h a b p R C (M, g', F, P) := by
  unfold ab_gh
  rw [ab_hs_cm hap, ab_hs_cm hbp, ab_hs_hs]
theorem sp_reduce (h6 : 6 ≤ a) (hb6 : 6 ≤ b) (hp6 : 6 ≤ p) (hab : a ≠ b) (hap : a ≠ p) (hbp : b ≠ p) (h1 : h a = some (ab_gr b p R C F P)) (h2 : h b = some (ab_ia 84 (ab_flt M))) (h3 : h p = some (ab_ia 7 g)) (hv : ab_v2 M) (hR : 0 ≤ R ∧ R ≤ 12) (hC : 0 ≤ C ∧ C ≤ 7) (q : Q none (ab_gh h a b p R C (ab_rd R C M g C.toNat)) n) : ab_G 8 0 [some (vr a), none, none, none] [] h n (0, 0) Q := by
  simp only [s8_0, s8_1, s8_2, s8_5, s8_6, s8_7, s8_10, s8_11, true_and, and_true, true_implies, Option.toList_some, Option.toList_none, List.nil_append, List.cons_append, List.map_nil, List.map_cons, List.sum_nil, List.sum_cons, Nat.zero_le, ab_nl_n, ab_nl_i, ab_nl_r, ab_nl_0, ab_cat_i, ab_cat_r, ab_cat_l, Nat.reduceAdd, Nat.reduceLeDiff, Nat.add_zero, Nat.zero_add, reduceIte, List.getElem?_cons_succ, List.getElem?_cons_zero, List.length_cons, List.length_nil, List.set_cons_zero, List.set_cons_succ, true_or, or_true, Classical.not_not, not_true_eq_false, not_false_eq_true, ab_01r, ab_01z, ab_01n, false_implies, ab_tt, Nat.reduceLT, Nat.reduceEqDiff, Int.reduceNeg, Int.reduceLT, Int.reduceLE, Int.add_zero, Int.zero_add, List.append_nil, Int.reduceEq, ab_sum1, ab_ri_0, ab_ri_1, ab_ri_2, ab_ri_3, ab_ri_4, ab_ri_5, ab_ri_6, ab_ri_7, ab_ri_8, ab_ri_12, ab_ri_30, ab_ri_60, ab_ri_100, ab_ri_101, ab_ri_127, ab_ri_m1, ab_ri_m2, ab_ri_m3, ab_ri_m4, ab_ri_m5, ab_ri_m11, ab_ri_m13, ab_ri_m14, ab_ri_10, ab_fs, h1, h6, ab_fit, ab_tyf, tyX2, ab_hs_self, ab_hs_hs]
  have key := ab_dn (P := fun i => ∀ l2 l3 : Option ab_V, ab_nl [l2, l3] = true → ab_nl [l3] = true → ab_G 8 12 [some (vr a), some (vi i), l2, l3] [] (ab_gh h a b p R C (ab_rd R C M g i.toNat)) n (0, 0) Q) (a := 0) (e := C) hC.1 ?_ ?_
  · have := key none none rfl rfl
    rw [show (0 : Int).toNat = 0 from rfl, ab_rd] at this
    unfold ab_gh at this
    rw [ab_hs_id h3, ab_hs_id h2] at this
    exact this
  · intro l2 l3 k2 k3
    have hok := ab_rd_ok (C := C) (g := g) hR.1 hR.2 hv C.toNat
    revert q hok
    generalize ab_rd R C M g C.toNat = z
    obtain ⟨N, g', F', P'⟩ := z
    intro q hok
    rw [s8_12]
    simp only [s8_13, s8_14, s8_17, s8_149, true_and, and_true, true_implies, Option.toList_some, Option.toList_none, List.nil_append, List.cons_append, List.map_nil, List.map_cons, List.sum_nil, List.sum_cons, Nat.zero_le, ab_nl_n, ab_nl_i, ab_nl_r, ab_nl_0, ab_cat_i, ab_cat_r, ab_cat_l, Nat.reduceAdd, Nat.reduceLeDiff, Nat.add_zero, Nat.zero_add, reduceIte, List.getElem?_cons_succ, List.getElem?_cons_zero, List.length_cons, List.length_nil, List.set_cons_zero, List.set_cons_succ, true_or, or_true, Classical.not_not, not_true_eq_false, not_false_eq_true, ab_01r, ab_01z, ab_01n, false_implies, ab_tt, Nat.reduceLT, Nat.reduceEqDiff, Int.reduceNeg, Int.reduceLT, Int.reduceLE, Int.add_zero, Int.zero_add, List.append_nil, Int.reduceEq, ab_sum1, ab_ri_0, ab_ri_1, ab_ri_2, ab_ri_3, ab_ri_4, ab_ri_5, ab_ri_6, ab_ri_7, ab_ri_8, ab_ri_12, ab_ri_30, ab_ri_60, ab_ri_100, ab_ri_101, ab_ri_127, ab_ri_m1, ab_ri_m2, ab_ri_m3, ab_ri_m4, ab_ri_m5, ab_ri_m11, ab_ri_m13, ab_ri_m14, ab_ri_10, ab_fd, ab_gh_a, h6, Int.le_refl, Int.lt_irrefl, q] <;> omega
  · intro i h0 h9 ih l2 l3 k2 k3
    have ei : (i + 1).toNat = i.toNat + 1 := by omega
    have ec : ((i.toNat : Nat) : Int) = i := Int.toNat_of_nonneg h0
    have hok := ab_rd_ok (C := C) (g := g) hR.1 hR.2 hv i.toNat
    rw [ei, ab_rd, ec] at ih
    revert ih hok
    generalize ab_rd R C M g i.toNat = z
    obtain ⟨N, g', F', P'⟩ := z
    intro ih hok
    obtain ⟨k4, k5, k6, k7, k8⟩ := hok
    simp only at k4 k5 k6 k7 k8
    have hn : ¬ C ≤ i := by omega
    have i7 : i < ((7 : Nat) : Int) := by omega
    have hpv := ab_pv_r (M := N) (c := i) (R - F').toNat F'
    unfold ab_rdx at ih
    simp only at ih
    rw [s8_12]
    simp only [s8_13, s8_14, s8_17, s8_20, s8_21, s8_22, true_and, and_true, true_implies, Option.toList_some, Option.toList_none, List.nil_append, List.cons_append, List.map_nil, List.map_cons, List.sum_nil, List.sum_cons, Nat.zero_le, ab_nl_n, ab_nl_i, ab_nl_r, ab_nl_0, ab_cat_i, ab_cat_r, ab_cat_l, Nat.reduceAdd, Nat.reduceLeDiff, Nat.add_zero, Nat.zero_add, reduceIte, List.getElem?_cons_succ, List.getElem?_cons_zero, List.length_cons, List.length_nil, List.set_cons_zero, List.set_cons_succ, true_or, or_true, Classical.not_not, not_true_eq_false, not_false_eq_true, ab_01r, ab_01z, ab_01n, false_implies, ab_tt, Nat.reduceLT, Nat.reduceEqDiff, Int.reduceNeg, Int.reduceLT, Int.reduceLE, Int.add_zero, Int.zero_add, List.append_nil, Int.reduceEq, ab_sum1, ab_ri_0, ab_ri_1, ab_ri_2, ab_ri_3, ab_ri_4, ab_ri_5, ab_ri_6, ab_ri_7, ab_ri_8, ab_ri_12, ab_ri_30, ab_ri_60, ab_ri_100, ab_ri_101, ab_ri_127, ab_ri_m1, ab_ri_m2, ab_ri_m3, ab_ri_m4, ab_ri_m5, ab_ri_m11, ab_ri_m13, ab_ri_m14, ab_ri_10, ab_fd, ab_gh_a, ab_vc, ab_sv_2_31, ab_sv_2_35, ab_sv_2_45, ab_sv_2_48, h6, hn, h9]
    refine ⟨by omega, by omega, sp_pivotRow h6 hb6 ab_gh_a (ab_gh_b hab) k4 ⟨k5, k6⟩ hR.2 ⟨h0, i7⟩ ?_⟩
    have tail : ∀ (r : Int) (N1 : Int → Int → Int) (P1 : Int) (l : Option ab_V), ab_nl [l] = true → ab_v2 N1 → 0 ≤ P1 → P1 ≤ 100 → F' < R → (∀ l2 l3 : Option ab_V, ab_nl [l2, l3] = true → ab_nl [l3] = true → ab_G 8 12 [some (vr a), some (vi (i + 1)), l2, l3] [] (ab_gh h a b p R C (ab_cl (ab_mw N1 F' (ab_inv (N1 F' i)) C) i F' C R.toNat, ab_ui g' i F', F' + 1, P1 * N1 F' i % 101)) n (0, 0) Q) → ab_G 8 74 [some (vr a), some (vi i), some (vi r), l] [] (ab_gh h a b p R C (N1, g', F', P1)) n (0, 0) Q := by
      intro r N1 P1 l hl v1 p0 p1 fr ih
      have ih := ih (some (vi r)) (some (vi (N1 F' i))) rfl rfl
      have m1 := v1 F' i k5 (by omega) h0 i7
      have e1 : 0 ≤ F' * 7 + i := by omega
      have e2 : F' * 7 + i < ((84 : Nat) : Int) := by omega
      have m3 : 0 ≤ P1 * N1 F' i := Int.mul_nonneg p0 m1.1
      have m4 : P1 * N1 F' i ≤ 100 * 100 := Int.mul_le_mul p1 m1.2 m1.1 (by omega)
      have hi := ab_inv_r m1.1 (by omega)
      simp only [s8_74, s8_75, s8_78, s8_79, s8_82, s8_84, s8_85, s8_86, s8_87, s8_88, s8_89, s8_90, s8_91, s8_94, s8_95, s8_96, s8_98, s8_99, s8_102, s8_103, s8_104, s8_107, true_and, and_true, true_implies, Option.toList_some, Option.toList_none, List.nil_append, List.cons_append, List.map_nil, List.map_cons, List.sum_nil, List.sum_cons, Nat.zero_le, ab_nl_n, ab_nl_i, ab_nl_r, ab_nl_0, ab_cat_i, ab_cat_r, ab_cat_l, Nat.reduceAdd, Nat.reduceLeDiff, Nat.add_zero, Nat.zero_add, reduceIte, List.getElem?_cons_succ, List.getElem?_cons_zero, List.length_cons, List.length_nil, List.set_cons_zero, List.set_cons_succ, true_or, or_true, Classical.not_not, not_true_eq_false, not_false_eq_true, ab_01r, ab_01z, ab_01n, false_implies, ab_tt, Nat.reduceLT, Nat.reduceEqDiff, Int.reduceNeg, Int.reduceLT, Int.reduceLE, Int.add_zero, Int.zero_add, List.append_nil, Int.reduceEq, ab_sum1, ab_ri_0, ab_ri_1, ab_ri_2, ab_ri_3, ab_ri_4, ab_ri_5, ab_ri_6, ab_ri_7, ab_ri_8, ab_ri_12, ab_ri_30, ab_ri_60, ab_ri_100, ab_ri_101, ab_ri_127, ab_ri_m1, ab_ri_m2, ab_ri_m3, ab_ri_m4, ab_ri_m5, ab_ri_m11, ab_ri_m13, ab_ri_m14, ab_ri_10, ab_fd, ab_fs, ab_ai, ab_fit, ab_tyf, tyX2, ab_gh_a, ab_gh_b hab, ab_gh_ua, h6, hb6, e1, e2, ab_flt_at h0 i7, ab_md m3, hl]
      done
    by_cases c1 : ab_pv N i F' (R - F').toNat < 0
    · simp only [c1, true_and, and_true, true_implies, Option.toList_some, Option.toList_none, List.nil_append, List.cons_append, List.map_nil, List.map_cons, List.sum_nil, List.sum_cons, Nat.zero_le, ab_nl_n, ab_nl_i, ab_nl_r, ab_nl_0, ab_cat_i, ab_cat_r, ab_cat_l, Nat.reduceAdd, Nat.reduceLeDiff, Nat.add_zero, Nat.zero_add, reduceIte, List.getElem?_cons_succ, List.getElem?_cons_zero, List.length_cons, List.length_nil, List.set_cons_zero, List.set_cons_succ, true_or, or_true, Classical.not_not, not_true_eq_false, not_false_eq_true, ab_01r, ab_01z, ab_01n, false_implies, ab_tt, Nat.reduceLT, Nat.reduceEqDiff, Int.reduceNeg, Int.reduceLT, Int.reduceLE, Int.add_zero, Int.zero_add, List.append_nil, Int.reduceEq, ab_sum1, ab_ri_0, ab_ri_1, ab_ri_2, ab_ri_3, ab_ri_4, ab_ri_5, ab_ri_6, ab_ri_7, ab_ri_8, ab_ri_12, ab_ri_30, ab_ri_60, ab_ri_100, ab_ri_101, ab_ri_127, ab_ri_m1, ab_ri_m2, ab_ri_m3, ab_ri_m4, ab_ri_m5, ab_ri_m11, ab_ri_m13, ab_ri_m14, ab_ri_10] at ih
      done
    · by_cases c2 : ab_pv N i F' (R - F').toNat = F'
      · simp only [c1, c2, true_and, and_true, true_implies, Option.toList_some, Option.toList_none, List.nil_append, List.cons_append, List.map_nil, List.map_cons, List.sum_nil, List.sum_cons, Nat.zero_le, ab_nl_n, ab_nl_i, ab_nl_r, ab_nl_0, ab_cat_i, ab_cat_r, ab_cat_l, Nat.reduceAdd, Nat.reduceLeDiff, Nat.add_zero, Nat.zero_add, reduceIte, List.getElem?_cons_succ, List.getElem?_cons_zero, List.length_cons, List.length_nil, List.set_cons_zero, List.set_cons_succ, true_or, or_true, Classical.not_not, not_true_eq_false, not_false_eq_true, ab_01r, ab_01z, ab_01n, false_implies, ab_tt, Nat.reduceLT, Nat.reduceEqDiff, Int.reduceNeg, Int.reduceLT, Int.reduceLE, Int.add_zero, Int.zero_add, List.append_nil, Int.reduceEq, ab_sum1, ab_ri_0, ab_ri_1, ab_ri_2, ab_ri_3, ab_ri_4, ab_ri_5, ab_ri_6, ab_ri_7, ab_ri_8, ab_ri_12, ab_ri_30, ab_ri_60, ab_ri_100, ab_ri_101, ab_ri_127, ab_ri_m1, ab_ri_m2, ab_ri_m3, ab_ri_m4, ab_ri_m5, ab_ri_m11, ab_ri_m13, ab_ri_m14, ab_ri_10] at ih
        done
      · simp only [c1, c2, true_and, and_true, true_implies, Option.toList_some, Option.toList_none, List.nil_append, List.cons_append, List.map_nil, List.map_cons, List.sum_nil, List.sum_cons, Nat.zero_le, ab_nl_n, ab_nl_i, ab_nl_r, ab_nl_0, ab_cat_i, ab_cat_r, ab_cat_l, Nat.reduceAdd, Nat.reduceLeDiff, Nat.add_zero, Nat.zero_add, reduceIte, List.getElem?_cons_succ, List.getElem?_cons_zero, List.length_cons, List.length_nil, List.set_cons_zero, List.set_cons_succ, true_or, or_true, Classical.not_not, not_true_eq_false, not_false_eq_true, ab_01r, ab_01z, ab_01n, false_implies, ab_tt, Nat.reduceLT, Nat.reduceEqDiff, Int.reduceNeg, Int.reduceLT, Int.reduceLE, Int.add_zero, Int.zero_add, List.append_nil, Int.reduceEq, ab_sum1, ab_ri_0, ab_ri_1, ab_ri_2, ab_ri_3, ab_ri_4, ab_ri_5, ab_ri_6, ab_ri_7, ab_ri_8, ab_ri_12, ab_ri_30, ab_ri_60, ab_ri_100, ab_ri_101, ab_ri_127, ab_ri_m1, ab_ri_m2, ab_ri_m3, ab_ri_m4, ab_ri_m5, ab_ri_m11, ab_ri_m13, ab_ri_m14, ab_ri_10] at ih
        done
end GR3
