/-! ===== the model: terms read ===== -/
theorem ab_nx_0 {b : Int} : ab_nx 0 b = if b = 91 then 3 else if 49 ≤ b ∧ b ≤ 57 then 1 else -1 := rfl
theorem ab_nx_1 {b : Int} : ab_nx 1 b = if b = 91 then 3 else if 48 ≤ b ∧ b ≤ 57 then 2 else -1 := rfl
theorem ab_nx_2 {b : Int} : ab_nx 2 b = if b = 91 then 3 else -1 := rfl
theorem ab_nx_3 {b : Int} : ab_nx 3 b = if b = 93 then 7 else ab_mb b := rfl
theorem ab_nx_4 {b : Int} : ab_nx 4 b = if 49 ≤ b ∧ b ≤ 53 then 5 else -1 := rfl
theorem ab_nx_5 {b : Int} : ab_nx 5 b = if b = 32 then 6 else if b = 93 then 7 else -1 := rfl
theorem ab_nx_6 {b : Int} : ab_nx 6 b = ab_mb b := rfl
theorem ab_nx_7 {b : Int} : ab_nx 7 b = if b = 43 then 0 else -1 := rfl
theorem ab_uu {f : Int → Int} {i x y : Int} : ab_ui (ab_ui f i x) i y = ab_ui f i y := by
  funext j
  by_cases e : j = i
  · rw [e, ab_ui_at, ab_ui_at]
  · rw [ab_ui_ne e, ab_ui_ne e, ab_ui_ne e]
section MM
variable {h : ab_H} {n : Nat} {Q : ab_Q} {σ : Nat → Int} {a k m p nu mc : Int} {F G M g t : Int → Int}
theorem mp_readNumber (hp : ab_tpe h t (σ 8)) (hk : 0 ≤ k ∧ k ≤ 29) (hy : ab_py t (σ 8) p a 0 (0, 1, 0, g, 0))
    (q : ∀ a' nu st, a ≤ a' → 0 ≤ nu → nu ≤ 99 → ab_py t (σ 8) p a' st (0, 1, nu, g, 0) → st ≠ 7 → (a' < σ 8 → ab_nx st (t a') = if t a' = 91 then 3 else -1) → Q none (ab_pz h σ a' k m (ab_ui F k (if nu = 0 then 1 else nu)) G M) n) : ab_G 159 0 [some (vr 68), none] [] (ab_pz h σ a k m F G M) n (0, 0) Q := by
  have hp' := hp
  obtain ⟨p1, p2, p3, p4⟩ := hp'
  have p76 : ∀ a F, ab_pz h σ a k m F G M 76 = some (ab_ia 60 t) := fun a F => (ab_pz_o (by decide) (by decide) (by decide) (by decide)).trans p1
  have a0 := hy.1.1
  have as := hy.1.2.1
  have k0 := hk.1
  have k30 : k < ((30 : Nat) : Int) := by omega
  have h57 : ab_inR 57 = True := eq_true (by omega)
  have h49 : ab_inR 49 = True := eq_true (by omega)
  have h48 : ab_inR 48 = True := eq_true (by omega)
  simp only [s159_0, s159_1, s159_4, s159_5, s159_8, s159_9, s159_10, s159_11, s159_13, s159_15, true_and, and_true, true_implies, Option.toList_some, Option.toList_none, List.nil_append, List.cons_append, List.map_nil, List.map_cons, List.sum_nil, List.sum_cons, Nat.zero_le, ab_nl_n, ab_nl_i, ab_nl_r, ab_nl_0, ab_cat_i, ab_cat_r, ab_cat_l, Nat.reduceAdd, Nat.reduceLeDiff, Nat.add_zero, Nat.zero_add, reduceIte, List.getElem?_cons_succ, List.getElem?_cons_zero, List.length_cons, List.length_nil, List.set_cons_zero, List.set_cons_succ, true_or, or_true, Classical.not_not, not_true_eq_false, not_false_eq_true, ab_01r, ab_01z, ab_01n, false_implies, ab_tt, Nat.reduceLT, Nat.reduceEqDiff, Int.reduceNeg, Int.reduceLT, Int.reduceLE, Int.add_zero, Int.zero_add, List.append_nil, Int.reduceEq, ab_sum1, ab_ri_0, ab_ri_1, ab_ri_2, ab_ri_3, ab_ri_4, ab_ri_5, ab_ri_6, ab_ri_7, ab_ri_8, ab_ri_12, ab_ri_30, ab_ri_60, ab_ri_100, ab_ri_101, ab_ri_127, ab_ri_m1, ab_ri_m2, ab_ri_m3, ab_ri_m4, ab_ri_m5, ab_ri_m11, ab_ri_m13, ab_ri_m14, ab_ri_10, ab_fd, ab_fs, ab_ai, ab_as, ab_fit, ab_tyf, tyX12, ab_mg_0, ab_mg_1, ab_mg_2, ab_mg_3, ab_mg_4, ab_mg_5, ab_mg_6, ab_mg_7, ab_mg_8, ab_mg_9, ab_mg_10, ab_mg_11, ab_mg_12, ab_mg_13, ab_mg_14, ab_mg_15, ab_mg_16, ab_mg_17, ab_mg_18, ab_mg_19, ab_mg_20, ab_mg_21, ab_mg_22, ab_mg_23, ab_mg_24, ab_mg_25, ab_mg_26, ab_mg_27, ab_mg_28, ab_mg_29, ab_mg_30, ab_mg_31, ab_mg_32, ab_mg_33, ab_ms_8, ab_ms_10, ab_ms_11, ab_ms_17, ab_ms_21, ab_ms_22, ab_ms_24, ab_ms_25, ab_ms_26, ab_ms_29, ab_ms_32, ab_mol_l, Nat.reduceLT, Nat.reduceLeDiff, ab_vc, ab_sv_12_191, ab_sv_12_191, ab_pz_68, ab_pz_87, ab_ps_26, k0, k30, ab_pz_s87, h57, h49, h48]
  refine mp_isHere hp ⟨a0, as⟩ (by decide) (by decide) (fun c1 c2 c3 => ?_) (fun c1 => ?_)
  · have a60 : a < ((60 : Nat) : Int) := by omega
    have nx1 : ab_nx 0 (t a) = 1 := by rw [ab_nx_0, if_neg (by omega), if_pos ⟨c2, c3⟩]
    have ntx1 : ab_ntx (t a) (0, 1, 0, g, 0) = (0, 1, t a - 48, g, 0) := by
      unfold ab_ntx
      rw [if_neg (by omega), if_neg (by omega), if_pos (by omega)]
      show (0, 1, 0 * 10 + t a - 48, g, 0) = _
      rw [show 0 * 10 + t a - 48 = t a - 48 by omega]
    have hy1 := ab_py_s hy c1 (by rw [nx1]; decide) (by omega)
    rw [nx1, ntx1] at hy1
    simp only [s159_18, s159_21, s159_22, s159_23, s159_26, s159_27, s159_30, s159_31, s159_33, s159_34, s159_35, s159_36, s159_37, s159_40, s159_41, s159_42, s159_45, s159_46, s159_48, s159_50, true_and, and_true, true_implies, Option.toList_some, Option.toList_none, List.nil_append, List.cons_append, List.map_nil, List.map_cons, List.sum_nil, List.sum_cons, Nat.zero_le, ab_nl_n, ab_nl_i, ab_nl_r, ab_nl_0, ab_cat_i, ab_cat_r, ab_cat_l, Nat.reduceAdd, Nat.reduceLeDiff, Nat.add_zero, Nat.zero_add, reduceIte, List.getElem?_cons_succ, List.getElem?_cons_zero, List.length_cons, List.length_nil, List.set_cons_zero, List.set_cons_succ, true_or, or_true, Classical.not_not, not_true_eq_false, not_false_eq_true, ab_01r, ab_01z, ab_01n, false_implies, ab_tt, Nat.reduceLT, Nat.reduceEqDiff, Int.reduceNeg, Int.reduceLT, Int.reduceLE, Int.add_zero, Int.zero_add, List.append_nil, Int.reduceEq, ab_sum1, ab_ri_0, ab_ri_1, ab_ri_2, ab_ri_3, ab_ri_4, ab_ri_5, ab_ri_6, ab_ri_7, ab_ri_8, ab_ri_12, ab_ri_30, ab_ri_60, ab_ri_100, ab_ri_101, ab_ri_127, ab_ri_m1, ab_ri_m2, ab_ri_m3, ab_ri_m4, ab_ri_m5, ab_ri_m11, ab_ri_m13, ab_ri_m14, ab_ri_10, ab_fd, ab_fs, ab_ai, ab_as, ab_fit, ab_tyf, tyX12, ab_mg_0, ab_mg_1, ab_mg_2, ab_mg_3, ab_mg_4, ab_mg_5, ab_mg_6, ab_mg_7, ab_mg_8, ab_mg_9, ab_mg_10, ab_mg_11, ab_mg_12, ab_mg_13, ab_mg_14, ab_mg_15, ab_mg_16, ab_mg_17, ab_mg_18, ab_mg_19, ab_mg_20, ab_mg_21, ab_mg_22, ab_mg_23, ab_mg_24, ab_mg_25, ab_mg_26, ab_mg_27, ab_mg_28, ab_mg_29, ab_mg_30, ab_mg_31, ab_mg_32, ab_mg_33, ab_ms_8, ab_ms_10, ab_ms_11, ab_ms_17, ab_ms_21, ab_ms_22, ab_ms_24, ab_ms_25, ab_ms_26, ab_ms_29, ab_ms_32, ab_mol_l, Nat.reduceLT, Nat.reduceLeDiff, ab_vc, ab_sv_12_191, ab_sv_12_191, ab_pz_68, p76, ab_ps_25, a0, a60, ab_pz_s25, h57, h49, h48]
    refine mp_isHere hp ⟨by omega, by omega⟩ (by decide) (by decide) (fun d1 d2 d3 => ?_) (fun d1 => ?_)
    · have b60 : a + 1 < ((60 : Nat) : Int) := by omega
      have b0 : 0 ≤ a + 1 := by omega
      have nx2 : ab_nx 1 (t (a + 1)) = 2 := by rw [ab_nx_1, if_neg (by omega), if_pos ⟨d2, d3⟩]
      have ntx2 : ab_ntx (t (a + 1)) (0, 1, t a - 48, g, 0) = (0, 1, 10 * (t a - 48) + t (a + 1) - 48, g, 0) := by
        unfold ab_ntx
        rw [if_neg (by omega), if_neg (by omega), if_pos (by omega)]
        show (0, 1, (t a - 48) * 10 + t (a + 1) - 48, g, 0) = _
        rw [show (t a - 48) * 10 + t (a + 1) - 48 = 10 * (t a - 48) + t (a + 1) - 48 by omega]
      have hy2 := ab_py_s hy1 d1 (by rw [nx2]; decide) (by omega)
      rw [nx2, ntx2] at hy2
      have q := q _ _ _ (by omega) (by omega) (by omega) hy2 (by decide) (fun _ => ab_nx_2)
      rw [if_neg (by omega)] at q
      simp only [s159_53, s159_56, s159_58, s159_59, s159_60, s159_61, s159_64, s159_65, s159_68, s159_69, s159_70, s159_72, s159_73, s159_74, s159_75, s159_76, s159_79, s159_80, s159_81, s159_84, s159_85, s159_88, s159_89, s159_92, s159_93, s159_94, true_and, and_true, true_implies, Option.toList_some, Option.toList_none, List.nil_append, List.cons_append, List.map_nil, List.map_cons, List.sum_nil, List.sum_cons, Nat.zero_le, ab_nl_n, ab_nl_i, ab_nl_r, ab_nl_0, ab_cat_i, ab_cat_r, ab_cat_l, Nat.reduceAdd, Nat.reduceLeDiff, Nat.add_zero, Nat.zero_add, reduceIte, List.getElem?_cons_succ, List.getElem?_cons_zero, List.length_cons, List.length_nil, List.set_cons_zero, List.set_cons_succ, true_or, or_true, Classical.not_not, not_true_eq_false, not_false_eq_true, ab_01r, ab_01z, ab_01n, false_implies, ab_tt, Nat.reduceLT, Nat.reduceEqDiff, Int.reduceNeg, Int.reduceLT, Int.reduceLE, Int.add_zero, Int.zero_add, List.append_nil, Int.reduceEq, ab_sum1, ab_ri_0, ab_ri_1, ab_ri_2, ab_ri_3, ab_ri_4, ab_ri_5, ab_ri_6, ab_ri_7, ab_ri_8, ab_ri_12, ab_ri_30, ab_ri_60, ab_ri_100, ab_ri_101, ab_ri_127, ab_ri_m1, ab_ri_m2, ab_ri_m3, ab_ri_m4, ab_ri_m5, ab_ri_m11, ab_ri_m13, ab_ri_m14, ab_ri_10, ab_fd, ab_fs, ab_ai, ab_as, ab_fit, ab_tyf, tyX12, ab_mg_0, ab_mg_1, ab_mg_2, ab_mg_3, ab_mg_4, ab_mg_5, ab_mg_6, ab_mg_7, ab_mg_8, ab_mg_9, ab_mg_10, ab_mg_11, ab_mg_12, ab_mg_13, ab_mg_14, ab_mg_15, ab_mg_16, ab_mg_17, ab_mg_18, ab_mg_19, ab_mg_20, ab_mg_21, ab_mg_22, ab_mg_23, ab_mg_24, ab_mg_25, ab_mg_26, ab_mg_27, ab_mg_28, ab_mg_29, ab_mg_30, ab_mg_31, ab_mg_32, ab_mg_33, ab_ms_8, ab_ms_10, ab_ms_11, ab_ms_17, ab_ms_21, ab_ms_22, ab_ms_24, ab_ms_25, ab_ms_26, ab_ms_29, ab_ms_32, ab_mol_l, Nat.reduceLT, Nat.reduceLeDiff, ab_pz_68, ab_pz_87, p76, ab_ps_25, ab_ps_26, b0, b60, k0, k30, ab_pz_s25, ab_pz_s87, ab_uu, q]
    · have q := q (a + 1) _ _ (by omega) (by omega) (by omega) hy1 (by decide) (fun z => by
        have := d1 z
        rw [ab_nx_1]
        by_cases e : t (a + 1) = 91
        · rw [if_pos e, if_pos e]
        · rw [if_neg e, if_neg e, if_neg (by omega)])
      rw [if_neg (by omega)] at q
      simp only [s159_53, s159_84, s159_85, s159_88, s159_89, s159_92, s159_93, s159_94, true_and, and_true, true_implies, Option.toList_some, Option.toList_none, List.nil_append, List.cons_append, List.map_nil, List.map_cons, List.sum_nil, List.sum_cons, Nat.zero_le, ab_nl_n, ab_nl_i, ab_nl_r, ab_nl_0, ab_cat_i, ab_cat_r, ab_cat_l, Nat.reduceAdd, Nat.reduceLeDiff, Nat.add_zero, Nat.zero_add, reduceIte, List.getElem?_cons_succ, List.getElem?_cons_zero, List.length_cons, List.length_nil, List.set_cons_zero, List.set_cons_succ, true_or, or_true, Classical.not_not, not_true_eq_false, not_false_eq_true, ab_01r, ab_01z, ab_01n, false_implies, ab_tt, Nat.reduceLT, Nat.reduceEqDiff, Int.reduceNeg, Int.reduceLT, Int.reduceLE, Int.add_zero, Int.zero_add, List.append_nil, Int.reduceEq, ab_sum1, ab_ri_0, ab_ri_1, ab_ri_2, ab_ri_3, ab_ri_4, ab_ri_5, ab_ri_6, ab_ri_7, ab_ri_8, ab_ri_12, ab_ri_30, ab_ri_60, ab_ri_100, ab_ri_101, ab_ri_127, ab_ri_m1, ab_ri_m2, ab_ri_m3, ab_ri_m4, ab_ri_m5, ab_ri_m11, ab_ri_m13, ab_ri_m14, ab_ri_10, ab_fd, ab_fs, ab_ai, ab_as, ab_fit, ab_tyf, tyX12, ab_mg_0, ab_mg_1, ab_mg_2, ab_mg_3, ab_mg_4, ab_mg_5, ab_mg_6, ab_mg_7, ab_mg_8, ab_mg_9, ab_mg_10, ab_mg_11, ab_mg_12, ab_mg_13, ab_mg_14, ab_mg_15, ab_mg_16, ab_mg_17, ab_mg_18, ab_mg_19, ab_mg_20, ab_mg_21, ab_mg_22, ab_mg_23, ab_mg_24, ab_mg_25, ab_mg_26, ab_mg_27, ab_mg_28, ab_mg_29, ab_mg_30, ab_mg_31, ab_mg_32, ab_mg_33, ab_ms_8, ab_ms_10, ab_ms_11, ab_ms_17, ab_ms_21, ab_ms_22, ab_ms_24, ab_ms_25, ab_ms_26, ab_ms_29, ab_ms_32, ab_mol_l, Nat.reduceLT, Nat.reduceLeDiff, ab_pz_68, ab_pz_87, ab_ps_25, ab_ps_26, k0, k30, ab_pz_s25, ab_pz_s87, ab_uu, q]
  · have q := q a 0 0 (Int.le_refl a) (by decide) (by decide) hy (by decide) (fun z => by
        have := c1 z
        rw [ab_nx_0]
        by_cases e : t a = 91
        · rw [if_pos e, if_pos e]
        · rw [if_neg e, if_neg e, if_neg (by omega)])
    rw [if_pos rfl] at q
    simp only [s159_18, s159_21, true_and, and_true, true_implies, Option.toList_some, Option.toList_none, List.nil_append, List.cons_append, List.map_nil, List.map_cons, List.sum_nil, List.sum_cons, Nat.zero_le, ab_nl_n, ab_nl_i, ab_nl_r, ab_nl_0, ab_cat_i, ab_cat_r, ab_cat_l, Nat.reduceAdd, Nat.reduceLeDiff, Nat.add_zero, Nat.zero_add, reduceIte, List.getElem?_cons_succ, List.getElem?_cons_zero, List.length_cons, List.length_nil, List.set_cons_zero, List.set_cons_succ, true_or, or_true, Classical.not_not, not_true_eq_false, not_false_eq_true, ab_01r, ab_01z, ab_01n, false_implies, ab_tt, Nat.reduceLT, Nat.reduceEqDiff, Int.reduceNeg, Int.reduceLT, Int.reduceLE, Int.add_zero, Int.zero_add, List.append_nil, Int.reduceEq, ab_sum1, ab_ri_0, ab_ri_1, ab_ri_2, ab_ri_3, ab_ri_4, ab_ri_5, ab_ri_6, ab_ri_7, ab_ri_8, ab_ri_12, ab_ri_30, ab_ri_60, ab_ri_100, ab_ri_101, ab_ri_127, ab_ri_m1, ab_ri_m2, ab_ri_m3, ab_ri_m4, ab_ri_m5, ab_ri_m11, ab_ri_m13, ab_ri_m14, ab_ri_10, q]
theorem mp_readMode {st : Int} (hp : ab_tpe h t (σ 8)) (hm : 0 ≤ m ∧ m ≤ a) (hy : ab_py t (σ 8) p a st (1, 1, nu, g, mc)) (hmc : 0 ≤ mc ∧ 2 * mc + 1 ≤ a - p) (h7 : st ≠ 7) (hn : a < σ 8 → ab_nx st (t a) = ab_mb (t a))
    (q1 : ∀ a' x, a < a' → 2 * (mc + 1) ≤ a' - p → -5 ≤ x → x ≤ 5 → ab_py t (σ 8) p a' 5 (1, 1, nu, ab_ui g mc x, mc + 1) → Q (some (vi 1)) (ab_pz h σ a' k (m + 1) F G (ab_ui M m x)) n)
    (q2 : ∀ a', ab_pbd t (σ 8) a' → Q (some (vi 0)) (ab_pz h σ a' k m F G M) n) : ab_G 160 0 [some (vr 68), none, none] [] (ab_pz h σ a k m F G M) n (0, 0) Q := by
  have hp' := hp
  obtain ⟨p1, p2, p3, p4⟩ := hp'
  have p76 : ∀ a m F M, ab_pz h σ a k m F G M 76 = some (ab_ia 60 t) := fun a m F M => (ab_pz_o (by decide) (by decide) (by decide) (by decide)).trans p1
  have a0 := hy.1.1
  have as := hy.1.2.1
  have p0 := hy.2.2.1
  have h53 : ab_inR 53 = True := eq_true (by omega)
  have h49 : ab_inR 49 = True := eq_true (by omega)
  have h48 : ab_inR 48 = True := eq_true (by omega)
  have h45 : ab_inR 45 = True := eq_true (by omega)
  have r1 : ab_inR 1 = True := eq_true (by omega)
  have r0 : ab_inR 0 = True := eq_true (by omega)
  have m0 := hm.1
  simp only [s160_0, s160_1, s160_3, true_and, and_true, true_implies, Option.toList_some, Option.toList_none, List.nil_append, List.cons_append, List.map_nil, List.map_cons, List.sum_nil, List.sum_cons, Nat.zero_le, ab_nl_n, ab_nl_i, ab_nl_r, ab_nl_0, ab_cat_i, ab_cat_r, ab_cat_l, Nat.reduceAdd, Nat.reduceLeDiff, Nat.add_zero, Nat.zero_add, reduceIte, List.getElem?_cons_succ, List.getElem?_cons_zero, List.length_cons, List.length_nil, List.set_cons_zero, List.set_cons_succ, true_or, or_true, Classical.not_not, not_true_eq_false, not_false_eq_true, ab_01r, ab_01z, ab_01n, false_implies, ab_tt, Nat.reduceLT, Nat.reduceEqDiff, Int.reduceNeg, Int.reduceLT, Int.reduceLE, Int.add_zero, Int.zero_add, List.append_nil, Int.reduceEq, ab_sum1, ab_ri_0, ab_ri_1, ab_ri_2, ab_ri_3, ab_ri_4, ab_ri_5, ab_ri_6, ab_ri_7, ab_ri_8, ab_ri_12, ab_ri_30, ab_ri_60, ab_ri_100, ab_ri_101, ab_ri_127, ab_ri_m1, ab_ri_m2, ab_ri_m3, ab_ri_m4, ab_ri_m5, ab_ri_m11, ab_ri_m13, ab_ri_m14, ab_ri_10, ab_fd, ab_fs, ab_ai, ab_as, ab_fit, ab_tyf, tyX12, ab_mg_0, ab_mg_1, ab_mg_2, ab_mg_3, ab_mg_4, ab_mg_5, ab_mg_6, ab_mg_7, ab_mg_8, ab_mg_9, ab_mg_10, ab_mg_11, ab_mg_12, ab_mg_13, ab_mg_14, ab_mg_15, ab_mg_16, ab_mg_17, ab_mg_18, ab_mg_19, ab_mg_20, ab_mg_21, ab_mg_22, ab_mg_23, ab_mg_24, ab_mg_25, ab_mg_26, ab_mg_27, ab_mg_28, ab_mg_29, ab_mg_30, ab_mg_31, ab_mg_32, ab_mg_33, ab_ms_8, ab_ms_10, ab_ms_11, ab_ms_17, ab_ms_21, ab_ms_22, ab_ms_24, ab_ms_25, ab_ms_26, ab_ms_29, ab_ms_32, ab_mol_l, Nat.reduceLT, Nat.reduceLeDiff, ab_vc, ab_sv_12_194, ab_sv_12_191, ab_pz_68, h45]
  refine mp_takes hp ⟨a0, as⟩ (by decide) (fun c1 c2 => ?_) (fun c1 => ?_)
  · have nx1 : ab_nx st (t a) = 4 := by rw [hn c1, c2]; rfl
    have ntx1 : ab_ntx (t a) (1, 1, nu, g, mc) = (1, -1, nu, g, mc) := by rw [c2]; rfl
    have hy1 := ab_py_s hy c1 (by rw [nx1]; decide) (by omega)
    rw [nx1, ntx1] at hy1
    simp only [s160_6, s160_7, s160_8, s160_9, s160_12, s160_14, s160_17, s160_19, s160_21, true_and, and_true, true_implies, Option.toList_some, Option.toList_none, List.nil_append, List.cons_append, List.map_nil, List.map_cons, List.sum_nil, List.sum_cons, Nat.zero_le, ab_nl_n, ab_nl_i, ab_nl_r, ab_nl_0, ab_cat_i, ab_cat_r, ab_cat_l, Nat.reduceAdd, Nat.reduceLeDiff, Nat.add_zero, Nat.zero_add, reduceIte, List.getElem?_cons_succ, List.getElem?_cons_zero, List.length_cons, List.length_nil, List.set_cons_zero, List.set_cons_succ, true_or, or_true, Classical.not_not, not_true_eq_false, not_false_eq_true, ab_01r, ab_01z, ab_01n, false_implies, ab_tt, Nat.reduceLT, Nat.reduceEqDiff, Int.reduceNeg, Int.reduceLT, Int.reduceLE, Int.add_zero, Int.zero_add, List.append_nil, Int.reduceEq, ab_sum1, ab_ri_0, ab_ri_1, ab_ri_2, ab_ri_3, ab_ri_4, ab_ri_5, ab_ri_6, ab_ri_7, ab_ri_8, ab_ri_12, ab_ri_30, ab_ri_60, ab_ri_100, ab_ri_101, ab_ri_127, ab_ri_m1, ab_ri_m2, ab_ri_m3, ab_ri_m4, ab_ri_m5, ab_ri_m11, ab_ri_m13, ab_ri_m14, ab_ri_10, ab_fd, ab_fs, ab_ai, ab_as, ab_fit, ab_tyf, tyX12, ab_mg_0, ab_mg_1, ab_mg_2, ab_mg_3, ab_mg_4, ab_mg_5, ab_mg_6, ab_mg_7, ab_mg_8, ab_mg_9, ab_mg_10, ab_mg_11, ab_mg_12, ab_mg_13, ab_mg_14, ab_mg_15, ab_mg_16, ab_mg_17, ab_mg_18, ab_mg_19, ab_mg_20, ab_mg_21, ab_mg_22, ab_mg_23, ab_mg_24, ab_mg_25, ab_mg_26, ab_mg_27, ab_mg_28, ab_mg_29, ab_mg_30, ab_mg_31, ab_mg_32, ab_mg_33, ab_ms_8, ab_ms_10, ab_ms_11, ab_ms_17, ab_ms_21, ab_ms_22, ab_ms_24, ab_ms_25, ab_ms_26, ab_ms_29, ab_ms_32, ab_mol_l, Nat.reduceLT, Nat.reduceLeDiff, ab_vc, ab_sv_12_194, ab_sv_12_191, ab_pz_68, h53, h49, h48]
    refine mp_isHere hp ⟨by omega, by omega⟩ (by decide) (by decide) (fun d1 d2 d3 => ?_) (fun d1 => ?_)
    · have b60 : a + 1 < ((60 : Nat) : Int) := by omega
      have b0 : 0 ≤ a + 1 := by omega
      have m60 : m < ((60 : Nat) : Int) := by omega
      have nx2 : ab_nx 4 (t (a + 1)) = 5 := by rw [ab_nx_4, if_pos ⟨d2, d3⟩]
      have ntx2 : ab_ntx (t (a + 1)) (1, -1, nu, g, mc) = (1, 1, nu, ab_ui g mc (-(t (a + 1) - 48)), mc + 1) := by
        unfold ab_ntx
        rw [if_neg (by omega), if_neg (by omega), if_pos (by omega)]
        show (if (1 : Int) = 0 then _ else if mc < 30 then (1, 1, nu, ab_ui g mc (-1 * (t (a + 1) - 48)), mc + 1) else _) = _
        rw [if_neg (by decide), if_pos (by omega), Int.neg_one_mul]
      have hy2 := ab_py_s hy1 d1 (by rw [nx2]; decide) (by omega)
      rw [nx2, ntx2] at hy2
      have q := q1 _ _ (by omega) (by omega) (by omega) (by omega) hy2
      simp only [s160_24, s160_27, s160_28, s160_29, s160_30, s160_33, s160_34, s160_37, s160_38, s160_40, s160_41, s160_42, s160_43, s160_44, s160_47, s160_48, s160_49, s160_52, s160_53, s160_56, s160_57, s160_60, s160_61, s160_64, s160_65, s160_66, s160_69, s160_70, s160_71, s160_72, s160_73, s160_76, s160_77, s160_78, s160_81, s160_82, true_and, and_true, true_implies, Option.toList_some, Option.toList_none, List.nil_append, List.cons_append, List.map_nil, List.map_cons, List.sum_nil, List.sum_cons, Nat.zero_le, ab_nl_n, ab_nl_i, ab_nl_r, ab_nl_0, ab_cat_i, ab_cat_r, ab_cat_l, Nat.reduceAdd, Nat.reduceLeDiff, Nat.add_zero, Nat.zero_add, reduceIte, List.getElem?_cons_succ, List.getElem?_cons_zero, List.length_cons, List.length_nil, List.set_cons_zero, List.set_cons_succ, true_or, or_true, Classical.not_not, not_true_eq_false, not_false_eq_true, ab_01r, ab_01z, ab_01n, false_implies, ab_tt, Nat.reduceLT, Nat.reduceEqDiff, Int.reduceNeg, Int.reduceLT, Int.reduceLE, Int.add_zero, Int.zero_add, List.append_nil, Int.reduceEq, ab_sum1, ab_ri_0, ab_ri_1, ab_ri_2, ab_ri_3, ab_ri_4, ab_ri_5, ab_ri_6, ab_ri_7, ab_ri_8, ab_ri_12, ab_ri_30, ab_ri_60, ab_ri_100, ab_ri_101, ab_ri_127, ab_ri_m1, ab_ri_m2, ab_ri_m3, ab_ri_m4, ab_ri_m5, ab_ri_m11, ab_ri_m13, ab_ri_m14, ab_ri_10, ab_fd, ab_fs, ab_ai, ab_as, ab_fit, ab_tyf, tyX12, ab_mg_0, ab_mg_1, ab_mg_2, ab_mg_3, ab_mg_4, ab_mg_5, ab_mg_6, ab_mg_7, ab_mg_8, ab_mg_9, ab_mg_10, ab_mg_11, ab_mg_12, ab_mg_13, ab_mg_14, ab_mg_15, ab_mg_16, ab_mg_17, ab_mg_18, ab_mg_19, ab_mg_20, ab_mg_21, ab_mg_22, ab_mg_23, ab_mg_24, ab_mg_25, ab_mg_26, ab_mg_27, ab_mg_28, ab_mg_29, ab_mg_30, ab_mg_31, ab_mg_32, ab_mg_33, ab_ms_8, ab_ms_10, ab_ms_11, ab_ms_17, ab_ms_21, ab_ms_22, ab_ms_24, ab_ms_25, ab_ms_26, ab_ms_29, ab_ms_32, ab_mol_l, Nat.reduceLT, Nat.reduceLeDiff, ab_pz_68, ab_pz_89, p76, ab_ps_25, ab_ps_29, b0, b60, m0, m60, ab_pz_s25, ab_pz_s29, ab_pz_s89, r1, r0, q]
    · have q := q2 (a + 1) (ab_py_bad hy1 (by decide) (fun z => by
        have := d1 z
        rw [ab_nx_4, if_neg this]; decide))
      simp only [s160_24, s160_27, s160_28, true_and, and_true, true_implies, Option.toList_some, Option.toList_none, List.nil_append, List.cons_append, List.map_nil, List.map_cons, List.sum_nil, List.sum_cons, Nat.zero_le, ab_nl_n, ab_nl_i, ab_nl_r, ab_nl_0, ab_cat_i, ab_cat_r, ab_cat_l, Nat.reduceAdd, Nat.reduceLeDiff, Nat.add_zero, Nat.zero_add, reduceIte, List.getElem?_cons_succ, List.getElem?_cons_zero, List.length_cons, List.length_nil, List.set_cons_zero, List.set_cons_succ, true_or, or_true, Classical.not_not, not_true_eq_false, not_false_eq_true, ab_01r, ab_01z, ab_01n, false_implies, ab_tt, Nat.reduceLT, Nat.reduceEqDiff, Int.reduceNeg, Int.reduceLT, Int.reduceLE, Int.add_zero, Int.zero_add, List.append_nil, Int.reduceEq, ab_sum1, ab_ri_0, ab_ri_1, ab_ri_2, ab_ri_3, ab_ri_4, ab_ri_5, ab_ri_6, ab_ri_7, ab_ri_8, ab_ri_12, ab_ri_30, ab_ri_60, ab_ri_100, ab_ri_101, ab_ri_127, ab_ri_m1, ab_ri_m2, ab_ri_m3, ab_ri_m4, ab_ri_m5, ab_ri_m11, ab_ri_m13, ab_ri_m14, ab_ri_10, r0, q]
  · simp only [s160_6, s160_7, s160_8, s160_9, s160_12, s160_14, s160_17, s160_19, s160_21, true_and, and_true, true_implies, Option.toList_some, Option.toList_none, List.nil_append, List.cons_append, List.map_nil, List.map_cons, List.sum_nil, List.sum_cons, Nat.zero_le, ab_nl_n, ab_nl_i, ab_nl_r, ab_nl_0, ab_cat_i, ab_cat_r, ab_cat_l, Nat.reduceAdd, Nat.reduceLeDiff, Nat.add_zero, Nat.zero_add, reduceIte, List.getElem?_cons_succ, List.getElem?_cons_zero, List.length_cons, List.length_nil, List.set_cons_zero, List.set_cons_succ, true_or, or_true, Classical.not_not, not_true_eq_false, not_false_eq_true, ab_01r, ab_01z, ab_01n, false_implies, ab_tt, Nat.reduceLT, Nat.reduceEqDiff, Int.reduceNeg, Int.reduceLT, Int.reduceLE, Int.add_zero, Int.zero_add, List.append_nil, Int.reduceEq, ab_sum1, ab_ri_0, ab_ri_1, ab_ri_2, ab_ri_3, ab_ri_4, ab_ri_5, ab_ri_6, ab_ri_7, ab_ri_8, ab_ri_12, ab_ri_30, ab_ri_60, ab_ri_100, ab_ri_101, ab_ri_127, ab_ri_m1, ab_ri_m2, ab_ri_m3, ab_ri_m4, ab_ri_m5, ab_ri_m11, ab_ri_m13, ab_ri_m14, ab_ri_10, ab_fd, ab_fs, ab_ai, ab_as, ab_fit, ab_tyf, tyX12, ab_mg_0, ab_mg_1, ab_mg_2, ab_mg_3, ab_mg_4, ab_mg_5, ab_mg_6, ab_mg_7, ab_mg_8, ab_mg_9, ab_mg_10, ab_mg_11, ab_mg_12, ab_mg_13, ab_mg_14, ab_mg_15, ab_mg_16, ab_mg_17, ab_mg_18, ab_mg_19, ab_mg_20, ab_mg_21, ab_mg_22, ab_mg_23, ab_mg_24, ab_mg_25, ab_mg_26, ab_mg_27, ab_mg_28, ab_mg_29, ab_mg_30, ab_mg_31, ab_mg_32, ab_mg_33, ab_ms_8, ab_ms_10, ab_ms_11, ab_ms_17, ab_ms_21, ab_ms_22, ab_ms_24, ab_ms_25, ab_ms_26, ab_ms_29, ab_ms_32, ab_mol_l, Nat.reduceLT, Nat.reduceLeDiff, ab_vc, ab_sv_12_194, ab_sv_12_191, ab_pz_68, h53, h49, h48]
    refine mp_isHere hp ⟨by omega, by omega⟩ (by decide) (by decide) (fun d1 d2 d3 => ?_) (fun d1 => ?_)
    · have b60 : a < ((60 : Nat) : Int) := by omega
      have m60 : m < ((60 : Nat) : Int) := by omega
      have c3 := c1 d1
      have nx2 : ab_nx st (t a) = 5 := by rw [hn d1, ab_mb, if_neg c3, if_pos ⟨d2, d3⟩]
      have ntx2 : ab_ntx (t a) (1, 1, nu, g, mc) = (1, 1, nu, ab_ui g mc (t a - 48), mc + 1) := by
        unfold ab_ntx
        rw [if_neg (by omega), if_neg (by omega), if_pos (by omega)]
        show (if (1 : Int) = 0 then _ else if mc < 30 then (1, 1, nu, ab_ui g mc (1 * (t a - 48)), mc + 1) else _) = _
        rw [if_neg (by decide), if_pos (by omega), Int.one_mul]
      have hy2 := ab_py_s hy d1 (by rw [nx2]; decide) (by omega)
      rw [nx2, ntx2] at hy2
      have q := q1 _ _ (by omega) (by omega) (by omega) (by omega) hy2
      simp only [s160_24, s160_27, s160_28, s160_29, s160_30, s160_33, s160_34, s160_37, s160_38, s160_40, s160_41, s160_42, s160_43, s160_44, s160_47, s160_48, s160_49, s160_52, s160_53, s160_56, s160_57, s160_60, s160_61, s160_64, s160_65, s160_66, s160_69, s160_70, s160_71, s160_72, s160_73, s160_76, s160_77, s160_78, s160_81, s160_82, true_and, and_true, true_implies, Option.toList_some, Option.toList_none, List.nil_append, List.cons_append, List.map_nil, List.map_cons, List.sum_nil, List.sum_cons, Nat.zero_le, ab_nl_n, ab_nl_i, ab_nl_r, ab_nl_0, ab_cat_i, ab_cat_r, ab_cat_l, Nat.reduceAdd, Nat.reduceLeDiff, Nat.add_zero, Nat.zero_add, reduceIte, List.getElem?_cons_succ, List.getElem?_cons_zero, List.length_cons, List.length_nil, List.set_cons_zero, List.set_cons_succ, true_or, or_true, Classical.not_not, not_true_eq_false, not_false_eq_true, ab_01r, ab_01z, ab_01n, false_implies, ab_tt, Nat.reduceLT, Nat.reduceEqDiff, Int.reduceNeg, Int.reduceLT, Int.reduceLE, Int.add_zero, Int.zero_add, List.append_nil, Int.reduceEq, ab_sum1, ab_ri_0, ab_ri_1, ab_ri_2, ab_ri_3, ab_ri_4, ab_ri_5, ab_ri_6, ab_ri_7, ab_ri_8, ab_ri_12, ab_ri_30, ab_ri_60, ab_ri_100, ab_ri_101, ab_ri_127, ab_ri_m1, ab_ri_m2, ab_ri_m3, ab_ri_m4, ab_ri_m5, ab_ri_m11, ab_ri_m13, ab_ri_m14, ab_ri_10, ab_fd, ab_fs, ab_ai, ab_as, ab_fit, ab_tyf, tyX12, ab_mg_0, ab_mg_1, ab_mg_2, ab_mg_3, ab_mg_4, ab_mg_5, ab_mg_6, ab_mg_7, ab_mg_8, ab_mg_9, ab_mg_10, ab_mg_11, ab_mg_12, ab_mg_13, ab_mg_14, ab_mg_15, ab_mg_16, ab_mg_17, ab_mg_18, ab_mg_19, ab_mg_20, ab_mg_21, ab_mg_22, ab_mg_23, ab_mg_24, ab_mg_25, ab_mg_26, ab_mg_27, ab_mg_28, ab_mg_29, ab_mg_30, ab_mg_31, ab_mg_32, ab_mg_33, ab_ms_8, ab_ms_10, ab_ms_11, ab_ms_17, ab_ms_21, ab_ms_22, ab_ms_24, ab_ms_25, ab_ms_26, ab_ms_29, ab_ms_32, ab_mol_l, Nat.reduceLT, Nat.reduceLeDiff, ab_pz_68, ab_pz_89, p76, ab_ps_25, ab_ps_29, a0, b60, m0, m60, ab_pz_s25, ab_pz_s29, ab_pz_s89, r1, r0, q]
    · have q := q2 a (ab_py_bad hy h7 (fun z => by
        have d := d1 z
        rw [hn z, ab_mb, if_neg (c1 z), if_neg d]; decide))
      simp only [s160_24, s160_27, s160_28, true_and, and_true, true_implies, Option.toList_some, Option.toList_none, List.nil_append, List.cons_append, List.map_nil, List.map_cons, List.sum_nil, List.sum_cons, Nat.zero_le, ab_nl_n, ab_nl_i, ab_nl_r, ab_nl_0, ab_cat_i, ab_cat_r, ab_cat_l, Nat.reduceAdd, Nat.reduceLeDiff, Nat.add_zero, Nat.zero_add, reduceIte, List.getElem?_cons_succ, List.getElem?_cons_zero, List.length_cons, List.length_nil, List.set_cons_zero, List.set_cons_succ, true_or, or_true, Classical.not_not, not_true_eq_false, not_false_eq_true, ab_01r, ab_01z, ab_01n, false_implies, ab_tt, Nat.reduceLT, Nat.reduceEqDiff, Int.reduceNeg, Int.reduceLT, Int.reduceLE, Int.add_zero, Int.zero_add, List.append_nil, Int.reduceEq, ab_sum1, ab_ri_0, ab_ri_1, ab_ri_2, ab_ri_3, ab_ri_4, ab_ri_5, ab_ri_6, ab_ri_7, ab_ri_8, ab_ri_12, ab_ri_30, ab_ri_60, ab_ri_100, ab_ri_101, ab_ri_127, ab_ri_m1, ab_ri_m2, ab_ri_m3, ab_ri_m4, ab_ri_m5, ab_ri_m11, ab_ri_m13, ab_ri_m14, ab_ri_10, r0, q]
end MM
