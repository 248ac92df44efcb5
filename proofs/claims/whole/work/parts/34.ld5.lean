/-! ===== Ladder: fillForms ===== -/
def ab_fss (A F : Int → Int) (o r s : Int) : Nat → Int
  | 0 => 0
  | k + 1 => ab_fss A F o r s k + A (o * 19 + (s + k)) * F (r * 19 + (s + k))
def ab_fsx (A F : Int → Int) (b c : Int) : Int := if b = 0 then 1 else ab_fss A F c (ab_REST b) (ab_START (ab_LV b - ab_FIRST b)) (ab_wd (ab_LV b - ab_FIRST b)).toNat % 101
def ab_ftt (L : Int → Int) : Nat → Int → Int
  | 0 => fun _ => 0
  | k + 1 => fun j => ab_fsx (ab_AT L) (ab_ftt L k) (j / 19) (j % 19)
def ab_FT (L : Int → Int) : Int → Int := ab_ftt L 6
theorem ab_fsx_r {A F : Int → Int} {b c : Int} : 0 ≤ ab_fsx A F b c ∧ ab_fsx A F b c ≤ 100 := by
  unfold ab_fsx
  split <;> omega
theorem ab_FT_r {L : Int → Int} (j : Int) : 0 ≤ ab_FT L j ∧ ab_FT L j ≤ 100 := ab_fsx_r
theorem ab_fss_cg {A B F G : Int → Int} {o r s : Int} : ∀ k : Nat, (∀ i : Int, 0 ≤ i → i < k → A (o * 19 + (s + i)) = B (o * 19 + (s + i)) ∧ F (r * 19 + (s + i)) = G (r * 19 + (s + i))) → ab_fss A F o r s k = ab_fss B G o r s k
  | 0, _ => rfl
  | k + 1, h => by
    have ih := ab_fss_cg k (fun i h0 h1 => h i h0 (by omega))
    have e := h k (by omega) (by omega)
    unfold ab_fss
    rw [ih, e.1, e.2]
theorem ab_fss_r {A F : Int → Int} {o r s : Int} : ∀ k : Nat, (∀ i : Int, 0 ≤ i → i < k → (0 ≤ A (o * 19 + (s + i)) ∧ A (o * 19 + (s + i)) ≤ 100) ∧ 0 ≤ F (r * 19 + (s + i)) ∧ F (r * 19 + (s + i)) ≤ 100) → 0 ≤ ab_fss A F o r s k ∧ ab_fss A F o r s k ≤ 10000 * k
  | 0, _ => by unfold ab_fss; omega
  | k + 1, h => by
    have ih := ab_fss_r k (fun i h0 h1 => h i h0 (by omega))
    have ⟨m1, m2⟩ := h k (by omega) (by omega)
    have m3 := Int.mul_nonneg m1.1 m2.1
    have m4 : A (o * 19 + (s + k)) * F (r * 19 + (s + k)) ≤ 100 * 100 := Int.mul_le_mul m1.2 m2.2 m2.1 (by omega)
    unfold ab_fss
    omega
theorem ab_ftt_s {L : Int → Int} : ∀ (k : Nat) (b c : Int), ab_bb b → ab_bb c → ab_LV b < k → ab_ftt L k (b * 19 + c) = ab_ftt L (k + 1) (b * 19 + c)
  | 0, b, c, hb, hc, h => absurd (ab_lv_r hb).1 (by omega)
  | k + 1, b, c, hb, hc, h => by
    obtain ⟨c0, c1⟩ := hc
    rw [ab_ftt, ab_ftt]
    show ab_fsx _ _ _ _ = ab_fsx _ _ _ _
    rw [show (b * 19 + c) / 19 = b by omega, show (b * 19 + c) % 19 = c by omega]
    unfold ab_fsx
    by_cases h1 : b = 0
    · rw [if_pos h1, if_pos h1]
    · rw [if_neg h1, if_neg h1]
      have hr := ab_lv_r hb
      obtain ⟨k1, k2, k3, k4, k5, k6⟩ := ab_lv_k hb h1
      have hw := ab_wd_eq (lv := ab_LV b - ab_FIRST b) (by omega) (by omega)
      rw [ab_fss_cg _ fun i i0 i1 => ⟨rfl, ab_ftt_s k (ab_REST b) (ab_START (ab_LV b - ab_FIRST b) + i) k5 ⟨by omega, by omega⟩ (by omega)⟩]
theorem ab_FT_eq {L : Int → Int} {b c : Int} (hb : ab_bb b) (hc : ab_bb c) : ab_FT L (b * 19 + c) = ab_fsx (ab_AT L) (ab_FT L) b c := by
  have := ab_ftt_s (L := L) 6 b c hb hc (by have := ab_lv_r hb; omega)
  obtain ⟨c0, c1⟩ := hc
  unfold ab_FT
  rw [this, ab_ftt]
  show ab_fsx _ _ _ _ = ab_fsx _ _ _ _
  rw [show (b * 19 + c) / 19 = b by omega, show (b * 19 + c) % 19 = c by omega]
/-- a block of a table being laid: i whole rows, k places of the next -/
def ab_bk (G F : Int → Int) (s w i k : Int) : Int → Int := fun j => if (s ≤ j / 19 ∧ j / 19 < s + i ∧ s ≤ j % 19 ∧ j % 19 < s + w) ∨ (j / 19 = s + i ∧ s ≤ j % 19 ∧ j % 19 < s + k) then G j else F j
theorem ab_bk_0 {G F : Int → Int} {s w : Int} : ab_bk G F s w 0 0 = F := by
  funext j
  unfold ab_bk
  rw [if_neg (by omega)]
theorem ab_bk_n {G F : Int → Int} {s w i : Int} (i0 : 0 ≤ i) : ab_bk G F s w i w = ab_bk G F s w (i + 1) 0 := by
  funext j
  unfold ab_bk
  by_cases c : (s ≤ j / 19 ∧ j / 19 < s + i ∧ s ≤ j % 19 ∧ j % 19 < s + w) ∨ (j / 19 = s + i ∧ s ≤ j % 19 ∧ j % 19 < s + w)
  · rw [if_pos c, if_pos (by omega)]
  · rw [if_neg c, if_neg (by omega)]
theorem ab_bk_s {G F : Int → Int} {s w i k x : Int} (hs : 0 ≤ s) (k0 : 0 ≤ k) (h : s + k < 19) (hx : x = G ((s + i) * 19 + (s + k))) : ab_ui (ab_bk G F s w i k) ((s + i) * 19 + (s + k)) x = ab_bk G F s w i (k + 1) := by
  subst hx
  funext j
  unfold ab_ui ab_bk
  by_cases e : j = (s + i) * 19 + (s + k)
  · rw [if_pos e, e, if_pos (Or.inr (by omega))]
  · rw [if_neg e]
    by_cases c : (s ≤ j / 19 ∧ j / 19 < s + i ∧ s ≤ j % 19 ∧ j % 19 < s + w) ∨ (j / 19 = s + i ∧ s ≤ j % 19 ∧ j % 19 < s + k)
    · rw [if_pos c, if_pos (by omega)]
    · rw [if_neg c, if_neg (by omega)]
theorem ab_bk_lo {G F : Int → Int} {s w i k b c : Int} (hc : ab_bb c) (h : b < s) (i0 : 0 ≤ i) : ab_bk G F s w i k (b * 19 + c) = F (b * 19 + c) := by
  obtain ⟨c0, c1⟩ := hc
  unfold ab_bk
  rw [if_neg (by omega)]
theorem ab_bk_a01 {G F : Int → Int} {s w i k : Int} (hG : ∀ j, 0 ≤ G j ∧ G j ≤ 100) (hF : ab_a01 F) : ab_a01 (ab_bk G F s w i k) := by
  intro j h0 h1
  unfold ab_bk
  split
  · exact hG j
  · exact hF j h0 h1
section LD5
variable {h : ab_H} {n : Nat} {Q : ab_Q} {top : Int} {A F L : Int → Int}
theorem sp_fillForms {nn : Int} (hs : ab_stat h) (h1 : h 33 = some (ab_ld 34 40 41 42 43 44 top)) (h3 : h 41 = some (ab_ia 361 A)) (h4 : h 42 = some (ab_ia 361 F)) (hA : ab_a01 A) (hF : ab_a01 F) (hn : 0 ≤ nn ∧ nn ≤ 5)
    (hd : ∀ b c, ab_bb b → ab_bb c → ab_LV b ≤ nn → ab_LV c ≤ nn → A (b * 19 + c) = ab_AT L (b * 19 + c))
    (hf : ∀ b c, ab_bb b → ab_bb c → ab_LV b = ab_LV c → ab_LV b < nn → F (b * 19 + c) = ab_FT L (b * 19 + c))
    (q : Q none (ab_hs h 42 (ab_ia 361 (ab_bk (ab_FT L) F (ab_START nn) (ab_wd nn) (ab_wd nn) 0))) n) : ab_G 25 0 [some (vr 33), some (vi nn), none, none, none, none, none] [] h n (0, 0) Q := by
  have hnr : ab_inR nn = True := eq_true (by omega)
  by_cases c0 : nn = 0
  · subst c0
    have e : ab_ui F 0 1 = ab_bk (ab_FT L) F (ab_START 0) (ab_wd 0) (ab_wd 0) 0 := by
      have z := ab_bk_s (G := ab_FT L) (F := F) (s := 0) (w := 1) (i := 0) (k := 0) (x := 1) (by decide) (by decide) (by decide) (by rw [show ((0 : Int) + 0) * 19 + (0 + 0) = 0 * 19 + 0 from rfl, ab_FT_eq (by decide) (by decide)]; rfl)
      rw [ab_bk_0] at z
      have z2 := ab_bk_n (G := ab_FT L) (F := F) (s := 0) (w := 1) (i := 0) (by decide)
      exact z.trans z2
    rw [← e] at q
    have e3 : (0 : Int) < ((361 : Nat) : Int) := by omega
    simp only [s25_0, s25_1, s25_4, s25_5, s25_8, s25_9, s25_10, s25_11, true_and, and_true, true_implies, Option.toList_some, Option.toList_none, List.nil_append, List.cons_append, List.map_nil, List.map_cons, List.sum_nil, List.sum_cons, Nat.zero_le, ab_nl_n, ab_nl_i, ab_nl_r, ab_nl_0, ab_cat_i, ab_cat_r, ab_cat_l, Nat.reduceAdd, Nat.reduceLeDiff, Nat.add_zero, Nat.zero_add, reduceIte, List.getElem?_cons_succ, List.getElem?_cons_zero, List.length_cons, List.length_nil, List.set_cons_zero, List.set_cons_succ, true_or, or_true, Classical.not_not, not_true_eq_false, not_false_eq_true, ab_01r, ab_01z, ab_01n, false_implies, ab_tt, Nat.reduceLT, Nat.reduceEqDiff, Int.reduceNeg, Int.reduceLT, Int.reduceLE, Int.add_zero, Int.zero_add, List.append_nil, Int.reduceEq, ab_sum1, ab_ri_0, ab_ri_1, ab_ri_2, ab_ri_3, ab_ri_4, ab_ri_5, ab_ri_6, ab_ri_7, ab_ri_8, ab_ri_12, ab_ri_30, ab_ri_60, ab_ri_100, ab_ri_101, ab_ri_127, ab_ri_m1, ab_ri_m2, ab_ri_m3, ab_ri_m4, ab_ri_m5, ab_ri_m11, ab_ri_m13, ab_ri_m14, ab_ri_10, ab_fd, ab_as, h1, h4, e3, Int.le_refl, q]
  · have hw := ab_wd_eq hn.1 (by omega)
    have w7 : nn < ((7 : Nat) : Int) := by omega
    have w8 : nn + 1 < ((7 : Nat) : Int) := by omega
    have w9 : 0 ≤ nn + 1 := by omega
    have H33 : ∀ c, ab_hs h 42 c 33 = some (ab_ld 34 40 41 42 43 44 top) := fun c => (ab_hs_ne (by decide)).trans h1
    have H41 : ∀ c, ab_hs h 42 c 41 = some (ab_ia 361 A) := fun c => (ab_hs_ne (by decide)).trans h3
    have HS : ∀ c, ab_stat (ab_hs h 42 c) := fun c => ab_stat_hs (by decide) hs
    have hA' : ∀ j, 0 ≤ j → j < 361 → ab_inR (A j) := fun j k0 k1 => by have := hA j k0 k1; omega
    simp only [s25_0, s25_1, s25_4, s25_5, s25_8, s25_9, s25_10, s25_11, s25_12, s25_15, s25_16, s25_17, true_and, and_true, true_implies, Option.toList_some, Option.toList_none, List.nil_append, List.cons_append, List.map_nil, List.map_cons, List.sum_nil, List.sum_cons, Nat.zero_le, ab_nl_n, ab_nl_i, ab_nl_r, ab_nl_0, ab_cat_i, ab_cat_r, ab_cat_l, Nat.reduceAdd, Nat.reduceLeDiff, Nat.add_zero, Nat.zero_add, reduceIte, List.getElem?_cons_succ, List.getElem?_cons_zero, List.length_cons, List.length_nil, List.set_cons_zero, List.set_cons_succ, true_or, or_true, Classical.not_not, not_true_eq_false, not_false_eq_true, ab_01r, ab_01z, ab_01n, false_implies, ab_tt, Nat.reduceLT, Nat.reduceEqDiff, Int.reduceNeg, Int.reduceLT, Int.reduceLE, Int.add_zero, Int.zero_add, List.append_nil, Int.reduceEq, ab_sum1, ab_ri_0, ab_ri_1, ab_ri_2, ab_ri_3, ab_ri_4, ab_ri_5, ab_ri_6, ab_ri_7, ab_ri_8, ab_ri_12, ab_ri_30, ab_ri_60, ab_ri_100, ab_ri_101, ab_ri_127, ab_ri_m1, ab_ri_m2, ab_ri_m3, ab_ri_m4, ab_ri_m5, ab_ri_m11, ab_ri_m13, ab_ri_m14, ab_ri_10, ab_ai, hs.1, hn.1, w7, c0, hnr]
    have key := ab_dn (P := fun i => ∀ l3 l4 l5 l6 : Option ab_V, ab_nl [l3, l4, l5, l6] = true → ab_nl [l4, l5, l6] = true → ab_nl [l5, l6] = true → ab_nl [l6] = true → ab_G 25 18 [some (vr 33), some (vi nn), some (vi (ab_START nn + i)), l3, l4, l5, l6] [] (ab_hs h 42 (ab_ia 361 (ab_bk (ab_FT L) F (ab_START nn) (ab_wd nn) i 0))) n (0, 0) Q) (a := 0) (e := ab_wd nn) (by omega) ?_ ?_
    · have := key none none none none rfl rfl rfl rfl
      rw [ab_bk_0, ab_hs_id h4, Int.add_zero] at this
      exact this
    · intro l3 l4 l5 l6 k3 k4 k5 k6
      rw [s25_18]
      simp only [s25_19, s25_22, s25_23, s25_24, s25_25, s25_26, s25_138, true_and, and_true, true_implies, Option.toList_some, Option.toList_none, List.nil_append, List.cons_append, List.map_nil, List.map_cons, List.sum_nil, List.sum_cons, Nat.zero_le, ab_nl_n, ab_nl_i, ab_nl_r, ab_nl_0, ab_cat_i, ab_cat_r, ab_cat_l, Nat.reduceAdd, Nat.reduceLeDiff, Nat.add_zero, Nat.zero_add, reduceIte, List.getElem?_cons_succ, List.getElem?_cons_zero, List.length_cons, List.length_nil, List.set_cons_zero, List.set_cons_succ, true_or, or_true, Classical.not_not, not_true_eq_false, not_false_eq_true, ab_01r, ab_01z, ab_01n, false_implies, ab_tt, Nat.reduceLT, Nat.reduceEqDiff, Int.reduceNeg, Int.reduceLT, Int.reduceLE, Int.add_zero, Int.zero_add, List.append_nil, Int.reduceEq, ab_sum1, ab_ri_0, ab_ri_1, ab_ri_2, ab_ri_3, ab_ri_4, ab_ri_5, ab_ri_6, ab_ri_7, ab_ri_8, ab_ri_12, ab_ri_30, ab_ri_60, ab_ri_100, ab_ri_101, ab_ri_127, ab_ri_m1, ab_ri_m2, ab_ri_m3, ab_ri_m4, ab_ri_m5, ab_ri_m11, ab_ri_m13, ab_ri_m14, ab_ri_10, ab_ai, (HS _).1, w8, w9, hw.1, Int.le_refl, Int.lt_irrefl, q] <;> omega
    · intro i i0 i9 ih l3 l4 l5 l6 k3 k4 k5 k6
      have ni : ¬ ab_START nn + ab_wd nn ≤ ab_START nn + i := by omega
      have bi : ab_bb (ab_START nn + i) := ⟨by omega, by omega⟩
      have li := ab_lv_at hn.1 hn.2 i0 i9
      have bi0 : 0 ≤ ab_START nn + i := bi.1
      have bi1 : ab_START nn + i < ((19 : Nat) : Int) := bi.2
      have bn : ab_START nn + i ≠ 0 := fun z => c0 (by rw [z] at li; exact li.symm)
      have kk := ab_lv_k bi bn
      rw [li] at kk
      obtain ⟨k1, k2, k3', k4', k5', k6'⟩ := kk
      have hv := ab_wd_eq (lv := nn - ab_FIRST (ab_START nn + i)) (by omega) (by omega)
      have v7 : nn - ab_FIRST (ab_START nn + i) < ((7 : Nat) : Int) := by omega
      have v8 : nn - ab_FIRST (ab_START nn + i) + 1 < ((7 : Nat) : Int) := by omega
      have v9 : 0 ≤ nn - ab_FIRST (ab_START nn + i) + 1 := by omega
      have v0 : 0 ≤ nn - ab_FIRST (ab_START nn + i) := by omega
      have rlt : ab_REST (ab_START nn + i) < ab_START nn := by
        have := ab_tb_all (P := fun b => b ≠ 0 → ab_REST b < ab_START (ab_LV b)) (m := 19) (by decide) bi.1 bi.2 bn
        rw [li] at this
        exact this
      rw [s25_18]
      simp only [s25_19, s25_22, s25_23, s25_24, s25_25, s25_26, s25_29, s25_30, s25_33, s25_34, s25_35, s25_36, s25_37, s25_40, s25_41, s25_42, true_and, and_true, true_implies, Option.toList_some, Option.toList_none, List.nil_append, List.cons_append, List.map_nil, List.map_cons, List.sum_nil, List.sum_cons, Nat.zero_le, ab_nl_n, ab_nl_i, ab_nl_r, ab_nl_0, ab_cat_i, ab_cat_r, ab_cat_l, Nat.reduceAdd, Nat.reduceLeDiff, Nat.add_zero, Nat.zero_add, reduceIte, List.getElem?_cons_succ, List.getElem?_cons_zero, List.length_cons, List.length_nil, List.set_cons_zero, List.set_cons_succ, true_or, or_true, Classical.not_not, not_true_eq_false, not_false_eq_true, ab_01r, ab_01z, ab_01n, false_implies, ab_tt, Nat.reduceLT, Nat.reduceEqDiff, Int.reduceNeg, Int.reduceLT, Int.reduceLE, Int.add_zero, Int.zero_add, List.append_nil, Int.reduceEq, ab_sum1, ab_ri_0, ab_ri_1, ab_ri_2, ab_ri_3, ab_ri_4, ab_ri_5, ab_ri_6, ab_ri_7, ab_ri_8, ab_ri_12, ab_ri_30, ab_ri_60, ab_ri_100, ab_ri_101, ab_ri_127, ab_ri_m1, ab_ri_m2, ab_ri_m3, ab_ri_m4, ab_ri_m5, ab_ri_m11, ab_ri_m13, ab_ri_m14, ab_ri_10, ab_ai, (HS _).1, (HS _).2.2.2.1, w7, w8, w9, hw.1, hn.1, ni, bi0, bi1, k3, k4, k5, k6]
      (repeat refine And.intro (by omega) ?_)
      have key := ab_dn (P := fun k => ∀ l5 l6 : Option ab_V, ab_nl [l5, l6] = true → ab_nl [l6] = true → ab_G 25 44 [some (vr 33), some (vi nn), some (vi (ab_START nn + i)), some (vi (nn - ab_FIRST (ab_START nn + i))), some (vi (ab_START nn + k)), l5, l6] [] (ab_hs h 42 (ab_ia 361 (ab_bk (ab_FT L) F (ab_START nn) (ab_wd nn) i k))) n (0, 0) Q) (a := 0) (e := ab_wd nn) (by omega) ?_ ?_
      · have := key l5 l6 k5 k6
        rw [Int.add_zero] at this
        exact this
      · intro m5 m6 z5 z6
        have ih := ih (some (vi (nn - ab_FIRST (ab_START nn + i)))) (some (vi (ab_START nn + ab_wd nn))) m5 m6 z5 z5 z5 z6
        rw [← ab_bk_n i0, show ab_START nn + (i + 1) = ab_START nn + i + 1 by omega] at ih
        rw [s25_44]
        simp only [s25_46, s25_49, s25_50, s25_51, s25_52, s25_53, s25_132, s25_135, true_and, and_true, true_implies, Option.toList_some, Option.toList_none, List.nil_append, List.cons_append, List.map_nil, List.map_cons, List.sum_nil, List.sum_cons, Nat.zero_le, ab_nl_n, ab_nl_i, ab_nl_r, ab_nl_0, ab_cat_i, ab_cat_r, ab_cat_l, Nat.reduceAdd, Nat.reduceLeDiff, Nat.add_zero, Nat.zero_add, reduceIte, List.getElem?_cons_succ, List.getElem?_cons_zero, List.length_cons, List.length_nil, List.set_cons_zero, List.set_cons_succ, true_or, or_true, Classical.not_not, not_true_eq_false, not_false_eq_true, ab_01r, ab_01z, ab_01n, false_implies, ab_tt, Nat.reduceLT, Nat.reduceEqDiff, Int.reduceNeg, Int.reduceLT, Int.reduceLE, Int.add_zero, Int.zero_add, List.append_nil, Int.reduceEq, ab_sum1, ab_ri_0, ab_ri_1, ab_ri_2, ab_ri_3, ab_ri_4, ab_ri_5, ab_ri_6, ab_ri_7, ab_ri_8, ab_ri_12, ab_ri_30, ab_ri_60, ab_ri_100, ab_ri_101, ab_ri_127, ab_ri_m1, ab_ri_m2, ab_ri_m3, ab_ri_m4, ab_ri_m5, ab_ri_m11, ab_ri_m13, ab_ri_m14, ab_ri_10, ab_ai, (HS _).1, w8, w9, hw.1, Int.le_refl, Int.lt_irrefl, z5, z6, ih] <;> omega
      · intro k i0' i9' jh m5 m6 z5 z6
        have nk : ¬ ab_START nn + ab_wd nn ≤ ab_START nn + k := by omega
        have bk : ab_bb (ab_START nn + k) := ⟨by omega, by omega⟩
        have lk := ab_lv_at hn.1 hn.2 i0' i9'
        rw [s25_44]
        simp only [s25_46, s25_49, s25_50, s25_51, s25_52, s25_53, s25_56, s25_57, s25_59, s25_62, s25_63, s25_64, true_and, and_true, true_implies, Option.toList_some, Option.toList_none, List.nil_append, List.cons_append, List.map_nil, List.map_cons, List.sum_nil, List.sum_cons, Nat.zero_le, ab_nl_n, ab_nl_i, ab_nl_r, ab_nl_0, ab_cat_i, ab_cat_r, ab_cat_l, Nat.reduceAdd, Nat.reduceLeDiff, Nat.add_zero, Nat.zero_add, reduceIte, List.getElem?_cons_succ, List.getElem?_cons_zero, List.length_cons, List.length_nil, List.set_cons_zero, List.set_cons_succ, true_or, or_true, Classical.not_not, not_true_eq_false, not_false_eq_true, ab_01r, ab_01z, ab_01n, false_implies, ab_tt, Nat.reduceLT, Nat.reduceEqDiff, Int.reduceNeg, Int.reduceLT, Int.reduceLE, Int.add_zero, Int.zero_add, List.append_nil, Int.reduceEq, ab_sum1, ab_ri_0, ab_ri_1, ab_ri_2, ab_ri_3, ab_ri_4, ab_ri_5, ab_ri_6, ab_ri_7, ab_ri_8, ab_ri_12, ab_ri_30, ab_ri_60, ab_ri_100, ab_ri_101, ab_ri_127, ab_ri_m1, ab_ri_m2, ab_ri_m3, ab_ri_m4, ab_ri_m5, ab_ri_m11, ab_ri_m13, ab_ri_m14, ab_ri_10, ab_ai, (HS _).1, w8, w9, hw.1, nk, v0, v7, z5, z6]
        (repeat refine And.intro (by omega) ?_)
        have hT : ab_a01 (ab_bk (ab_FT L) F (ab_START nn) (ab_wd nn) i k) := ab_bk_a01 ab_FT_r hF
        have hT' : ∀ j, 0 ≤ j → j < 361 → ab_inR (ab_bk (ab_FT L) F (ab_START nn) (ab_wd nn) i k j) := fun j k0 k1 => by have := hT j k0 k1; omega
        have hlo : ∀ c, ab_bb c → ab_bk (ab_FT L) F (ab_START nn) (ab_wd nn) i k (ab_REST (ab_START nn + i) * 19 + c) = F (ab_REST (ab_START nn + i) * 19 + c) := fun c hc => ab_bk_lo hc rlt i0
        revert jh hT hT' hlo
        generalize hTe : ab_bk (ab_FT L) F (ab_START nn) (ab_wd nn) i k = T
        intro jh hT hT' hlo
        refine ab_lp 0 (ab_wd (nn - ab_FIRST (ab_START nn + i))) (fun j => [some (vr 33), some (vi nn), some (vi (ab_START nn + i)), some (vi (nn - ab_FIRST (ab_START nn + i))), some (vi (ab_START nn + k)), some (vi (ab_fss A T (ab_START nn + k) (ab_REST (ab_START nn + i)) (ab_START (nn - ab_FIRST (ab_START nn + i))) j.toNat)), some (vi (ab_START (nn - ab_FIRST (ab_START nn + i)) + j))]) (fun _ => ab_hs h 42 (ab_ia 361 T)) (by omega) (by rw [Int.add_zero]; rfl) rfl ?_ ?_
        · have hb := ab_fss_r (A := A) (F := T) (o := ab_START nn + k) (r := ab_REST (ab_START nn + i)) (s := ab_START (nn - ab_FIRST (ab_START nn + i))) (ab_wd (nn - ab_FIRST (ab_START nn + i))).toNat (fun j j0 j1 => ⟨hA _ (by omega) (by omega), hT _ (by omega) (by omega)⟩)
          have ev : ab_fss A T (ab_START nn + k) (ab_REST (ab_START nn + i)) (ab_START (nn - ab_FIRST (ab_START nn + i))) (ab_wd (nn - ab_FIRST (ab_START nn + i))).toNat % 101 = ab_FT L ((ab_START nn + i) * 19 + (ab_START nn + k)) := by
            rw [ab_FT_eq bi bk, ab_fsx, if_neg bn, li]
            rw [ab_fss_cg (B := ab_AT L) (G := ab_FT L)]
            intro j j0 j1
            have lj := ab_lv_at (t := nn - ab_FIRST (ab_START nn + i)) v0 (by omega) j0 (by omega)
            have bj : ab_bb (ab_START (nn - ab_FIRST (ab_START nn + i)) + j) := ⟨by omega, by omega⟩
            exact ⟨hd _ _ bk bj (by omega) (by omega), (hlo _ bj).trans (hf _ _ k5' bj (by omega) (by omega))⟩
          have e0 : 0 ≤ (ab_START nn + i) * 19 + (ab_START nn + k) := by omega
          have e1 : (ab_START nn + i) * 19 + (ab_START nn + k) < ((361 : Nat) : Int) := by omega
          have es := ab_bk_s (G := ab_FT L) (F := F) (s := ab_START nn) (w := ab_wd nn) (i := i) (k := k) (by omega) i0' bk.2 ev
          rw [hTe] at es
          have jh := jh (some (vi (ab_fss A T (ab_START nn + k) (ab_REST (ab_START nn + i)) (ab_START (nn - ab_FIRST (ab_START nn + i))) (ab_wd (nn - ab_FIRST (ab_START nn + i))).toNat))) (some (vi (ab_START (nn - ab_FIRST (ab_START nn + i)) + ab_wd (nn - ab_FIRST (ab_START nn + i))))) rfl rfl
          rw [← es, show ab_START nn + (k + 1) = ab_START nn + k + 1 by omega] at jh
          rw [s25_66]
          simp only [s25_68, s25_71, s25_72, s25_73, s25_74, s25_75, s25_109, s25_110, s25_113, s25_114, s25_116, s25_117, s25_119, s25_120, s25_122, s25_124, s25_125, s25_126, s25_129, true_and, and_true, true_implies, Option.toList_some, Option.toList_none, List.nil_append, List.cons_append, List.map_nil, List.map_cons, List.sum_nil, List.sum_cons, Nat.zero_le, ab_nl_n, ab_nl_i, ab_nl_r, ab_nl_0, ab_cat_i, ab_cat_r, ab_cat_l, Nat.reduceAdd, Nat.reduceLeDiff, Nat.add_zero, Nat.zero_add, reduceIte, List.getElem?_cons_succ, List.getElem?_cons_zero, List.length_cons, List.length_nil, List.set_cons_zero, List.set_cons_succ, true_or, or_true, Classical.not_not, not_true_eq_false, not_false_eq_true, ab_01r, ab_01z, ab_01n, false_implies, ab_tt, Nat.reduceLT, Nat.reduceEqDiff, Int.reduceNeg, Int.reduceLT, Int.reduceLE, Int.add_zero, Int.zero_add, List.append_nil, Int.reduceEq, ab_sum1, ab_ri_0, ab_ri_1, ab_ri_2, ab_ri_3, ab_ri_4, ab_ri_5, ab_ri_6, ab_ri_7, ab_ri_8, ab_ri_12, ab_ri_30, ab_ri_60, ab_ri_100, ab_ri_101, ab_ri_127, ab_ri_m1, ab_ri_m2, ab_ri_m3, ab_ri_m4, ab_ri_m5, ab_ri_m11, ab_ri_m13, ab_ri_m14, ab_ri_10, ab_fd, ab_ai, ab_as, (HS _).1, H33, ab_hs_self, ab_hs_hs, v8, v9, hv.1, Int.le_refl, Int.lt_irrefl, e0, e1, ab_md hb.1, jh] <;> omega
        · intro j j0 j9 lh
          have ej : (j + 1).toNat = j.toNat + 1 := by omega
          have ec : ((j.toNat : Nat) : Int) = j := Int.toNat_of_nonneg j0
          have nj : ¬ ab_START (nn - ab_FIRST (ab_START nn + i)) + ab_wd (nn - ab_FIRST (ab_START nn + i)) ≤ ab_START (nn - ab_FIRST (ab_START nn + i)) + j := by omega
          rw [ej, ab_fss, ec, show ab_START (nn - ab_FIRST (ab_START nn + i)) + (j + 1) = ab_START (nn - ab_FIRST (ab_START nn + i)) + j + 1 by omega] at lh
          rw [s25_66]
          simp only [s25_68, s25_71, s25_72, s25_73, s25_74, s25_75, s25_78, s25_80, s25_81, s25_83, s25_85, s25_88, s25_89, s25_92, s25_93, s25_94, s25_96, s25_99, s25_100, s25_101, s25_103, s25_106, true_and, and_true, true_implies, Option.toList_some, Option.toList_none, List.nil_append, List.cons_append, List.map_nil, List.map_cons, List.sum_nil, List.sum_cons, Nat.zero_le, ab_nl_n, ab_nl_i, ab_nl_r, ab_nl_0, ab_cat_i, ab_cat_r, ab_cat_l, Nat.reduceAdd, Nat.reduceLeDiff, Nat.add_zero, Nat.zero_add, reduceIte, List.getElem?_cons_succ, List.getElem?_cons_zero, List.length_cons, List.length_nil, List.set_cons_zero, List.set_cons_succ, true_or, or_true, Classical.not_not, not_true_eq_false, not_false_eq_true, ab_01r, ab_01z, ab_01n, false_implies, ab_tt, Nat.reduceLT, Nat.reduceEqDiff, Int.reduceNeg, Int.reduceLT, Int.reduceLE, Int.add_zero, Int.zero_add, List.append_nil, Int.reduceEq, ab_sum1, ab_ri_0, ab_ri_1, ab_ri_2, ab_ri_3, ab_ri_4, ab_ri_5, ab_ri_6, ab_ri_7, ab_ri_8, ab_ri_12, ab_ri_30, ab_ri_60, ab_ri_100, ab_ri_101, ab_ri_127, ab_ri_m1, ab_ri_m2, ab_ri_m3, ab_ri_m4, ab_ri_m5, ab_ri_m11, ab_ri_m13, ab_ri_m14, ab_ri_10, ab_fd, ab_ai, ab_vc, ab_sv_3_96, ab_sv_3_106, (HS _).1, (HS _).2.2.1, H33, H41, v8, v9, hv.1, nj, bi0, bi1, sp_made (by decide) (by decide) (H33 _) (H41 _) bk (show 0 ≤ ab_START (nn - ab_FIRST (ab_START nn + i)) + j ∧ ab_START (nn - ab_FIRST (ab_START nn + i)) + j < 19 by omega) hA', sp_formed (by decide) (by decide) (H33 _) ab_hs_self k5' (show 0 ≤ ab_START (nn - ab_FIRST (ab_START nn + i)) + j ∧ ab_START (nn - ab_FIRST (ab_START nn + i)) + j < 19 by omega) hT', lh] <;> omega
end LD5
