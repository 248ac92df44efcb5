/-! ===== the calls: vanishing, odds, plans ===== -/
theorem ab_rd_g {R C : Int} {M : Int → Int → Int} {g : Int → Int} (hR : 0 ≤ R ∧ R ≤ 12) (hv : ab_v2 M) : ∀ k : Nat, ∀ j : Int, 0 ≤ j → j < k → (ab_rd R C M g k).2.1 j = -1 ∨ (0 ≤ (ab_rd R C M g k).2.1 j ∧ (ab_rd R C M g k).2.1 j < (ab_rd R C M g k).2.2.1)
  | 0, j, j0, j1 => absurd j0 (by omega)
  | k + 1, j, j0, j1 => by
    have ih := ab_rd_g (C := C) (g := g) hR hv k j j0
    have ok := ab_rd_ok (C := C) (g := g) hR.1 hR.2 hv k
    rw [ab_rd]
    revert ih ok
    generalize ab_rd R C M g k = z
    obtain ⟨N, g', F, P⟩ := z
    intro ih ok
    simp only at ih ok ⊢
    have f0 : 0 ≤ F := ok.2.1
    unfold ab_rdx
    simp only
    split
    · show ab_ui g' k (-1) j = -1 ∨ _
      by_cases e : j = k
      · rw [e, ab_ui_at]; exact Or.inl rfl
      · show ab_ui g' k (-1) j = -1 ∨ (0 ≤ ab_ui g' k (-1) j ∧ ab_ui g' k (-1) j < F)
        rw [ab_ui_ne e]; exact ih (by omega)
    · split
      · show ab_ui g' k F j = -1 ∨ (0 ≤ ab_ui g' k F j ∧ ab_ui g' k F j < F + 1)
        by_cases e : j = k
        · rw [e, ab_ui_at]; omega
        · rw [ab_ui_ne e]; have := ih (by omega); omega
      · show ab_ui g' k F j = -1 ∨ (0 ≤ ab_ui g' k F j ∧ ab_ui g' k F j < F + 1)
        by_cases e : j = k
        · rw [e, ab_ui_at]; omega
        · rw [ab_ui_ne e]; have := ih (by omega); omega
theorem ab_fc_cg {g g' : Int → Int} {C : Int} : ∀ (k : Nat) (c : Int), 0 ≤ c → c + k ≤ C → (∀ j, 0 ≤ j → j < C → g j = g' j) → ab_fc g c k = ab_fc g' c k
  | 0, _, _, _, _ => rfl
  | k + 1, c, h0, h1, h => by
    have ih := ab_fc_cg k (c + 1) (by omega) (by omega) h
    unfold ab_fc
    rw [ih, h c h0 (by omega)]
theorem ab_raw_cg {M N : Int → Int → Int} {g g' : Int → Int} {c free R C : Int} (hM : ab_sm2 M N R C) (hg : g c = g' c) (hr : g c < R) (hf : 0 ≤ free ∧ free < C) : ab_raw M g c free = ab_raw N g' c free := by
  unfold ab_raw
  rw [← hg]
  by_cases z : g c < 0
  · rw [if_pos z, if_pos z]
  · rw [if_neg z, if_neg z, hM (g c) free (by omega) hr hf.1 hf.2]
theorem ab_nn_cg {M N : Int → Int → Int} {g g' : Int → Int} {free i R C : Int} (hM : ab_sm2 M N R C) (hg : ∀ j, 0 ≤ j → j < C → g j = g' j ∧ g j < R) (hf : 0 ≤ free ∧ free < C) (hi : 0 ≤ i ∧ i < C) : ∀ (k : Nat) (c : Int), 0 ≤ c → c + k ≤ C → ab_nn M g free i c k = ab_nn N g' free i c k
  | 0, _, _, _ => rfl
  | k + 1, c, c0, c1 => by
    have ih := ab_nn_cg hM hg hf hi k (c + 1) (by omega) (by omega)
    have g1 := hg c c0 (by omega)
    have g2 := hg i hi.1 hi.2
    unfold ab_nn
    rw [ih, ab_raw_cg hM g1.1 g1.2 hf, ab_raw_cg hM g2.1 g2.2 hf]
def ab_s_van (X : ab_X) (l i : Int) : Int := if 0 ≤ l ∧ l ≤ 5 then (if i = -1 then ab_wd l - (ab_lr (X 0) l).2.2.1 else if ab_wd l - (ab_lr (X 0) l).2.2.1 = 1 ∧ ab_isB l i then ab_nn (ab_lr (X 0) l).1 (ab_lr (X 0) l).2.1 (ab_fc (ab_lr (X 0) l).2.1 0 (ab_wd l).toNat) i 0 (ab_wd l).toNat else -5) else -1
theorem ab_lr_cg {L B : Int → Int} (h : ∀ j, 0 ≤ j → j < 4 → L j = B j) (l : Int) : ab_lr L l = ab_lr B l := by
  unfold ab_lr ab_lw
  rw [ab_AT_cg h]
theorem ab_lw_v {L : Int → Int} {l : Int} (hL : ab_lok L) : ab_v2 (ab_lw L l) := fun _ _ _ _ _ _ => ab_AT_r hL _
/-- a draw: how it goes on -/
def ab_ez (T : Int → Int) : Nat → Int → Int → (Int → Int) → Int
  | 0, _, _, f => if ab_nz f 7 = 0 then 1 else 0
  | k + 1, z, hg, f =>
    if hg - ((z * 1103515245 + 12345) % 4294967296 / 65536 % 5 - 2) < 0 then 1
    else if hg - ((z * 1103515245 + 12345) % 4294967296 / 65536 % 5 - 2) ≤ 5 then ab_ez T k (z * 1103515245 + 12345) (hg - ((z * 1103515245 + 12345) % 4294967296 / 65536 % 5 - 2)) (ab_mv T f hg (hg - ((z * 1103515245 + 12345) % 4294967296 / 65536 % 5 - 2)))
    else ab_ez T k (z * 1103515245 + 12345) hg f
def ab_od (T : Int → Int) (nn seed : Int) : Nat → Int
  | 0 => 0
  | s + 1 => ab_od T nn seed s + ab_ez T nn.toNat (seed + s) 0 (ab_un1 0)
theorem ab_ez_r {T : Int → Int} : ∀ (k : Nat) (z hg : Int) (f : Int → Int), ab_ez T k z hg f = 0 ∨ ab_ez T k z hg f = 1
  | 0, z, hg, f => by
    unfold ab_ez
    split
    · exact Or.inr rfl
    · exact Or.inl rfl
  | k + 1, z, hg, f => by
    unfold ab_ez
    split
    · exact Or.inr rfl
    · split
      · exact ab_ez_r k _ _ _
      · exact ab_ez_r k _ _ _
theorem ab_od_r {T : Int → Int} {nn seed : Int} : ∀ k : Nat, 0 ≤ ab_od T nn seed k ∧ ab_od T nn seed k ≤ k
  | 0 => by unfold ab_od; omega
  | k + 1 => by
    have := ab_od_r (T := T) (nn := nn) (seed := seed) k
    have := ab_ez_r (T := T) nn.toNat (seed + k) 0 (ab_un1 0)
    unfold ab_od
    omega
def ab_s_odds (X : ab_X) (nn seed m part : Int) : Int64 := if ((1 ≤ nn ∧ nn ≤ 9) ∧ 1 ≤ m ∧ m ≤ 30) ∧ 0 ≤ part ∧ part ≤ 1 then Int64.ofInt ((if part = 0 then ab_od (ab_AT (X 0)) nn seed m.toNat else m).tdiv (ab_cd (ab_od (ab_AT (X 0)) nn seed m.toNat) m m.toNat)) else -9223372036854775808
theorem ab_cd_r {a b : Int} : ∀ d : Nat, 1 ≤ ab_cd a b d ∧ (ab_cd a b d ≤ 1 ∨ ab_cd a b d ≤ d)
  | 0 => by unfold ab_cd; omega
  | d + 1 => by
    have := ab_cd_r (a := a) (b := b) d
    unfold ab_cd
    (repeat' split) <;> omega
/-- a plan's row -/
def ab_rw (X : ab_X) (w b : Int) (z : Int × (Int → Int)) : Int × (Int → Int) :=
  if w = 0 then (if z.1 - b < 0 then (0, fun _ => 0) else if z.1 - b ≤ 5 then (z.1 - b, ab_mv (ab_AT (X 0)) z.2 z.1 (z.1 - b)) else z)
  else if w = 1 then (z.1, fun i => z.2 i * b % 101)
  else if X 1 b = z.1 then (z.1, fun i => (z.2 i + X 2 (7 * b + i)) % 101) else z
def ab_rws (X : ab_X) (z : Int × (Int → Int)) : Nat → Int × (Int → Int)
  | 0 => z
  | k + 1 => ab_rw X (X 3 k) (X 4 k) (ab_rws X z k)
def ab_zok (z : Int × (Int → Int)) : Prop := (0 ≤ z.1 ∧ z.1 ≤ 5) ∧ ∀ i, 0 ≤ i → i < 7 → 0 ≤ z.2 i ∧ z.2 i ≤ 100
theorem ab_rw_ok {X : ab_X} {w b : Int} {z : Int × (Int → Int)} (h : ab_zok z) : ab_zok (ab_rw X w b z) := by
  obtain ⟨hg, f⟩ := z
  unfold ab_rw
  split
  · split
    · exact ⟨⟨Int.le_refl 0, by show (0 : Int) ≤ 5; decide⟩, fun i _ _ => ⟨Int.le_refl 0, by show (0 : Int) ≤ 100; decide⟩⟩
    · split
      · exact ⟨⟨by omega, by omega⟩, fun i _ _ => ab_mv_r⟩
      · exact h
  · split
    · exact ⟨h.1, fun i _ _ => by show 0 ≤ f i * b % 101 ∧ f i * b % 101 ≤ 100; omega⟩
    · split
      · exact ⟨h.1, fun i _ _ => by show 0 ≤ (f i + X 2 (7 * b + i)) % 101 ∧ (f i + X 2 (7 * b + i)) % 101 ≤ 100; omega⟩
      · exact h
theorem ab_rws_ok {X : ab_X} {z : Int × (Int → Int)} (h : ab_zok z) : ∀ k, ab_zok (ab_rws X z k)
  | 0 => h
  | k + 1 => ab_rw_ok (ab_rws_ok h k)
def ab_s_behind (X : ab_X) (v i : Int) : Int := if ab_isV v then (if i = -1 then (ab_rws X (X 1 v, ab_cv X v) (X 5 0).toNat).1 else if ab_isB (ab_rws X (X 1 v, ab_cv X v) (X 5 0).toNat).1 i then (ab_rws X (X 1 v, ab_cv X v) (X 5 0).toNat).2 i else -5) else -1
def ab_s_plan (X : ab_X) (w v : Int) : Int := if w = -1 then 0 else if 0 ≤ w ∧ w ≤ 2 then (if ab_rok w v then (if X 5 0 < 8 then X 5 0 + 1 else -4) else -2) else -1
def ab_n_plan (X : ab_X) (w v : Int) : ab_X := if w = -1 then ab_up X 5 (ab_ui (X 5) 0 0) else if ((0 ≤ w ∧ w ≤ 2) ∧ ab_rok w v) ∧ X 5 0 < 8 then ab_up (ab_up (ab_up X 3 (ab_ui (X 3) (X 5 0) w)) 4 (ab_ui (X 4) (X 5 0) v)) 5 (ab_ui (X 5) 0 (X 5 0 + 1)) else X
section JF
variable {h : ab_H} {n : Nat} {Q : ab_Q} {X : ab_X} {Y : Int → Int64}
theorem xc_van {lv i : Int} (hs : ab_stat h) (J : ab_JC X Y h) (I : ab_XI X) (hlv : ab_inR lv) (hi : ab_inR i) (q : ∀ h', ab_eqo 6 67 h h' → ab_JC X Y h' → Q (some (vi (ab_s_van X lv i))) h' n) : ab_G 78 0 [some (vr 6), some (vi lv), some (vi i), none, none] [] h n (0, 0) Q := by
  have J' := J
  obtain ⟨j1, j2, j3, j4, j5, j6, j7, j8, j9⟩ := J'
  obtain ⟨l, hvv, f, ws, bs, ⟨k1, k2, k3, k4, k5, k6⟩, k7, k8, k9, k10, k11⟩ := ab_now_o j2
  have hl := ab_lok_cg k7 I.1.1
  have hir : ab_inR i = True := eq_true hi
  unfold ab_s_van at q
  by_cases c : 0 ≤ lv ∧ lv ≤ 5
  · rw [if_pos c, ← ab_lr_cg k7] at q
    have hw := ab_wd_eq c.1 (by omega)
    have hst12 : ab_START lv ≤ 12 := ab_tb_all (P := fun l => ab_START l ≤ 12) (m := 6) (by decide) c.1 (by omega)
    obtain ⟨B, A, F, Mv, top, ⟨d1, -⟩, -⟩ := id j4
    simp (disch := omega) only [s78_0, s78_1, s78_4, s78_7, s78_8, s78_9, s78_10, s78_13, s78_14, s78_17, s78_20, s78_21, true_and, and_true, true_implies, Option.toList_some, Option.toList_none, List.nil_append, List.cons_append, List.map_nil, List.map_cons, List.sum_nil, List.sum_cons, Nat.zero_le, ab_nl_n, ab_nl_i, ab_nl_r, ab_nl_0, ab_cat_i, ab_cat_r, ab_cat_l, Nat.reduceAdd, Nat.reduceLeDiff, Nat.add_zero, Nat.zero_add, reduceIte, List.getElem?_cons_succ, List.getElem?_cons_zero, List.length_cons, List.length_nil, List.set_cons_zero, List.set_cons_succ, true_or, or_true, Classical.not_not, not_true_eq_false, not_false_eq_true, ab_01r, ab_01z, ab_01n, false_implies, ab_tt, Nat.reduceLT, Nat.reduceEqDiff, Int.reduceNeg, Int.reduceLT, Int.reduceLE, Int.add_zero, Int.zero_add, List.append_nil, Int.reduceEq, ab_sum1, ab_ri_0, ab_ri_1, ab_ri_2, ab_ri_3, ab_ri_4, ab_ri_5, ab_ri_6, ab_ri_7, ab_ri_8, ab_ri_12, ab_ri_30, ab_ri_60, ab_ri_100, ab_ri_101, ab_ri_127, ab_ri_m1, ab_ri_m2, ab_ri_m3, ab_ri_m4, ab_ri_m5, ab_ri_m11, ab_ri_m13, ab_ri_m14, ab_ri_10, sp_isLevel, ab_01n, ab_01z, c, ab_fd, j1, k1, d1, ab_vc, ab_sv_11_115, ab_sv_11_141, ab_sv_11_147, Nat.reduceLeDiff]
    refine sp_build hs j4 (by decide) (by decide) k2 hl c fun h1 he lad => ?_
    have hs' := ab_stat_fr (by decide) he hs
    obtain ⟨B, A, F, Mv, top, ⟨d1, -⟩, -⟩ := id lad
    have e6 : h1 6 = some (ab_mn (X 5 3)) := (he 6 (by decide)).trans j1
    simp only [s78_24, s78_25, s78_28, s78_29, true_and, and_true, true_implies, Option.toList_some, Option.toList_none, List.nil_append, List.cons_append, List.map_nil, List.map_cons, List.sum_nil, List.sum_cons, Nat.zero_le, ab_nl_n, ab_nl_i, ab_nl_r, ab_nl_0, ab_cat_i, ab_cat_r, ab_cat_l, Nat.reduceAdd, Nat.reduceLeDiff, Nat.add_zero, Nat.zero_add, reduceIte, List.getElem?_cons_succ, List.getElem?_cons_zero, List.length_cons, List.length_nil, List.set_cons_zero, List.set_cons_succ, true_or, or_true, Classical.not_not, not_true_eq_false, not_false_eq_true, ab_01r, ab_01z, ab_01n, false_implies, ab_tt, Nat.reduceLT, Nat.reduceEqDiff, Int.reduceNeg, Int.reduceLT, Int.reduceLE, Int.add_zero, Int.zero_add, List.append_nil, Int.reduceEq, ab_sum1, ab_ri_0, ab_ri_1, ab_ri_2, ab_ri_3, ab_ri_4, ab_ri_5, ab_ri_6, ab_ri_7, ab_ri_8, ab_ri_12, ab_ri_30, ab_ri_60, ab_ri_100, ab_ri_101, ab_ri_127, ab_ri_m1, ab_ri_m2, ab_ri_m3, ab_ri_m4, ab_ri_m5, ab_ri_m11, ab_ri_m13, ab_ri_m14, ab_ri_10, ab_fd, ab_vc, ab_sv_11_115, ab_sv_11_141, ab_sv_11_147, e6, d1, Nat.reduceLeDiff]
    refine sp_reducedLowerings hs' lad ⟨c.1, Int.le_refl _⟩ c.2 fun h2 N g e2 lad2 hN hsm hg hgst => ?_
    obtain ⟨g1, g2, g3, g4⟩ := hgst
    have hs2 := ab_stat_fr (by decide) e2 hs'
    have q := q h2 (fun a ha => (e2 a (by omega)).trans (he a (by omega))) (ab_JC_lad (fun a ha => (e2 a (by omega)).trans (he a ha)) J lad2)
    have ok := ab_rd_ok (R := ab_START lv) (C := ab_wd lv) (g := fun _ => 0) (by omega) hst12 (ab_lw_v (l := lv) hl) (ab_wd lv).toNat
    have hgr := ab_rd_g (R := ab_START lv) (C := ab_wd lv) (g := fun _ => 0) ⟨by omega, hst12⟩ (ab_lw_v (l := lv) hl) (ab_wd lv).toNat
    have e0 : ab_rd (ab_START lv) (ab_wd lv) (ab_lw l lv) (fun _ => 0) (ab_wd lv).toNat = ab_lr l lv := rfl
    rw [e0] at ok hgr
    revert q ok hgr hsm hg g1
    generalize ab_lr l lv = z
    obtain ⟨M, g', F', P'⟩ := z
    intro hsm hg g1 q ok hgr
    simp only at q ok hgr hsm hg g1
    obtain ⟨o1, o2, o3, o4, o5⟩ := ok
    simp only at o1 o2 o3 o4 o5
    by_cases c2 : i = -1
    · rw [if_pos c2] at q
      have c2t : (i = -1) = True := eq_true c2
      simp only [s78_32, s78_33, s78_34, s78_37, s78_38, s78_41, s78_42, s78_44, s78_45, s78_46, s78_49, s78_51, true_and, and_true, true_implies, Option.toList_some, Option.toList_none, List.nil_append, List.cons_append, List.map_nil, List.map_cons, List.sum_nil, List.sum_cons, Nat.zero_le, ab_nl_n, ab_nl_i, ab_nl_r, ab_nl_0, ab_cat_i, ab_cat_r, ab_cat_l, Nat.reduceAdd, Nat.reduceLeDiff, Nat.add_zero, Nat.zero_add, reduceIte, List.getElem?_cons_succ, List.getElem?_cons_zero, List.length_cons, List.length_nil, List.set_cons_zero, List.set_cons_succ, true_or, or_true, Classical.not_not, not_true_eq_false, not_false_eq_true, ab_01r, ab_01z, ab_01n, false_implies, ab_tt, Nat.reduceLT, Nat.reduceEqDiff, Int.reduceNeg, Int.reduceLT, Int.reduceLE, Int.add_zero, Int.zero_add, List.append_nil, Int.reduceEq, ab_sum1, ab_ri_0, ab_ri_1, ab_ri_2, ab_ri_3, ab_ri_4, ab_ri_5, ab_ri_6, ab_ri_7, ab_ri_8, ab_ri_12, ab_ri_30, ab_ri_60, ab_ri_100, ab_ri_101, ab_ri_127, ab_ri_m1, ab_ri_m2, ab_ri_m3, ab_ri_m4, ab_ri_m5, ab_ri_m11, ab_ri_m13, ab_ri_m14, ab_ri_10, ab_fd, g1, c2t, hir, Nat.reduceLeDiff, q]
    · rw [if_neg c2] at q
      have hr1 : ab_inR (ab_wd lv - F') = True := eq_true (by omega)
      by_cases c3 : ab_wd lv - F' = 1
      · have c3t : (ab_wd lv - F' = 1) = True := eq_true c3
        by_cases c4 : ab_isB lv i
        · rw [if_pos ⟨c3, c4⟩] at q
          simp only [s78_32, s78_33, s78_34, s78_37, s78_38, s78_41, s78_42, s78_44, s78_45, s78_46, s78_49, s78_51, s78_52, s78_54, s78_55, s78_58, s78_59, s78_60, s78_63, s78_66, s78_68, s78_69, s78_70, s78_71, true_and, and_true, true_implies, Option.toList_some, Option.toList_none, List.nil_append, List.cons_append, List.map_nil, List.map_cons, List.sum_nil, List.sum_cons, Nat.zero_le, ab_nl_n, ab_nl_i, ab_nl_r, ab_nl_0, ab_cat_i, ab_cat_r, ab_cat_l, Nat.reduceAdd, Nat.reduceLeDiff, Nat.add_zero, Nat.zero_add, reduceIte, List.getElem?_cons_succ, List.getElem?_cons_zero, List.length_cons, List.length_nil, List.set_cons_zero, List.set_cons_succ, true_or, or_true, Classical.not_not, not_true_eq_false, not_false_eq_true, ab_01r, ab_01z, ab_01n, false_implies, ab_tt, Nat.reduceLT, Nat.reduceEqDiff, Int.reduceNeg, Int.reduceLT, Int.reduceLE, Int.add_zero, Int.zero_add, List.append_nil, Int.reduceEq, ab_sum1, ab_ri_0, ab_ri_1, ab_ri_2, ab_ri_3, ab_ri_4, ab_ri_5, ab_ri_6, ab_ri_7, ab_ri_8, ab_ri_12, ab_ri_30, ab_ri_60, ab_ri_100, ab_ri_101, ab_ri_127, ab_ri_m1, ab_ri_m2, ab_ri_m3, ab_ri_m4, ab_ri_m5, ab_ri_m11, ab_ri_m13, ab_ri_m14, ab_ri_10, ab_fd, ab_vc, ab_sv_11_115, ab_sv_11_141, ab_sv_11_147, sp_isBasis hlv hi hs2, ab_01n, ab_01z, eq_true c4, g1, c2, c3t, hir, hr1, Nat.reduceLeDiff]
          have hgb : ∀ j, 0 ≤ j → j < ab_wd lv → g j = g' j ∧ g j < ab_START lv ∧ -1 ≤ g j := fun j j0 j1 => by
            have a1 := hg j j0 j1
            have a2 := hgr j j0 (by omega)
            rw [a1]
            omega
          refine sp_nullNumber (by decide) (by decide) (by decide) g1 g2 g3 g4 (fun j j0 j1 => by have := hgb j j0 j1; omega) ⟨by omega, by omega⟩ c4.2 ?_
          have hfr := ab_fc_r (g := g) (C := ab_wd lv) (ab_wd lv).toNat 0 (Int.le_refl 0) (by omega) hw.2.1
          rw [ab_nn_cg hsm (fun j j0 j1 => ⟨(hgb j j0 j1).1, (hgb j j0 j1).2.1⟩) hfr c4.2 _ 0 (Int.le_refl 0) (by omega), ab_fc_cg (g' := g') (C := ab_wd lv) _ 0 (Int.le_refl 0) (by omega) (fun j j0 j1 => (hgb j j0 j1).1)]
          simp only [s78_74, true_and, and_true, true_implies, Option.toList_some, Option.toList_none, List.nil_append, List.cons_append, List.map_nil, List.map_cons, List.sum_nil, List.sum_cons, Nat.zero_le, ab_nl_n, ab_nl_i, ab_nl_r, ab_nl_0, ab_cat_i, ab_cat_r, ab_cat_l, Nat.reduceAdd, Nat.reduceLeDiff, Nat.add_zero, Nat.zero_add, reduceIte, List.getElem?_cons_succ, List.getElem?_cons_zero, List.length_cons, List.length_nil, List.set_cons_zero, List.set_cons_succ, true_or, or_true, Classical.not_not, not_true_eq_false, not_false_eq_true, ab_01r, ab_01z, ab_01n, false_implies, ab_tt, Nat.reduceLT, Nat.reduceEqDiff, Int.reduceNeg, Int.reduceLT, Int.reduceLE, Int.add_zero, Int.zero_add, List.append_nil, Int.reduceEq, ab_sum1, ab_ri_0, ab_ri_1, ab_ri_2, ab_ri_3, ab_ri_4, ab_ri_5, ab_ri_6, ab_ri_7, ab_ri_8, ab_ri_12, ab_ri_30, ab_ri_60, ab_ri_100, ab_ri_101, ab_ri_127, ab_ri_m1, ab_ri_m2, ab_ri_m3, ab_ri_m4, ab_ri_m5, ab_ri_m11, ab_ri_m13, ab_ri_m14, ab_ri_10, q]
        · rw [if_neg (fun z => c4 z.2)] at q
          simp only [s78_32, s78_33, s78_34, s78_37, s78_38, s78_41, s78_42, s78_44, s78_45, s78_46, s78_49, s78_51, s78_52, s78_54, s78_55, s78_58, s78_59, s78_60, s78_63, s78_66, s78_68, true_and, and_true, true_implies, Option.toList_some, Option.toList_none, List.nil_append, List.cons_append, List.map_nil, List.map_cons, List.sum_nil, List.sum_cons, Nat.zero_le, ab_nl_n, ab_nl_i, ab_nl_r, ab_nl_0, ab_cat_i, ab_cat_r, ab_cat_l, Nat.reduceAdd, Nat.reduceLeDiff, Nat.add_zero, Nat.zero_add, reduceIte, List.getElem?_cons_succ, List.getElem?_cons_zero, List.length_cons, List.length_nil, List.set_cons_zero, List.set_cons_succ, true_or, or_true, Classical.not_not, not_true_eq_false, not_false_eq_true, ab_01r, ab_01z, ab_01n, false_implies, ab_tt, Nat.reduceLT, Nat.reduceEqDiff, Int.reduceNeg, Int.reduceLT, Int.reduceLE, Int.add_zero, Int.zero_add, List.append_nil, Int.reduceEq, ab_sum1, ab_ri_0, ab_ri_1, ab_ri_2, ab_ri_3, ab_ri_4, ab_ri_5, ab_ri_6, ab_ri_7, ab_ri_8, ab_ri_12, ab_ri_30, ab_ri_60, ab_ri_100, ab_ri_101, ab_ri_127, ab_ri_m1, ab_ri_m2, ab_ri_m3, ab_ri_m4, ab_ri_m5, ab_ri_m11, ab_ri_m13, ab_ri_m14, ab_ri_10, ab_fd, sp_isBasis hlv hi hs2, ab_01n, ab_01z, c4, g1, c2, c3t, hir, hr1, Nat.reduceLeDiff, q]
      · rw [if_neg (fun z => c3 z.1)] at q
        simp only [s78_32, s78_33, s78_34, s78_37, s78_38, s78_41, s78_42, s78_44, s78_45, s78_46, s78_49, s78_51, s78_52, s78_54, s78_55, s78_58, s78_59, s78_60, s78_63, s78_66, s78_68, true_and, and_true, true_implies, Option.toList_some, Option.toList_none, List.nil_append, List.cons_append, List.map_nil, List.map_cons, List.sum_nil, List.sum_cons, Nat.zero_le, ab_nl_n, ab_nl_i, ab_nl_r, ab_nl_0, ab_cat_i, ab_cat_r, ab_cat_l, Nat.reduceAdd, Nat.reduceLeDiff, Nat.add_zero, Nat.zero_add, reduceIte, List.getElem?_cons_succ, List.getElem?_cons_zero, List.length_cons, List.length_nil, List.set_cons_zero, List.set_cons_succ, true_or, or_true, Classical.not_not, not_true_eq_false, not_false_eq_true, ab_01r, ab_01z, ab_01n, false_implies, ab_tt, Nat.reduceLT, Nat.reduceEqDiff, Int.reduceNeg, Int.reduceLT, Int.reduceLE, Int.add_zero, Int.zero_add, List.append_nil, Int.reduceEq, ab_sum1, ab_ri_0, ab_ri_1, ab_ri_2, ab_ri_3, ab_ri_4, ab_ri_5, ab_ri_6, ab_ri_7, ab_ri_8, ab_ri_12, ab_ri_30, ab_ri_60, ab_ri_100, ab_ri_101, ab_ri_127, ab_ri_m1, ab_ri_m2, ab_ri_m3, ab_ri_m4, ab_ri_m5, ab_ri_m11, ab_ri_m13, ab_ri_m14, ab_ri_10, ab_fd, g1, c2, c3, hir, hr1, Nat.reduceLeDiff, q]
  · rw [if_neg c] at q
    have q := q h (fun _ _ => rfl) J
    simp (disch := omega) only [s78_0, s78_1, s78_4, s78_7, s78_8, true_and, and_true, true_implies, Option.toList_some, Option.toList_none, List.nil_append, List.cons_append, List.map_nil, List.map_cons, List.sum_nil, List.sum_cons, Nat.zero_le, ab_nl_n, ab_nl_i, ab_nl_r, ab_nl_0, ab_cat_i, ab_cat_r, ab_cat_l, Nat.reduceAdd, Nat.reduceLeDiff, Nat.add_zero, Nat.zero_add, reduceIte, List.getElem?_cons_succ, List.getElem?_cons_zero, List.length_cons, List.length_nil, List.set_cons_zero, List.set_cons_succ, true_or, or_true, Classical.not_not, not_true_eq_false, not_false_eq_true, ab_01r, ab_01z, ab_01n, false_implies, ab_tt, Nat.reduceLT, Nat.reduceEqDiff, Int.reduceNeg, Int.reduceLT, Int.reduceLE, Int.add_zero, Int.zero_add, List.append_nil, Int.reduceEq, ab_sum1, ab_ri_0, ab_ri_1, ab_ri_2, ab_ri_3, ab_ri_4, ab_ri_5, ab_ri_6, ab_ri_7, ab_ri_8, ab_ri_12, ab_ri_30, ab_ri_60, ab_ri_100, ab_ri_101, ab_ri_127, ab_ri_m1, ab_ri_m2, ab_ri_m3, ab_ri_m4, ab_ri_m5, ab_ri_m11, ab_ri_m13, ab_ri_m14, ab_ri_10, sp_isLevel, ab_01n, ab_01z, c, q]
abbrev ab_fth (h h' : ab_H) : Prop := ∀ a, (a < 33 ∨ (46 < a ∧ a < 58) ∨ 59 < a) → h' a = h a
theorem ab_stat_th {h h' : ab_H} (e2 : ab_fth h h') (hs : ab_stat h) : ab_stat h' := ⟨(e2 1 (by decide)).trans hs.1, (e2 2 (by decide)).trans hs.2.1, (e2 3 (by decide)).trans hs.2.2.1, (e2 4 (by decide)).trans hs.2.2.2.1, (e2 5 (by decide)).trans hs.2.2.2.2⟩
theorem ab_JC_th {h h' : ab_H} {L : Int → Int} {u : Int} (e2 : ab_fth h h') (J : ab_JC X Y h) (k1 : ab_lad h' L u) (k2 : ∃ t g, h' 58 = some (ab_vec 59 t) ∧ h' 59 = some (ab_ia 7 g)) : ab_JC X Y h' := by
  obtain ⟨j1, j2, j3, j4, j5, j6, j7, ⟨t1, t2, g1, g2, s1, s2, s3, s4⟩, j9⟩ := id J
  obtain ⟨t, g, b1, b2⟩ := k2
  exact ab_JC_scr (fun a ha => e2 a (by omega)) J (ab_lad_any k1) (ab_swp_fr (fun a _ _ => e2 a (by omega)) j5) ⟨t, t2, g, g2, b1, b2, (e2 60 (by decide)).trans s3, (e2 61 (by decide)).trans s4⟩
theorem sp_endsAsZero {nn z hi : Int} {L : Int → Int} (hs : ab_stat h) (hl : ab_lad h L 5) (h6 : h 6 = some (ab_mn hi)) (ht : ∃ t g, h 58 = some (ab_vec 59 t) ∧ h 59 = some (ab_ia 7 g)) (hn : 0 ≤ nn ∧ nn ≤ 9) (q : ∀ h', ab_fth h h' → ab_lad h' L 5 → (∃ t g, h' 58 = some (ab_vec 59 t) ∧ h' 59 = some (ab_ia 7 g)) → Q (some (vi (ab_ez (ab_AT L) nn.toNat z 0 (ab_un1 0)))) h' n) : ab_G 115 0 [some (vr 6), some (vi nn), some (vi z), none, none, none, none] [] h n (0, 0) Q := by
  obtain ⟨t, g, b1, b2⟩ := ht
  have hnr : ab_inR nn = True := eq_true (by omega)
  simp only [s115_0, s115_1, s115_2, s115_3, s115_6, s115_7, s115_8, true_and, and_true, true_implies, Option.toList_some, Option.toList_none, List.nil_append, List.cons_append, List.map_nil, List.map_cons, List.sum_nil, List.sum_cons, Nat.zero_le, ab_nl_n, ab_nl_i, ab_nl_r, ab_nl_0, ab_cat_i, ab_cat_r, ab_cat_l, Nat.reduceAdd, Nat.reduceLeDiff, Nat.add_zero, Nat.zero_add, reduceIte, List.getElem?_cons_succ, List.getElem?_cons_zero, List.length_cons, List.length_nil, List.set_cons_zero, List.set_cons_succ, true_or, or_true, Classical.not_not, not_true_eq_false, not_false_eq_true, ab_01r, ab_01z, ab_01n, false_implies, ab_tt, Nat.reduceLT, Nat.reduceEqDiff, Int.reduceNeg, Int.reduceLT, Int.reduceLE, Int.add_zero, Int.zero_add, List.append_nil, Int.reduceEq, ab_sum1, ab_ri_0, ab_ri_1, ab_ri_2, ab_ri_3, ab_ri_4, ab_ri_5, ab_ri_6, ab_ri_7, ab_ri_8, ab_ri_12, ab_ri_30, ab_ri_60, ab_ri_100, ab_ri_101, ab_ri_127, ab_ri_m1, ab_ri_m2, ab_ri_m3, ab_ri_m4, ab_ri_m5, ab_ri_m11, ab_ri_m13, ab_ri_m14, ab_ri_10, ab_fd, ab_vc, ab_sv_11_187, ab_sv_11_200, ab_sv_11_211, h6, b1, Nat.reduceLeDiff]
  refine sp_becomeBasis (by decide) (by decide) (by decide) b1 b2 ⟨by decide, by decide⟩ ?_
  simp only [s115_11, s115_12, true_and, and_true, true_implies, Option.toList_some, Option.toList_none, List.nil_append, List.cons_append, List.map_nil, List.map_cons, List.sum_nil, List.sum_cons, Nat.zero_le, ab_nl_n, ab_nl_i, ab_nl_r, ab_nl_0, ab_cat_i, ab_cat_r, ab_cat_l, Nat.reduceAdd, Nat.reduceLeDiff, Nat.add_zero, Nat.zero_add, reduceIte, List.getElem?_cons_succ, List.getElem?_cons_zero, List.length_cons, List.length_nil, List.set_cons_zero, List.set_cons_succ, true_or, or_true, Classical.not_not, not_true_eq_false, not_false_eq_true, ab_01r, ab_01z, ab_01n, false_implies, ab_tt, Nat.reduceLT, Nat.reduceEqDiff, Int.reduceNeg, Int.reduceLT, Int.reduceLE, Int.add_zero, Int.zero_add, List.append_nil, Int.reduceEq, ab_sum1, ab_ri_0, ab_ri_1, ab_ri_2, ab_ri_3, ab_ri_4, ab_ri_5, ab_ri_6, ab_ri_7, ab_ri_8, ab_ri_12, ab_ri_30, ab_ri_60, ab_ri_100, ab_ri_101, ab_ri_127, ab_ri_m1, ab_ri_m2, ab_ri_m3, ab_ri_m4, ab_ri_m5, ab_ri_m11, ab_ri_m13, ab_ri_m14, ab_ri_10]
  have key := ab_dn (P := fun i => ∀ h' zz hg f g (l5 l6 : Option ab_V), ab_nl [l5, l6] = true → ab_nl [l6] = true → ab_fth h h' → ab_lad h' L 5 → h' 58 = some (ab_vec 59 hg) → h' 59 = some (ab_ia 7 g) → (∀ j, 0 ≤ j → j < 7 → g j = f j ∧ 0 ≤ f j ∧ f j ≤ 100) → (0 ≤ hg ∧ hg ≤ 5) → (∀ h', ab_fth h h' → ab_lad h' L 5 → (∃ t g, h' 58 = some (ab_vec 59 t) ∧ h' 59 = some (ab_ia 7 g)) → Q (some (vi (ab_ez (ab_AT L) (nn - i).toNat zz hg f))) h' n) → ab_G 115 14 [some (vr 6), some (vi nn), some (vi z), some (vi zz), some (vi i), l5, l6] [] h' n (0, 0) Q) (a := 0) (e := nn) hn.1 ?_ ?_
  · refine key _ z 0 (ab_un1 0) _ none none rfl rfl (fun a ha => (ab_hs_ne (by omega)).trans (ab_hs_ne (by omega))) (ab_lad_fr (fun a _ _ => (ab_hs_ne (by omega)).trans (ab_hs_ne (by omega))) hl) ((ab_hs_ne (by decide)).trans ab_hs_self) ab_hs_self (fun j j0 j7 => ?_) ⟨by decide, by decide⟩ (by rw [Int.sub_zero]; exact q)
    unfold ab_un1
    by_cases e : j = 0
    · rw [e, ab_ui_at, if_pos rfl]; decide
    · rw [ab_ui_ne e, if_neg e, ab_fi_lo ⟨j0, j7⟩]; decide
  · intro h1 zz hg f g l5 l6 z5 z6 e1 lad x1 x2 hf hg0 q
    rw [Int.sub_self, show (0 : Int).toNat = 0 from rfl, ab_ez] at q
    have q := q h1 e1 lad ⟨hg, g, x1, x2⟩
    have e6 := (e1 6 (by decide)).trans h6
    rw [s115_14]
    simp only [s115_16, s115_17, s115_84, s115_85, s115_88, true_and, and_true, true_implies, Option.toList_some, Option.toList_none, List.nil_append, List.cons_append, List.map_nil, List.map_cons, List.sum_nil, List.sum_cons, Nat.zero_le, ab_nl_n, ab_nl_i, ab_nl_r, ab_nl_0, ab_cat_i, ab_cat_r, ab_cat_l, Nat.reduceAdd, Nat.reduceLeDiff, Nat.add_zero, Nat.zero_add, reduceIte, List.getElem?_cons_succ, List.getElem?_cons_zero, List.length_cons, List.length_nil, List.set_cons_zero, List.set_cons_succ, true_or, or_true, Classical.not_not, not_true_eq_false, not_false_eq_true, ab_01r, ab_01z, ab_01n, false_implies, ab_tt, Nat.reduceLT, Nat.reduceEqDiff, Int.reduceNeg, Int.reduceLT, Int.reduceLE, Int.add_zero, Int.zero_add, List.append_nil, Int.reduceEq, ab_sum1, ab_ri_0, ab_ri_1, ab_ri_2, ab_ri_3, ab_ri_4, ab_ri_5, ab_ri_6, ab_ri_7, ab_ri_8, ab_ri_12, ab_ri_30, ab_ri_60, ab_ri_100, ab_ri_101, ab_ri_127, ab_ri_m1, ab_ri_m2, ab_ri_m3, ab_ri_m4, ab_ri_m5, ab_ri_m11, ab_ri_m13, ab_ri_m14, ab_ri_10, ab_fd, ab_vc, ab_sv_11_187, ab_sv_11_200, ab_sv_11_211, e6, x1, Int.le_refl, hnr, Nat.reduceLeDiff]
    refine sp_isZero (by decide) (by decide) x1 x2 (fun i i0 i7 => by have := hf i i0 i7; rw [this.1]; exact this.2) ?_
    rw [ab_nz_cg 7 (fun i i0 i7 => (hf i i0 i7).1)]
    by_cases c : ab_nz f 7 = 0
    · rw [if_pos c] at q ⊢
      simp only [s115_91, true_and, and_true, true_implies, Option.toList_some, Option.toList_none, List.nil_append, List.cons_append, List.map_nil, List.map_cons, List.sum_nil, List.sum_cons, Nat.zero_le, ab_nl_n, ab_nl_i, ab_nl_r, ab_nl_0, ab_cat_i, ab_cat_r, ab_cat_l, Nat.reduceAdd, Nat.reduceLeDiff, Nat.add_zero, Nat.zero_add, reduceIte, List.getElem?_cons_succ, List.getElem?_cons_zero, List.length_cons, List.length_nil, List.set_cons_zero, List.set_cons_succ, true_or, or_true, Classical.not_not, not_true_eq_false, not_false_eq_true, ab_01r, ab_01z, ab_01n, false_implies, ab_tt, Nat.reduceLT, Nat.reduceEqDiff, Int.reduceNeg, Int.reduceLT, Int.reduceLE, Int.add_zero, Int.zero_add, List.append_nil, Int.reduceEq, ab_sum1, ab_ri_0, ab_ri_1, ab_ri_2, ab_ri_3, ab_ri_4, ab_ri_5, ab_ri_6, ab_ri_7, ab_ri_8, ab_ri_12, ab_ri_30, ab_ri_60, ab_ri_100, ab_ri_101, ab_ri_127, ab_ri_m1, ab_ri_m2, ab_ri_m3, ab_ri_m4, ab_ri_m5, ab_ri_m11, ab_ri_m13, ab_ri_m14, ab_ri_10, q]
    · rw [if_neg c] at q ⊢
      simp only [s115_91, true_and, and_true, true_implies, Option.toList_some, Option.toList_none, List.nil_append, List.cons_append, List.map_nil, List.map_cons, List.sum_nil, List.sum_cons, Nat.zero_le, ab_nl_n, ab_nl_i, ab_nl_r, ab_nl_0, ab_cat_i, ab_cat_r, ab_cat_l, Nat.reduceAdd, Nat.reduceLeDiff, Nat.add_zero, Nat.zero_add, reduceIte, List.getElem?_cons_succ, List.getElem?_cons_zero, List.length_cons, List.length_nil, List.set_cons_zero, List.set_cons_succ, true_or, or_true, Classical.not_not, not_true_eq_false, not_false_eq_true, ab_01r, ab_01z, ab_01n, false_implies, ab_tt, Nat.reduceLT, Nat.reduceEqDiff, Int.reduceNeg, Int.reduceLT, Int.reduceLE, Int.add_zero, Int.zero_add, List.append_nil, Int.reduceEq, ab_sum1, ab_ri_0, ab_ri_1, ab_ri_2, ab_ri_3, ab_ri_4, ab_ri_5, ab_ri_6, ab_ri_7, ab_ri_8, ab_ri_12, ab_ri_30, ab_ri_60, ab_ri_100, ab_ri_101, ab_ri_127, ab_ri_m1, ab_ri_m2, ab_ri_m3, ab_ri_m4, ab_ri_m5, ab_ri_m11, ab_ri_m13, ab_ri_m14, ab_ri_10, q]
  · intro i i0 i9 ih h1 zz hg f g l5 l6 z5 z6 e1 lad x1 x2 hf hg0 q
    have ei : (nn - i).toNat = (nn - (i + 1)).toNat + 1 := by omega
    rw [ei] at q
    simp only [ab_ez] at q
    have e6 := (e1 6 (by decide)).trans h6
    have c1 : ¬ nn ≤ i := by omega
    have hzr : ∀ y : Int, 0 ≤ y % 4294967296 / 65536 ∧ y % 4294967296 / 65536 < 65536 := fun y => by omega
    have hz2 := hzr (zz * 1103515245 + 12345)
    have em : ((zz * 1103515245 + 12345) % 4294967296 / 65536).tmod 5 = (zz * 1103515245 + 12345) % 4294967296 / 65536 % 5 := Int.tmod_eq_emod_of_nonneg hz2.1
    rw [s115_14]
    simp only [s115_16, s115_17, s115_20, s115_21, s115_24, s115_25, s115_28, s115_29, s115_30, s115_31, s115_33, s115_34, s115_35, s115_36, s115_37, s115_38, s115_40, s115_41, s115_44, s115_47, s115_49, s115_50, true_and, and_true, true_implies, Option.toList_some, Option.toList_none, List.nil_append, List.cons_append, List.map_nil, List.map_cons, List.sum_nil, List.sum_cons, Nat.zero_le, ab_nl_n, ab_nl_i, ab_nl_r, ab_nl_0, ab_cat_i, ab_cat_r, ab_cat_l, Nat.reduceAdd, Nat.reduceLeDiff, Nat.add_zero, Nat.zero_add, reduceIte, List.getElem?_cons_succ, List.getElem?_cons_zero, List.length_cons, List.length_nil, List.set_cons_zero, List.set_cons_succ, true_or, or_true, Classical.not_not, not_true_eq_false, not_false_eq_true, ab_01r, ab_01z, ab_01n, false_implies, ab_tt, Nat.reduceLT, Nat.reduceEqDiff, Int.reduceNeg, Int.reduceLT, Int.reduceLE, Int.add_zero, Int.zero_add, List.append_nil, Int.reduceEq, ab_sum1, ab_ri_0, ab_ri_1, ab_ri_2, ab_ri_3, ab_ri_4, ab_ri_5, ab_ri_6, ab_ri_7, ab_ri_8, ab_ri_12, ab_ri_30, ab_ri_60, ab_ri_100, ab_ri_101, ab_ri_127, ab_ri_m1, ab_ri_m2, ab_ri_m3, ab_ri_m4, ab_ri_m5, ab_ri_m11, ab_ri_m13, ab_ri_m14, ab_ri_10, ab_fd, e6, x1, c1, em, hnr, z5, z6, Nat.reduceLeDiff]
    (repeat refine And.intro (by omega) ?_)
    have hmm0 : -2 ≤ (zz * 1103515245 + 12345) % 4294967296 / 65536 % 5 - 2 ∧ (zz * 1103515245 + 12345) % 4294967296 / 65536 % 5 - 2 ≤ 2 := by omega
    revert q hmm0
    generalize (zz * 1103515245 + 12345) % 4294967296 / 65536 % 5 - 2 = mm
    generalize zz * 1103515245 + 12345 = z'
    intro q hmm
    by_cases c2 : hg - mm < 0
    · rw [if_pos c2] at q
      have q := q h1 e1 lad ⟨hg, g, x1, x2⟩
      have c2n : ¬ 0 ≤ hg - mm := by omega
      simp only [s115_52, s115_54, s115_57, s115_58, true_and, and_true, true_implies, Option.toList_some, Option.toList_none, List.nil_append, List.cons_append, List.map_nil, List.map_cons, List.sum_nil, List.sum_cons, Nat.zero_le, ab_nl_n, ab_nl_i, ab_nl_r, ab_nl_0, ab_cat_i, ab_cat_r, ab_cat_l, Nat.reduceAdd, Nat.reduceLeDiff, Nat.add_zero, Nat.zero_add, reduceIte, List.getElem?_cons_succ, List.getElem?_cons_zero, List.length_cons, List.length_nil, List.set_cons_zero, List.set_cons_succ, true_or, or_true, Classical.not_not, not_true_eq_false, not_false_eq_true, ab_01r, ab_01z, ab_01n, false_implies, ab_tt, Nat.reduceLT, Nat.reduceEqDiff, Int.reduceNeg, Int.reduceLT, Int.reduceLE, Int.add_zero, Int.zero_add, List.append_nil, Int.reduceEq, ab_sum1, ab_ri_0, ab_ri_1, ab_ri_2, ab_ri_3, ab_ri_4, ab_ri_5, ab_ri_6, ab_ri_7, ab_ri_8, ab_ri_12, ab_ri_30, ab_ri_60, ab_ri_100, ab_ri_101, ab_ri_127, ab_ri_m1, ab_ri_m2, ab_ri_m3, ab_ri_m4, ab_ri_m5, ab_ri_m11, ab_ri_m13, ab_ri_m14, ab_ri_10, c2n, q] <;> omega
    · rw [if_neg c2] at q
      have c2n : 0 ≤ hg - mm := by omega
      by_cases c3 : hg - mm ≤ 5
      · rw [if_pos c3] at q
        have c3n : ¬ 5 < hg - mm := by omega
        obtain ⟨B, A, F, Mv, top, ⟨d1, -⟩, -⟩ := id lad
        simp only [s115_52, s115_54, s115_57, s115_58, s115_59, s115_61, s115_62, s115_65, s115_66, s115_69, s115_70, s115_73, s115_75, true_and, and_true, true_implies, Option.toList_some, Option.toList_none, List.nil_append, List.cons_append, List.map_nil, List.map_cons, List.sum_nil, List.sum_cons, Nat.zero_le, ab_nl_n, ab_nl_i, ab_nl_r, ab_nl_0, ab_cat_i, ab_cat_r, ab_cat_l, Nat.reduceAdd, Nat.reduceLeDiff, Nat.add_zero, Nat.zero_add, reduceIte, List.getElem?_cons_succ, List.getElem?_cons_zero, List.length_cons, List.length_nil, List.set_cons_zero, List.set_cons_succ, true_or, or_true, Classical.not_not, not_true_eq_false, not_false_eq_true, ab_01r, ab_01z, ab_01n, false_implies, ab_tt, Nat.reduceLT, Nat.reduceEqDiff, Int.reduceNeg, Int.reduceLT, Int.reduceLE, Int.add_zero, Int.zero_add, List.append_nil, Int.reduceEq, ab_sum1, ab_ri_0, ab_ri_1, ab_ri_2, ab_ri_3, ab_ri_4, ab_ri_5, ab_ri_6, ab_ri_7, ab_ri_8, ab_ri_12, ab_ri_30, ab_ri_60, ab_ri_100, ab_ri_101, ab_ri_127, ab_ri_m1, ab_ri_m2, ab_ri_m3, ab_ri_m4, ab_ri_m5, ab_ri_m11, ab_ri_m13, ab_ri_m14, ab_ri_10, ab_fd, ab_vc, ab_sv_11_187, ab_sv_11_200, ab_sv_11_211, e6, d1, c2n, c3n, Nat.reduceLeDiff]
        (repeat refine And.intro (by omega) ?_)
        refine sp_move (ab_stat_th e1 hs) lad ⟨by decide, by decide⟩ ⟨by decide, by decide⟩ (by decide) x1 x2 hg0 ⟨c2n, c3⟩ (Int.le_refl 5) (fun i i0 i7 => by have := hf i i0 i7; rw [this.1]; exact this.2) fun h2 e2 y1 y2 lad2 => ?_
        have ih := ih h2 z' (hg - mm) (ab_mv (ab_AT L) f hg (hg - mm)) _ (some (vi mm)) (some (vi (hg - mm))) rfl rfl (fun a ha => (e2 a (by omega) (by omega) (by omega)).trans (e1 a ha)) lad2 y1 y2 (fun j j0 j7 => ⟨by rw [ab_fi_lo ⟨j0, j7⟩, ab_mv_cg hg0 (fun i i0 i7 => (hf i i0 i7).1)], ab_mv_r⟩) ⟨c2n, c3⟩ q
        simp only [s115_78, s115_81, true_and, and_true, true_implies, Option.toList_some, Option.toList_none, List.nil_append, List.cons_append, List.map_nil, List.map_cons, List.sum_nil, List.sum_cons, Nat.zero_le, ab_nl_n, ab_nl_i, ab_nl_r, ab_nl_0, ab_cat_i, ab_cat_r, ab_cat_l, Nat.reduceAdd, Nat.reduceLeDiff, Nat.add_zero, Nat.zero_add, reduceIte, List.getElem?_cons_succ, List.getElem?_cons_zero, List.length_cons, List.length_nil, List.set_cons_zero, List.set_cons_succ, true_or, or_true, Classical.not_not, not_true_eq_false, not_false_eq_true, ab_01r, ab_01z, ab_01n, false_implies, ab_tt, Nat.reduceLT, Nat.reduceEqDiff, Int.reduceNeg, Int.reduceLT, Int.reduceLE, Int.add_zero, Int.zero_add, List.append_nil, Int.reduceEq, ab_sum1, ab_ri_0, ab_ri_1, ab_ri_2, ab_ri_3, ab_ri_4, ab_ri_5, ab_ri_6, ab_ri_7, ab_ri_8, ab_ri_12, ab_ri_30, ab_ri_60, ab_ri_100, ab_ri_101, ab_ri_127, ab_ri_m1, ab_ri_m2, ab_ri_m3, ab_ri_m4, ab_ri_m5, ab_ri_m11, ab_ri_m13, ab_ri_m14, ab_ri_10, ih]
      · rw [if_neg c3] at q
        have c3n : 5 < hg - mm := by omega
        have ih := ih h1 z' hg f g (some (vi mm)) (some (vi (hg - mm))) rfl rfl e1 lad x1 x2 hf hg0 q
        simp only [s115_52, s115_54, s115_57, s115_58, s115_59, s115_61, s115_62, s115_78, s115_81, true_and, and_true, true_implies, Option.toList_some, Option.toList_none, List.nil_append, List.cons_append, List.map_nil, List.map_cons, List.sum_nil, List.sum_cons, Nat.zero_le, ab_nl_n, ab_nl_i, ab_nl_r, ab_nl_0, ab_cat_i, ab_cat_r, ab_cat_l, Nat.reduceAdd, Nat.reduceLeDiff, Nat.add_zero, Nat.zero_add, reduceIte, List.getElem?_cons_succ, List.getElem?_cons_zero, List.length_cons, List.length_nil, List.set_cons_zero, List.set_cons_succ, true_or, or_true, Classical.not_not, not_true_eq_false, not_false_eq_true, ab_01r, ab_01z, ab_01n, false_implies, ab_tt, Nat.reduceLT, Nat.reduceEqDiff, Int.reduceNeg, Int.reduceLT, Int.reduceLE, Int.add_zero, Int.zero_add, List.append_nil, Int.reduceEq, ab_sum1, ab_ri_0, ab_ri_1, ab_ri_2, ab_ri_3, ab_ri_4, ab_ri_5, ab_ri_6, ab_ri_7, ab_ri_8, ab_ri_12, ab_ri_30, ab_ri_60, ab_ri_100, ab_ri_101, ab_ri_127, ab_ri_m1, ab_ri_m2, ab_ri_m3, ab_ri_m4, ab_ri_m5, ab_ri_m11, ab_ri_m13, ab_ri_m14, ab_ri_10, c2n, c3n, ih] <;> omega
theorem xc_odds {nn seed m part : Int} (hs : ab_stat h) (J : ab_JC X Y h) (I : ab_XI X) (hn : ab_inR nn) (hm : ab_inR m) (hp : ab_inR part) (q : ∀ h', ab_eqo 6 67 h h' → ab_JC X Y h' → Q (some (vl (ab_s_odds X nn seed m part))) h' n) : ab_G 90 0 [some (vr 6), some (vi nn), some (vi seed), some (vi m), some (vi part), none, none] [] h n (0, 0) Q := by
  have J' := J
  obtain ⟨j1, j2, j3, j4, j5, j6, j7, j8, j9⟩ := J'
  obtain ⟨l, hvv, f, ws, bs, ⟨k1, k2, k3, k4, k5, k6⟩, k7, k8, k9, k10, k11⟩ := ab_now_o j2
  have hl := ab_lok_cg k7 I.1.1
  have hnr : ab_inR nn = True := eq_true hn
  have hmr : ab_inR m = True := eq_true hm
  have h9 : ab_inR 9 = True := eq_true (by omega)
  unfold ab_s_odds at q
  by_cases c1 : 1 ≤ nn ∧ nn ≤ 9
  · have a1 : ¬ nn < 1 := by omega
    have a2 : ¬ 9 < nn := by omega
    by_cases c2 : 1 ≤ m ∧ m ≤ 30
    · have a3 : ¬ m < 1 := by omega
      have a4 : ¬ 30 < m := by omega
      by_cases c3 : 0 ≤ part ∧ part ≤ 1
      · rw [if_pos ⟨⟨c1, c2⟩, c3⟩, ← ab_AT_cg k7] at q
        obtain ⟨B, A, F, Mv, top, ⟨d1, -⟩, -⟩ := id j4
        simp (disch := omega) only [s90_0, s90_1, s90_2, s90_5, s90_6, s90_8, s90_11, s90_12, s90_13, s90_16, s90_17, s90_19, s90_22, s90_24, s90_25, s90_28, s90_31, s90_34, s90_35, s90_36, s90_39, s90_40, s90_43, s90_46, s90_47, true_and, and_true, true_implies, Option.toList_some, Option.toList_none, List.nil_append, List.cons_append, List.map_nil, List.map_cons, List.sum_nil, List.sum_cons, Nat.zero_le, ab_nl_n, ab_nl_i, ab_nl_r, ab_nl_0, ab_cat_i, ab_cat_r, ab_cat_l, Nat.reduceAdd, Nat.reduceLeDiff, Nat.add_zero, Nat.zero_add, reduceIte, List.getElem?_cons_succ, List.getElem?_cons_zero, List.length_cons, List.length_nil, List.set_cons_zero, List.set_cons_succ, true_or, or_true, Classical.not_not, not_true_eq_false, not_false_eq_true, ab_01r, ab_01z, ab_01n, false_implies, ab_tt, Nat.reduceLT, Nat.reduceEqDiff, Int.reduceNeg, Int.reduceLT, Int.reduceLE, Int.add_zero, Int.zero_add, List.append_nil, Int.reduceEq, ab_sum1, ab_ri_0, ab_ri_1, ab_ri_2, ab_ri_3, ab_ri_4, ab_ri_5, ab_ri_6, ab_ri_7, ab_ri_8, ab_ri_12, ab_ri_30, ab_ri_60, ab_ri_100, ab_ri_101, ab_ri_127, ab_ri_m1, ab_ri_m2, ab_ri_m3, ab_ri_m4, ab_ri_m5, ab_ri_m11, ab_ri_m13, ab_ri_m14, ab_ri_10, sp_isWithin, ab_01n, ab_01z, a1, a2, a3, a4, c3, hnr, hmr, h9, ab_fd, ab_vc, ab_sv_11_115, ab_sv_11_217, j1, k1, d1, Nat.reduceLeDiff]
        refine sp_build hs j4 (by decide) (by decide) k2 hl (by decide) fun h1 he lad => ?_
        simp only [s90_50, s90_51, s90_53, s90_54, true_and, and_true, true_implies, Option.toList_some, Option.toList_none, List.nil_append, List.cons_append, List.map_nil, List.map_cons, List.sum_nil, List.sum_cons, Nat.zero_le, ab_nl_n, ab_nl_i, ab_nl_r, ab_nl_0, ab_cat_i, ab_cat_r, ab_cat_l, Nat.reduceAdd, Nat.reduceLeDiff, Nat.add_zero, Nat.zero_add, reduceIte, List.getElem?_cons_succ, List.getElem?_cons_zero, List.length_cons, List.length_nil, List.set_cons_zero, List.set_cons_succ, true_or, or_true, Classical.not_not, not_true_eq_false, not_false_eq_true, ab_01r, ab_01z, ab_01n, false_implies, ab_tt, Nat.reduceLT, Nat.reduceEqDiff, Int.reduceNeg, Int.reduceLT, Int.reduceLE, Int.add_zero, Int.zero_add, List.append_nil, Int.reduceEq, ab_sum1, ab_ri_0, ab_ri_1, ab_ri_2, ab_ri_3, ab_ri_4, ab_ri_5, ab_ri_6, ab_ri_7, ab_ri_8, ab_ri_12, ab_ri_30, ab_ri_60, ab_ri_100, ab_ri_101, ab_ri_127, ab_ri_m1, ab_ri_m2, ab_ri_m3, ab_ri_m4, ab_ri_m5, ab_ri_m11, ab_ri_m13, ab_ri_m14, ab_ri_10]
        have key := ab_dn (P := fun s => ∀ h', ab_fth h h' → ab_lad h' l 5 → (∃ t g, h' 58 = some (ab_vec 59 t) ∧ h' 59 = some (ab_ia 7 g)) → ab_G 90 56 [some (vr 6), some (vi nn), some (vi seed), some (vi m), some (vi part), some (vi (ab_od (ab_AT l) nn seed s.toNat)), some (vi s)] [] h' n (0, 0) Q) (a := 0) (e := m) (by omega) ?_ ?_
        · obtain ⟨t1, t2, g1, g2, s1, s2, s3, s4⟩ := j8
          exact key h1 (fun a ha => he a (by omega)) lad ⟨t1, g1, (he 58 (by decide)).trans s1, (he 59 (by decide)).trans s2⟩
        · intro h2 e2 lad2 ht
          have q := q h2 (fun a ha => e2 a (by omega)) (ab_JC_th e2 J lad2 ht)
          have od := ab_od_r (T := ab_AT l) (nn := nn) (seed := seed) m.toNat
          have cd := ab_cd_r (a := ab_od (ab_AT l) nn seed m.toNat) (b := m) m.toNat
          revert q od cd
          generalize ab_od (ab_AT l) nn seed m.toNat = e
          intro q od cd
          rw [s90_56]
          simp only [s90_58, s90_59, s90_83, s90_85, s90_86, true_and, and_true, true_implies, Option.toList_some, Option.toList_none, List.nil_append, List.cons_append, List.map_nil, List.map_cons, List.sum_nil, List.sum_cons, Nat.zero_le, ab_nl_n, ab_nl_i, ab_nl_r, ab_nl_0, ab_cat_i, ab_cat_r, ab_cat_l, Nat.reduceAdd, Nat.reduceLeDiff, Nat.add_zero, Nat.zero_add, reduceIte, List.getElem?_cons_succ, List.getElem?_cons_zero, List.length_cons, List.length_nil, List.set_cons_zero, List.set_cons_succ, true_or, or_true, Classical.not_not, not_true_eq_false, not_false_eq_true, ab_01r, ab_01z, ab_01n, false_implies, ab_tt, Nat.reduceLT, Nat.reduceEqDiff, Int.reduceNeg, Int.reduceLT, Int.reduceLE, Int.add_zero, Int.zero_add, List.append_nil, Int.reduceEq, ab_sum1, ab_ri_0, ab_ri_1, ab_ri_2, ab_ri_3, ab_ri_4, ab_ri_5, ab_ri_6, ab_ri_7, ab_ri_8, ab_ri_12, ab_ri_30, ab_ri_60, ab_ri_100, ab_ri_101, ab_ri_127, ab_ri_m1, ab_ri_m2, ab_ri_m3, ab_ri_m4, ab_ri_m5, ab_ri_m11, ab_ri_m13, ab_ri_m14, ab_ri_10, Int.le_refl, hmr]
          refine sp_commonDivisor (by omega) (by omega) ?_
          revert q cd
          generalize ab_cd e m m.toNat = d
          intro q cd
          have hpr : ab_inR part = True := eq_true hp
          have hd : 0 < d := by omega
          have d1 : ∀ x : Int, 0 ≤ x → x ≤ 30 → 0 ≤ x.tdiv d ∧ x.tdiv d ≤ 30 := fun x x0 x1 => by
            rw [Int.tdiv_eq_ediv_of_nonneg x0]
            exact ⟨Int.ediv_nonneg x0 (by omega), Int.le_trans (Int.ediv_le_self d x0) x1⟩
          have de := d1 e (by omega) (by omega)
          have dm := d1 m (by omega) (by omega)
          by_cases c4 : part = 0
          · rw [if_pos c4] at q
            have c4t : (part = 0) = True := eq_true c4
            simp only [s90_89, s90_91, s90_93, s90_96, s90_98, s90_100, s90_101, s90_102, s90_105, s90_106, s90_108, s90_109, s90_110, true_and, and_true, true_implies, Option.toList_some, Option.toList_none, List.nil_append, List.cons_append, List.map_nil, List.map_cons, List.sum_nil, List.sum_cons, Nat.zero_le, ab_nl_n, ab_nl_i, ab_nl_r, ab_nl_0, ab_cat_i, ab_cat_r, ab_cat_l, Nat.reduceAdd, Nat.reduceLeDiff, Nat.add_zero, Nat.zero_add, reduceIte, List.getElem?_cons_succ, List.getElem?_cons_zero, List.length_cons, List.length_nil, List.set_cons_zero, List.set_cons_succ, true_or, or_true, Classical.not_not, not_true_eq_false, not_false_eq_true, ab_01r, ab_01z, ab_01n, false_implies, ab_tt, Nat.reduceLT, Nat.reduceEqDiff, Int.reduceNeg, Int.reduceLT, Int.reduceLE, Int.add_zero, Int.zero_add, List.append_nil, Int.reduceEq, ab_sum1, ab_ri_0, ab_ri_1, ab_ri_2, ab_ri_3, ab_ri_4, ab_ri_5, ab_ri_6, ab_ri_7, ab_ri_8, ab_ri_12, ab_ri_30, ab_ri_60, ab_ri_100, ab_ri_101, ab_ri_127, ab_ri_m1, ab_ri_m2, ab_ri_m3, ab_ri_m4, ab_ri_m5, ab_ri_m11, ab_ri_m13, ab_ri_m14, ab_ri_10, c4t, hpr, hd, q] <;> omega
          · rw [if_neg c4] at q
            simp only [s90_89, s90_91, s90_93, s90_96, s90_98, s90_100, s90_101, s90_102, s90_105, s90_106, s90_108, s90_109, s90_110, true_and, and_true, true_implies, Option.toList_some, Option.toList_none, List.nil_append, List.cons_append, List.map_nil, List.map_cons, List.sum_nil, List.sum_cons, Nat.zero_le, ab_nl_n, ab_nl_i, ab_nl_r, ab_nl_0, ab_cat_i, ab_cat_r, ab_cat_l, Nat.reduceAdd, Nat.reduceLeDiff, Nat.add_zero, Nat.zero_add, reduceIte, List.getElem?_cons_succ, List.getElem?_cons_zero, List.length_cons, List.length_nil, List.set_cons_zero, List.set_cons_succ, true_or, or_true, Classical.not_not, not_true_eq_false, not_false_eq_true, ab_01r, ab_01z, ab_01n, false_implies, ab_tt, Nat.reduceLT, Nat.reduceEqDiff, Int.reduceNeg, Int.reduceLT, Int.reduceLE, Int.add_zero, Int.zero_add, List.append_nil, Int.reduceEq, ab_sum1, ab_ri_0, ab_ri_1, ab_ri_2, ab_ri_3, ab_ri_4, ab_ri_5, ab_ri_6, ab_ri_7, ab_ri_8, ab_ri_12, ab_ri_30, ab_ri_60, ab_ri_100, ab_ri_101, ab_ri_127, ab_ri_m1, ab_ri_m2, ab_ri_m3, ab_ri_m4, ab_ri_m5, ab_ri_m11, ab_ri_m13, ab_ri_m14, ab_ri_10, c4, hpr, hd, q] <;> omega
        · intro s s0 s9 ih h2 e2 lad2 ht
          have es : (s + 1).toNat = s.toNat + 1 := by omega
          have ec : ((s.toNat : Nat) : Int) = s := Int.toNat_of_nonneg s0
          have c4 : ¬ m ≤ s := by omega
          have e6 := (e2 6 (by decide)).trans j1
          rw [s90_56]
          simp only [s90_58, s90_59, s90_62, s90_63, s90_64, s90_65, s90_67, s90_68, true_and, and_true, true_implies, Option.toList_some, Option.toList_none, List.nil_append, List.cons_append, List.map_nil, List.map_cons, List.sum_nil, List.sum_cons, Nat.zero_le, ab_nl_n, ab_nl_i, ab_nl_r, ab_nl_0, ab_cat_i, ab_cat_r, ab_cat_l, Nat.reduceAdd, Nat.reduceLeDiff, Nat.add_zero, Nat.zero_add, reduceIte, List.getElem?_cons_succ, List.getElem?_cons_zero, List.length_cons, List.length_nil, List.set_cons_zero, List.set_cons_succ, true_or, or_true, Classical.not_not, not_true_eq_false, not_false_eq_true, ab_01r, ab_01z, ab_01n, false_implies, ab_tt, Nat.reduceLT, Nat.reduceEqDiff, Int.reduceNeg, Int.reduceLT, Int.reduceLE, Int.add_zero, Int.zero_add, List.append_nil, Int.reduceEq, ab_sum1, ab_ri_0, ab_ri_1, ab_ri_2, ab_ri_3, ab_ri_4, ab_ri_5, ab_ri_6, ab_ri_7, ab_ri_8, ab_ri_12, ab_ri_30, ab_ri_60, ab_ri_100, ab_ri_101, ab_ri_127, ab_ri_m1, ab_ri_m2, ab_ri_m3, ab_ri_m4, ab_ri_m5, ab_ri_m11, ab_ri_m13, ab_ri_m14, ab_ri_10, ab_vc, ab_sv_11_115, ab_sv_11_217, e6, hmr, c4, Nat.reduceLeDiff]
          (repeat refine And.intro (by omega) ?_)
          refine sp_endsAsZero (ab_stat_th e2 hs) lad2 e6 ht (by omega) fun h3 e3 lad3 ht3 => ?_
          have ih := ih h3 (fun a ha => (e3 a ha).trans (e2 a ha)) lad3 ht3
          rw [es, ab_od, ec] at ih
          rcases ab_ez_r (T := ab_AT l) nn.toNat (seed + s) 0 (ab_un1 0) with e | e
          · rw [e] at ih ⊢
            simp only [true_and, and_true, true_implies, Option.toList_some, Option.toList_none, List.nil_append, List.cons_append, List.map_nil, List.map_cons, List.sum_nil, List.sum_cons, Nat.zero_le, ab_nl_n, ab_nl_i, ab_nl_r, ab_nl_0, ab_cat_i, ab_cat_r, ab_cat_l, Nat.reduceAdd, Nat.reduceLeDiff, Nat.add_zero, Nat.zero_add, reduceIte, List.getElem?_cons_succ, List.getElem?_cons_zero, List.length_cons, List.length_nil, List.set_cons_zero, List.set_cons_succ, true_or, or_true, Classical.not_not, not_true_eq_false, not_false_eq_true, ab_01r, ab_01z, ab_01n, false_implies, ab_tt, Nat.reduceLT, Nat.reduceEqDiff, Int.reduceNeg, Int.reduceLT, Int.reduceLE, Int.add_zero, Int.zero_add, List.append_nil, Int.reduceEq, ab_sum1, ab_ri_0, ab_ri_1, ab_ri_2, ab_ri_3, ab_ri_4, ab_ri_5, ab_ri_6, ab_ri_7, ab_ri_8, ab_ri_12, ab_ri_30, ab_ri_60, ab_ri_100, ab_ri_101, ab_ri_127, ab_ri_m1, ab_ri_m2, ab_ri_m3, ab_ri_m4, ab_ri_m5, ab_ri_m11, ab_ri_m13, ab_ri_m14, ab_ri_10] at ih
            simp only [s90_71, s90_74, s90_77, s90_80, true_and, and_true, true_implies, Option.toList_some, Option.toList_none, List.nil_append, List.cons_append, List.map_nil, List.map_cons, List.sum_nil, List.sum_cons, Nat.zero_le, ab_nl_n, ab_nl_i, ab_nl_r, ab_nl_0, ab_cat_i, ab_cat_r, ab_cat_l, Nat.reduceAdd, Nat.reduceLeDiff, Nat.add_zero, Nat.zero_add, reduceIte, List.getElem?_cons_succ, List.getElem?_cons_zero, List.length_cons, List.length_nil, List.set_cons_zero, List.set_cons_succ, true_or, or_true, Classical.not_not, not_true_eq_false, not_false_eq_true, ab_01r, ab_01z, ab_01n, false_implies, ab_tt, Nat.reduceLT, Nat.reduceEqDiff, Int.reduceNeg, Int.reduceLT, Int.reduceLE, Int.add_zero, Int.zero_add, List.append_nil, Int.reduceEq, ab_sum1, ab_ri_0, ab_ri_1, ab_ri_2, ab_ri_3, ab_ri_4, ab_ri_5, ab_ri_6, ab_ri_7, ab_ri_8, ab_ri_12, ab_ri_30, ab_ri_60, ab_ri_100, ab_ri_101, ab_ri_127, ab_ri_m1, ab_ri_m2, ab_ri_m3, ab_ri_m4, ab_ri_m5, ab_ri_m11, ab_ri_m13, ab_ri_m14, ab_ri_10, ih] <;> omega
          · rw [e] at ih ⊢
            simp only [s90_71, s90_74, s90_77, s90_80, true_and, and_true, true_implies, Option.toList_some, Option.toList_none, List.nil_append, List.cons_append, List.map_nil, List.map_cons, List.sum_nil, List.sum_cons, Nat.zero_le, ab_nl_n, ab_nl_i, ab_nl_r, ab_nl_0, ab_cat_i, ab_cat_r, ab_cat_l, Nat.reduceAdd, Nat.reduceLeDiff, Nat.add_zero, Nat.zero_add, reduceIte, List.getElem?_cons_succ, List.getElem?_cons_zero, List.length_cons, List.length_nil, List.set_cons_zero, List.set_cons_succ, true_or, or_true, Classical.not_not, not_true_eq_false, not_false_eq_true, ab_01r, ab_01z, ab_01n, false_implies, ab_tt, Nat.reduceLT, Nat.reduceEqDiff, Int.reduceNeg, Int.reduceLT, Int.reduceLE, Int.add_zero, Int.zero_add, List.append_nil, Int.reduceEq, ab_sum1, ab_ri_0, ab_ri_1, ab_ri_2, ab_ri_3, ab_ri_4, ab_ri_5, ab_ri_6, ab_ri_7, ab_ri_8, ab_ri_12, ab_ri_30, ab_ri_60, ab_ri_100, ab_ri_101, ab_ri_127, ab_ri_m1, ab_ri_m2, ab_ri_m3, ab_ri_m4, ab_ri_m5, ab_ri_m11, ab_ri_m13, ab_ri_m14, ab_ri_10, ih] <;> omega
      · rw [if_neg (fun z => c3 z.2)] at q
        have q := q h (fun _ _ => rfl) J
        simp (disch := omega) only [s90_0, s90_1, s90_2, s90_5, s90_6, s90_8, s90_11, s90_12, s90_13, s90_16, s90_17, s90_19, s90_22, s90_24, s90_25, s90_28, s90_31, s90_34, true_and, and_true, true_implies, Option.toList_some, Option.toList_none, List.nil_append, List.cons_append, List.map_nil, List.map_cons, List.sum_nil, List.sum_cons, Nat.zero_le, ab_nl_n, ab_nl_i, ab_nl_r, ab_nl_0, ab_cat_i, ab_cat_r, ab_cat_l, Nat.reduceAdd, Nat.reduceLeDiff, Nat.add_zero, Nat.zero_add, reduceIte, List.getElem?_cons_succ, List.getElem?_cons_zero, List.length_cons, List.length_nil, List.set_cons_zero, List.set_cons_succ, true_or, or_true, Classical.not_not, not_true_eq_false, not_false_eq_true, ab_01r, ab_01z, ab_01n, false_implies, ab_tt, Nat.reduceLT, Nat.reduceEqDiff, Int.reduceNeg, Int.reduceLT, Int.reduceLE, Int.add_zero, Int.zero_add, List.append_nil, Int.reduceEq, ab_sum1, ab_ri_0, ab_ri_1, ab_ri_2, ab_ri_3, ab_ri_4, ab_ri_5, ab_ri_6, ab_ri_7, ab_ri_8, ab_ri_12, ab_ri_30, ab_ri_60, ab_ri_100, ab_ri_101, ab_ri_127, ab_ri_m1, ab_ri_m2, ab_ri_m3, ab_ri_m4, ab_ri_m5, ab_ri_m11, ab_ri_m13, ab_ri_m14, ab_ri_10, sp_isWithin, ab_01n, ab_01z, a1, a2, a3, a4, c3, hnr, hmr, h9, q]
    · rw [if_neg (fun z => c2 z.1.2)] at q
      have q := q h (fun _ _ => rfl) J
      by_cases a3 : m < 1
      · simp only [s90_0, s90_1, s90_2, s90_5, s90_6, s90_8, s90_11, s90_12, s90_13, s90_16, s90_17, s90_19, s90_22, s90_24, s90_25, s90_28, s90_31, s90_34, true_and, and_true, true_implies, Option.toList_some, Option.toList_none, List.nil_append, List.cons_append, List.map_nil, List.map_cons, List.sum_nil, List.sum_cons, Nat.zero_le, ab_nl_n, ab_nl_i, ab_nl_r, ab_nl_0, ab_cat_i, ab_cat_r, ab_cat_l, Nat.reduceAdd, Nat.reduceLeDiff, Nat.add_zero, Nat.zero_add, reduceIte, List.getElem?_cons_succ, List.getElem?_cons_zero, List.length_cons, List.length_nil, List.set_cons_zero, List.set_cons_succ, true_or, or_true, Classical.not_not, not_true_eq_false, not_false_eq_true, ab_01r, ab_01z, ab_01n, false_implies, ab_tt, Nat.reduceLT, Nat.reduceEqDiff, Int.reduceNeg, Int.reduceLT, Int.reduceLE, Int.add_zero, Int.zero_add, List.append_nil, Int.reduceEq, ab_sum1, ab_ri_0, ab_ri_1, ab_ri_2, ab_ri_3, ab_ri_4, ab_ri_5, ab_ri_6, ab_ri_7, ab_ri_8, ab_ri_12, ab_ri_30, ab_ri_60, ab_ri_100, ab_ri_101, ab_ri_127, ab_ri_m1, ab_ri_m2, ab_ri_m3, ab_ri_m4, ab_ri_m5, ab_ri_m11, ab_ri_m13, ab_ri_m14, ab_ri_10, a1, a2, a3, hnr, hmr, h9, q]
      · have a4 : 30 < m := by omega
        simp only [s90_0, s90_1, s90_2, s90_5, s90_6, s90_8, s90_11, s90_12, s90_13, s90_16, s90_17, s90_19, s90_22, s90_24, s90_25, s90_28, s90_31, s90_34, true_and, and_true, true_implies, Option.toList_some, Option.toList_none, List.nil_append, List.cons_append, List.map_nil, List.map_cons, List.sum_nil, List.sum_cons, Nat.zero_le, ab_nl_n, ab_nl_i, ab_nl_r, ab_nl_0, ab_cat_i, ab_cat_r, ab_cat_l, Nat.reduceAdd, Nat.reduceLeDiff, Nat.add_zero, Nat.zero_add, reduceIte, List.getElem?_cons_succ, List.getElem?_cons_zero, List.length_cons, List.length_nil, List.set_cons_zero, List.set_cons_succ, true_or, or_true, Classical.not_not, not_true_eq_false, not_false_eq_true, ab_01r, ab_01z, ab_01n, false_implies, ab_tt, Nat.reduceLT, Nat.reduceEqDiff, Int.reduceNeg, Int.reduceLT, Int.reduceLE, Int.add_zero, Int.zero_add, List.append_nil, Int.reduceEq, ab_sum1, ab_ri_0, ab_ri_1, ab_ri_2, ab_ri_3, ab_ri_4, ab_ri_5, ab_ri_6, ab_ri_7, ab_ri_8, ab_ri_12, ab_ri_30, ab_ri_60, ab_ri_100, ab_ri_101, ab_ri_127, ab_ri_m1, ab_ri_m2, ab_ri_m3, ab_ri_m4, ab_ri_m5, ab_ri_m11, ab_ri_m13, ab_ri_m14, ab_ri_10, a1, a2, a3, a4, hnr, hmr, h9, q]
  · rw [if_neg (fun z => c1 z.1.1)] at q
    have q := q h (fun _ _ => rfl) J
    by_cases a1 : nn < 1
    · simp only [s90_0, s90_1, s90_2, s90_5, s90_6, s90_8, s90_11, s90_12, s90_13, s90_16, s90_17, s90_19, s90_22, s90_24, s90_25, s90_28, s90_31, s90_34, true_and, and_true, true_implies, Option.toList_some, Option.toList_none, List.nil_append, List.cons_append, List.map_nil, List.map_cons, List.sum_nil, List.sum_cons, Nat.zero_le, ab_nl_n, ab_nl_i, ab_nl_r, ab_nl_0, ab_cat_i, ab_cat_r, ab_cat_l, Nat.reduceAdd, Nat.reduceLeDiff, Nat.add_zero, Nat.zero_add, reduceIte, List.getElem?_cons_succ, List.getElem?_cons_zero, List.length_cons, List.length_nil, List.set_cons_zero, List.set_cons_succ, true_or, or_true, Classical.not_not, not_true_eq_false, not_false_eq_true, ab_01r, ab_01z, ab_01n, false_implies, ab_tt, Nat.reduceLT, Nat.reduceEqDiff, Int.reduceNeg, Int.reduceLT, Int.reduceLE, Int.add_zero, Int.zero_add, List.append_nil, Int.reduceEq, ab_sum1, ab_ri_0, ab_ri_1, ab_ri_2, ab_ri_3, ab_ri_4, ab_ri_5, ab_ri_6, ab_ri_7, ab_ri_8, ab_ri_12, ab_ri_30, ab_ri_60, ab_ri_100, ab_ri_101, ab_ri_127, ab_ri_m1, ab_ri_m2, ab_ri_m3, ab_ri_m4, ab_ri_m5, ab_ri_m11, ab_ri_m13, ab_ri_m14, ab_ri_10, a1, hnr, h9, q]
    · have a2 : 9 < nn := by omega
      simp only [s90_0, s90_1, s90_2, s90_5, s90_6, s90_8, s90_11, s90_12, s90_13, s90_16, s90_17, s90_19, s90_22, s90_24, s90_25, s90_28, s90_31, s90_34, true_and, and_true, true_implies, Option.toList_some, Option.toList_none, List.nil_append, List.cons_append, List.map_nil, List.map_cons, List.sum_nil, List.sum_cons, Nat.zero_le, ab_nl_n, ab_nl_i, ab_nl_r, ab_nl_0, ab_cat_i, ab_cat_r, ab_cat_l, Nat.reduceAdd, Nat.reduceLeDiff, Nat.add_zero, Nat.zero_add, reduceIte, List.getElem?_cons_succ, List.getElem?_cons_zero, List.length_cons, List.length_nil, List.set_cons_zero, List.set_cons_succ, true_or, or_true, Classical.not_not, not_true_eq_false, not_false_eq_true, ab_01r, ab_01z, ab_01n, false_implies, ab_tt, Nat.reduceLT, Nat.reduceEqDiff, Int.reduceNeg, Int.reduceLT, Int.reduceLE, Int.add_zero, Int.zero_add, List.append_nil, Int.reduceEq, ab_sum1, ab_ri_0, ab_ri_1, ab_ri_2, ab_ri_3, ab_ri_4, ab_ri_5, ab_ri_6, ab_ri_7, ab_ri_8, ab_ri_12, ab_ri_30, ab_ri_60, ab_ri_100, ab_ri_101, ab_ri_127, ab_ri_m1, ab_ri_m2, ab_ri_m3, ab_ri_m4, ab_ri_m5, ab_ri_m11, ab_ri_m13, ab_ri_m14, ab_ri_10, a1, a2, hnr, h9, q]
theorem sp_isRowNumber {w v : Int} (hw : 0 ≤ w ∧ w ≤ 2) (hv : ab_inR v) (q1 : ab_rok w v → Q (some (vi 1)) h n) (q0 : ¬ ab_rok w v → Q (some (vi 0)) h n) : ab_G 108 0 [some (vi w), some (vi v)] [] h n (0, 0) Q := by
  unfold ab_rok at q1 q0
  simp only [s108_0, true_and, and_true, true_implies, Option.toList_some, Option.toList_none, List.nil_append, List.cons_append, List.map_nil, List.map_cons, List.sum_nil, List.sum_cons, Nat.zero_le, ab_nl_n, ab_nl_i, ab_nl_r, ab_nl_0, ab_cat_i, ab_cat_r, ab_cat_l, Nat.reduceAdd, Nat.reduceLeDiff, Nat.add_zero, Nat.zero_add, reduceIte, List.getElem?_cons_succ, List.getElem?_cons_zero, List.length_cons, List.length_nil, List.set_cons_zero, List.set_cons_succ, true_or, or_true, Classical.not_not, not_true_eq_false, not_false_eq_true, ab_01r, ab_01z, ab_01n, false_implies, ab_tt, Nat.reduceLT, Nat.reduceEqDiff, Int.reduceNeg, Int.reduceLT, Int.reduceLE, Int.add_zero, Int.zero_add, List.append_nil, Int.reduceEq, ab_sum1, ab_ri_0, ab_ri_1, ab_ri_2, ab_ri_3, ab_ri_4, ab_ri_5, ab_ri_6, ab_ri_7, ab_ri_8, ab_ri_12, ab_ri_30, ab_ri_60, ab_ri_100, ab_ri_101, ab_ri_127, ab_ri_m1, ab_ri_m2, ab_ri_m3, ab_ri_m4, ab_ri_m5, ab_ri_m11, ab_ri_m13, ab_ri_m14, ab_ri_10]
  refine s108_1 ⟨by omega, fun e => ?_, fun e => ?_, fun e => ?_⟩
  · by_cases c : 0 ≤ v ∧ v ≤ 3
    · have q := q1 (by omega)
      simp (disch := omega) only [s108_40, s108_41, s108_44, true_and, and_true, true_implies, Option.toList_some, Option.toList_none, List.nil_append, List.cons_append, List.map_nil, List.map_cons, List.sum_nil, List.sum_cons, Nat.zero_le, ab_nl_n, ab_nl_i, ab_nl_r, ab_nl_0, ab_cat_i, ab_cat_r, ab_cat_l, Nat.reduceAdd, Nat.reduceLeDiff, Nat.add_zero, Nat.zero_add, reduceIte, List.getElem?_cons_succ, List.getElem?_cons_zero, List.length_cons, List.length_nil, List.set_cons_zero, List.set_cons_succ, true_or, or_true, Classical.not_not, not_true_eq_false, not_false_eq_true, ab_01r, ab_01z, ab_01n, false_implies, ab_tt, Nat.reduceLT, Nat.reduceEqDiff, Int.reduceNeg, Int.reduceLT, Int.reduceLE, Int.add_zero, Int.zero_add, List.append_nil, Int.reduceEq, ab_sum1, ab_ri_0, ab_ri_1, ab_ri_2, ab_ri_3, ab_ri_4, ab_ri_5, ab_ri_6, ab_ri_7, ab_ri_8, ab_ri_12, ab_ri_30, ab_ri_60, ab_ri_100, ab_ri_101, ab_ri_127, ab_ri_m1, ab_ri_m2, ab_ri_m3, ab_ri_m4, ab_ri_m5, ab_ri_m11, ab_ri_m13, ab_ri_m14, ab_ri_10, sp_isVector, c, q]
    · have q := q0 (by omega)
      simp (disch := omega) only [s108_40, s108_41, s108_44, true_and, and_true, true_implies, Option.toList_some, Option.toList_none, List.nil_append, List.cons_append, List.map_nil, List.map_cons, List.sum_nil, List.sum_cons, Nat.zero_le, ab_nl_n, ab_nl_i, ab_nl_r, ab_nl_0, ab_cat_i, ab_cat_r, ab_cat_l, Nat.reduceAdd, Nat.reduceLeDiff, Nat.add_zero, Nat.zero_add, reduceIte, List.getElem?_cons_succ, List.getElem?_cons_zero, List.length_cons, List.length_nil, List.set_cons_zero, List.set_cons_succ, true_or, or_true, Classical.not_not, not_true_eq_false, not_false_eq_true, ab_01r, ab_01z, ab_01n, false_implies, ab_tt, Nat.reduceLT, Nat.reduceEqDiff, Int.reduceNeg, Int.reduceLT, Int.reduceLE, Int.add_zero, Int.zero_add, List.append_nil, Int.reduceEq, ab_sum1, ab_ri_0, ab_ri_1, ab_ri_2, ab_ri_3, ab_ri_4, ab_ri_5, ab_ri_6, ab_ri_7, ab_ri_8, ab_ri_12, ab_ri_30, ab_ri_60, ab_ri_100, ab_ri_101, ab_ri_127, ab_ri_m1, ab_ri_m2, ab_ri_m3, ab_ri_m4, ab_ri_m5, ab_ri_m11, ab_ri_m13, ab_ri_m14, ab_ri_10, sp_isVector, c, q]
  · by_cases c : -5 ≤ v ∧ v ≤ 5
    · have q := q1 (by omega)
      simp (disch := omega) only [s108_28, s108_29, s108_32, true_and, and_true, true_implies, Option.toList_some, Option.toList_none, List.nil_append, List.cons_append, List.map_nil, List.map_cons, List.sum_nil, List.sum_cons, Nat.zero_le, ab_nl_n, ab_nl_i, ab_nl_r, ab_nl_0, ab_cat_i, ab_cat_r, ab_cat_l, Nat.reduceAdd, Nat.reduceLeDiff, Nat.add_zero, Nat.zero_add, reduceIte, List.getElem?_cons_succ, List.getElem?_cons_zero, List.length_cons, List.length_nil, List.set_cons_zero, List.set_cons_succ, true_or, or_true, Classical.not_not, not_true_eq_false, not_false_eq_true, ab_01r, ab_01z, ab_01n, false_implies, ab_tt, Nat.reduceLT, Nat.reduceEqDiff, Int.reduceNeg, Int.reduceLT, Int.reduceLE, Int.add_zero, Int.zero_add, List.append_nil, Int.reduceEq, ab_sum1, ab_ri_0, ab_ri_1, ab_ri_2, ab_ri_3, ab_ri_4, ab_ri_5, ab_ri_6, ab_ri_7, ab_ri_8, ab_ri_12, ab_ri_30, ab_ri_60, ab_ri_100, ab_ri_101, ab_ri_127, ab_ri_m1, ab_ri_m2, ab_ri_m3, ab_ri_m4, ab_ri_m5, ab_ri_m11, ab_ri_m13, ab_ri_m14, ab_ri_10, sp_isMode, c, q]
    · have q := q0 (by omega)
      simp (disch := omega) only [s108_28, s108_29, s108_32, true_and, and_true, true_implies, Option.toList_some, Option.toList_none, List.nil_append, List.cons_append, List.map_nil, List.map_cons, List.sum_nil, List.sum_cons, Nat.zero_le, ab_nl_n, ab_nl_i, ab_nl_r, ab_nl_0, ab_cat_i, ab_cat_r, ab_cat_l, Nat.reduceAdd, Nat.reduceLeDiff, Nat.add_zero, Nat.zero_add, reduceIte, List.getElem?_cons_succ, List.getElem?_cons_zero, List.length_cons, List.length_nil, List.set_cons_zero, List.set_cons_succ, true_or, or_true, Classical.not_not, not_true_eq_false, not_false_eq_true, ab_01r, ab_01z, ab_01n, false_implies, ab_tt, Nat.reduceLT, Nat.reduceEqDiff, Int.reduceNeg, Int.reduceLT, Int.reduceLE, Int.add_zero, Int.zero_add, List.append_nil, Int.reduceEq, ab_sum1, ab_ri_0, ab_ri_1, ab_ri_2, ab_ri_3, ab_ri_4, ab_ri_5, ab_ri_6, ab_ri_7, ab_ri_8, ab_ri_12, ab_ri_30, ab_ri_60, ab_ri_100, ab_ri_101, ab_ri_127, ab_ri_m1, ab_ri_m2, ab_ri_m3, ab_ri_m4, ab_ri_m5, ab_ri_m11, ab_ri_m13, ab_ri_m14, ab_ri_10, sp_isMode, c, q]
  · by_cases c : 0 ≤ v ∧ v ≤ 100
    · have q := q1 (by omega)
      simp (disch := omega) only [s108_33, s108_34, s108_36, s108_39, true_and, and_true, true_implies, Option.toList_some, Option.toList_none, List.nil_append, List.cons_append, List.map_nil, List.map_cons, List.sum_nil, List.sum_cons, Nat.zero_le, ab_nl_n, ab_nl_i, ab_nl_r, ab_nl_0, ab_cat_i, ab_cat_r, ab_cat_l, Nat.reduceAdd, Nat.reduceLeDiff, Nat.add_zero, Nat.zero_add, reduceIte, List.getElem?_cons_succ, List.getElem?_cons_zero, List.length_cons, List.length_nil, List.set_cons_zero, List.set_cons_succ, true_or, or_true, Classical.not_not, not_true_eq_false, not_false_eq_true, ab_01r, ab_01z, ab_01n, false_implies, ab_tt, Nat.reduceLT, Nat.reduceEqDiff, Int.reduceNeg, Int.reduceLT, Int.reduceLE, Int.add_zero, Int.zero_add, List.append_nil, Int.reduceEq, ab_sum1, ab_ri_0, ab_ri_1, ab_ri_2, ab_ri_3, ab_ri_4, ab_ri_5, ab_ri_6, ab_ri_7, ab_ri_8, ab_ri_12, ab_ri_30, ab_ri_60, ab_ri_100, ab_ri_101, ab_ri_127, ab_ri_m1, ab_ri_m2, ab_ri_m3, ab_ri_m4, ab_ri_m5, ab_ri_m11, ab_ri_m13, ab_ri_m14, ab_ri_10, sp_isWithin, c, q]
    · have q := q0 (by omega)
      simp (disch := omega) only [s108_33, s108_34, s108_36, s108_39, true_and, and_true, true_implies, Option.toList_some, Option.toList_none, List.nil_append, List.cons_append, List.map_nil, List.map_cons, List.sum_nil, List.sum_cons, Nat.zero_le, ab_nl_n, ab_nl_i, ab_nl_r, ab_nl_0, ab_cat_i, ab_cat_r, ab_cat_l, Nat.reduceAdd, Nat.reduceLeDiff, Nat.add_zero, Nat.zero_add, reduceIte, List.getElem?_cons_succ, List.getElem?_cons_zero, List.length_cons, List.length_nil, List.set_cons_zero, List.set_cons_succ, true_or, or_true, Classical.not_not, not_true_eq_false, not_false_eq_true, ab_01r, ab_01z, ab_01n, false_implies, ab_tt, Nat.reduceLT, Nat.reduceEqDiff, Int.reduceNeg, Int.reduceLT, Int.reduceLE, Int.add_zero, Int.zero_add, List.append_nil, Int.reduceEq, ab_sum1, ab_ri_0, ab_ri_1, ab_ri_2, ab_ri_3, ab_ri_4, ab_ri_5, ab_ri_6, ab_ri_7, ab_ri_8, ab_ri_12, ab_ri_30, ab_ri_60, ab_ri_100, ab_ri_101, ab_ri_127, ab_ri_m1, ab_ri_m2, ab_ri_m3, ab_ri_m4, ab_ri_m5, ab_ri_m11, ab_ri_m13, ab_ri_m14, ab_ri_10, sp_isWithin, c, q]
theorem xc_plan {w v : Int} (J : ab_JC X Y h) (I : ab_XI X) (hw : ab_inR w) (hv : ab_inR v) (q : ∀ h', ab_eqo 6 67 h h' → ab_JC (ab_n_plan X w v) Y h' → Q (some (vi (ab_s_plan X w v))) h' n) : ab_G 91 0 [some (vr 6), some (vi w), some (vi v)] [] h n (0, 0) Q := by
  have J' := J
  obtain ⟨j1, j2, j3, j4, j5, j6, j7, j8, j9⟩ := J'
  obtain ⟨l, hvv, f, ws, bs, ⟨k1, k2, k3, k4, k5, k6⟩, k7, k8, k9, k10, k11⟩ := ab_now_o j2
  have hl := ab_lok_cg k7 I.1.1
  have hwr : ab_inR w = True := eq_true hw
  have I0 := I.1.2.2.2.1
  unfold ab_s_plan ab_n_plan at q
  by_cases c1 : w = -1
  · rw [if_pos c1, if_pos c1] at q
    have c1t : (w = -1) = True := eq_true c1
    have q := q (ab_hs h 7 (.inl (4, [vr 8, vr 9, vr 18, vr 19, vi 0]))) (fun a ha => ab_hs_ne (by omega)) (ab_JC_now (fun a ha => ab_hs_ne (by omega)) J (fun i hi => by
      by_cases e : i = 5
      · refine Or.inr ⟨e, fun j hj => ?_⟩
        rw [ab_up_e, ab_ui_ne hj]
      · exact Or.inl (ab_up_n e)) ⟨l, hvv, f, ws, bs, ⟨ab_hs_self, (ab_hs_ne (by decide)).trans k2, (ab_hs_ne (by decide)).trans k3, fun v v0 v4 => by
        have := ab_va_r (s := 7) v4
        exact ⟨(ab_hs_ne (by omega)).trans (k4 v v0 v4).1, (ab_hs_ne (by omega)).trans (k4 v v0 v4).2⟩, (ab_hs_ne (by decide)).trans k5, (ab_hs_ne (by decide)).trans k6⟩, k7, k8, k9, k10, k11⟩)
    simp only [s91_0, s91_1, s91_2, s91_5, s91_6, s91_9, s91_10, s91_13, s91_14, true_and, and_true, true_implies, Option.toList_some, Option.toList_none, List.nil_append, List.cons_append, List.map_nil, List.map_cons, List.sum_nil, List.sum_cons, Nat.zero_le, ab_nl_n, ab_nl_i, ab_nl_r, ab_nl_0, ab_cat_i, ab_cat_r, ab_cat_l, Nat.reduceAdd, Nat.reduceLeDiff, Nat.add_zero, Nat.zero_add, reduceIte, List.getElem?_cons_succ, List.getElem?_cons_zero, List.length_cons, List.length_nil, List.set_cons_zero, List.set_cons_succ, true_or, or_true, Classical.not_not, not_true_eq_false, not_false_eq_true, ab_01r, ab_01z, ab_01n, false_implies, ab_tt, Nat.reduceLT, Nat.reduceEqDiff, Int.reduceNeg, Int.reduceLT, Int.reduceLE, Int.add_zero, Int.zero_add, List.append_nil, Int.reduceEq, ab_sum1, ab_ri_0, ab_ri_1, ab_ri_2, ab_ri_3, ab_ri_4, ab_ri_5, ab_ri_6, ab_ri_7, ab_ri_8, ab_ri_12, ab_ri_30, ab_ri_60, ab_ri_100, ab_ri_101, ab_ri_127, ab_ri_m1, ab_ri_m2, ab_ri_m3, ab_ri_m4, ab_ri_m5, ab_ri_m11, ab_ri_m13, ab_ri_m14, ab_ri_10, ab_fd, ab_fs, ab_fit, ab_tyf, tyX4, j1, k1, c1t, hwr, Nat.reduceLeDiff, q]
  · rw [if_neg c1, if_neg c1] at q
    by_cases c2 : 0 ≤ w ∧ w ≤ 2
    · simp (disch := omega) only [s91_0, s91_1, s91_2, s91_5, s91_6, s91_9, s91_10, s91_13, s91_14, s91_15, s91_16, s91_17, s91_20, s91_23, s91_24, s91_25, s91_26, s91_27, true_and, and_true, true_implies, Option.toList_some, Option.toList_none, List.nil_append, List.cons_append, List.map_nil, List.map_cons, List.sum_nil, List.sum_cons, Nat.zero_le, ab_nl_n, ab_nl_i, ab_nl_r, ab_nl_0, ab_cat_i, ab_cat_r, ab_cat_l, Nat.reduceAdd, Nat.reduceLeDiff, Nat.add_zero, Nat.zero_add, reduceIte, List.getElem?_cons_succ, List.getElem?_cons_zero, List.length_cons, List.length_nil, List.set_cons_zero, List.set_cons_succ, true_or, or_true, Classical.not_not, not_true_eq_false, not_false_eq_true, ab_01r, ab_01z, ab_01n, false_implies, ab_tt, Nat.reduceLT, Nat.reduceEqDiff, Int.reduceNeg, Int.reduceLT, Int.reduceLE, Int.add_zero, Int.zero_add, List.append_nil, Int.reduceEq, ab_sum1, ab_ri_0, ab_ri_1, ab_ri_2, ab_ri_3, ab_ri_4, ab_ri_5, ab_ri_6, ab_ri_7, ab_ri_8, ab_ri_12, ab_ri_30, ab_ri_60, ab_ri_100, ab_ri_101, ab_ri_127, ab_ri_m1, ab_ri_m2, ab_ri_m3, ab_ri_m4, ab_ri_m5, ab_ri_m11, ab_ri_m13, ab_ri_m14, ab_ri_10, sp_isWithin, ab_01n, ab_01z, c1, c2, hwr]
      refine sp_isRowNumber c2 hv (fun c3 => ?_) (fun c3 => ?_)
      · have hrr : ab_inR (X 5 0) = True := eq_true (by omega)
        by_cases c4 : X 5 0 < 8
        · rw [if_pos ⟨⟨c2, c3⟩, c4⟩, if_pos c2, if_pos c3, if_pos c4] at q
          have r0 := I0.1
          have r8 : X 5 0 < ((8 : Nat) : Int) := c4
          have q := q (ab_hs (ab_hs (ab_hs h 18 (ab_ia 8 (ab_ui ws (X 5 0) w))) 19 (ab_ia 8 (ab_ui bs (X 5 0) v))) 7 (.inl (4, [vr 8, vr 9, vr 18, vr 19, vi (X 5 0 + 1)]))) (fun a ha => (ab_hs_ne (by omega)).trans ((ab_hs_ne (by omega)).trans (ab_hs_ne (by omega)))) (ab_JC_now (fun a ha => (ab_hs_ne (by omega)).trans ((ab_hs_ne (by omega)).trans (ab_hs_ne (by omega)))) J (fun i hi => by
            by_cases e : i = 5
            · refine Or.inr ⟨e, fun j hj => ?_⟩
              rw [ab_up_e, ab_ui_ne hj]
            · exact Or.inl ((ab_up_n e).trans ((ab_up_n (by omega)).trans (ab_up_n (by omega))))) ⟨l, hvv, f, ab_ui ws (X 5 0) w, ab_ui bs (X 5 0) v, ⟨ab_hs_self, (ab_hs_ne (by decide)).trans ((ab_hs_ne (by decide)).trans ((ab_hs_ne (by decide)).trans k2)), (ab_hs_ne (by decide)).trans ((ab_hs_ne (by decide)).trans ((ab_hs_ne (by decide)).trans k3)), fun v v0 v4 => by
              have := ab_va_r (s := 7) v4
              exact ⟨(ab_hs_ne (by omega)).trans ((ab_hs_ne (by omega)).trans ((ab_hs_ne (by omega)).trans (k4 v v0 v4).1)), (ab_hs_ne (by omega)).trans ((ab_hs_ne (by omega)).trans ((ab_hs_ne (by omega)).trans (k4 v v0 v4).2))⟩, (ab_hs_ne (by decide)).trans ((ab_hs_ne (by decide)).trans ab_hs_self), (ab_hs_ne (by decide)).trans ab_hs_self⟩, k7, k8, k9, fun j j0 j8 => by
                show _ = ab_ui (X 3) (X 5 0) w j
                by_cases e : j = X 5 0
                · rw [e, ab_ui_at, ab_ui_at]
                · rw [ab_ui_ne e, ab_ui_ne e]; exact k10 j j0 j8, fun j j0 j8 => by
                show _ = ab_ui (X 4) (X 5 0) v j
                by_cases e : j = X 5 0
                · rw [e, ab_ui_at, ab_ui_at]
                · rw [ab_ui_ne e, ab_ui_ne e]; exact k11 j j0 j8⟩)
          have o1 : ∀ c, ab_hs h 18 c 6 = some (ab_mn (X 5 3)) := fun c => (ab_hs_ne (by decide)).trans j1
          have o2 : ∀ c, ab_hs h 18 c 7 = h 7 := fun c => ab_hs_ne (by decide)
          have o3 : ∀ c, ab_hs h 18 c 19 = h 19 := fun c => ab_hs_ne (by decide)
          have o4 : ∀ c d, ab_hs (ab_hs h 18 c) 19 d 6 = some (ab_mn (X 5 3)) := fun c d => (ab_hs_ne (by decide)).trans (o1 c)
          have o5 : ∀ c d, ab_hs (ab_hs h 18 c) 19 d 7 = h 7 := fun c d => (ab_hs_ne (by decide)).trans (o2 c)
          have o6 : ∀ c d e, ab_hs (ab_hs (ab_hs h 18 c) 19 d) 7 e 6 = some (ab_mn (X 5 3)) := fun c d e => (ab_hs_ne (by decide)).trans (o4 c d)
          simp only [s91_30, s91_33, s91_35, s91_36, s91_37, s91_40, s91_43, s91_45, s91_48, s91_50, s91_51, s91_52, s91_55, s91_58, s91_59, s91_62, s91_65, s91_66, s91_67, s91_68, s91_71, s91_74, s91_75, s91_78, s91_81, s91_82, s91_83, s91_84, s91_87, s91_88, s91_91, s91_92, s91_93, s91_96, s91_97, s91_100, s91_103, true_and, and_true, true_implies, Option.toList_some, Option.toList_none, List.nil_append, List.cons_append, List.map_nil, List.map_cons, List.sum_nil, List.sum_cons, Nat.zero_le, ab_nl_n, ab_nl_i, ab_nl_r, ab_nl_0, ab_cat_i, ab_cat_r, ab_cat_l, Nat.reduceAdd, Nat.reduceLeDiff, Nat.add_zero, Nat.zero_add, reduceIte, List.getElem?_cons_succ, List.getElem?_cons_zero, List.length_cons, List.length_nil, List.set_cons_zero, List.set_cons_succ, true_or, or_true, Classical.not_not, not_true_eq_false, not_false_eq_true, ab_01r, ab_01z, ab_01n, false_implies, ab_tt, Nat.reduceLT, Nat.reduceEqDiff, Int.reduceNeg, Int.reduceLT, Int.reduceLE, Int.add_zero, Int.zero_add, List.append_nil, Int.reduceEq, ab_sum1, ab_ri_0, ab_ri_1, ab_ri_2, ab_ri_3, ab_ri_4, ab_ri_5, ab_ri_6, ab_ri_7, ab_ri_8, ab_ri_12, ab_ri_30, ab_ri_60, ab_ri_100, ab_ri_101, ab_ri_127, ab_ri_m1, ab_ri_m2, ab_ri_m3, ab_ri_m4, ab_ri_m5, ab_ri_m11, ab_ri_m13, ab_ri_m14, ab_ri_10, ab_fd, ab_fs, ab_as, ab_fit, ab_tyf, tyX4, j1, k1, k5, k6, o1, o2, o3, o4, o5, o6, ab_hs_self, c4, hrr, r0, r8, Nat.reduceLeDiff, q] <;> omega
        · rw [if_neg (fun z => c4 z.2), if_pos c2, if_pos c3, if_neg c4] at q
          have q := q h (fun _ _ => rfl) J
          simp only [s91_30, s91_33, s91_35, s91_36, s91_37, s91_40, s91_43, s91_45, s91_48, s91_50, true_and, and_true, true_implies, Option.toList_some, Option.toList_none, List.nil_append, List.cons_append, List.map_nil, List.map_cons, List.sum_nil, List.sum_cons, Nat.zero_le, ab_nl_n, ab_nl_i, ab_nl_r, ab_nl_0, ab_cat_i, ab_cat_r, ab_cat_l, Nat.reduceAdd, Nat.reduceLeDiff, Nat.add_zero, Nat.zero_add, reduceIte, List.getElem?_cons_succ, List.getElem?_cons_zero, List.length_cons, List.length_nil, List.set_cons_zero, List.set_cons_succ, true_or, or_true, Classical.not_not, not_true_eq_false, not_false_eq_true, ab_01r, ab_01z, ab_01n, false_implies, ab_tt, Nat.reduceLT, Nat.reduceEqDiff, Int.reduceNeg, Int.reduceLT, Int.reduceLE, Int.add_zero, Int.zero_add, List.append_nil, Int.reduceEq, ab_sum1, ab_ri_0, ab_ri_1, ab_ri_2, ab_ri_3, ab_ri_4, ab_ri_5, ab_ri_6, ab_ri_7, ab_ri_8, ab_ri_12, ab_ri_30, ab_ri_60, ab_ri_100, ab_ri_101, ab_ri_127, ab_ri_m1, ab_ri_m2, ab_ri_m3, ab_ri_m4, ab_ri_m5, ab_ri_m11, ab_ri_m13, ab_ri_m14, ab_ri_10, ab_fd, j1, k1, c4, hrr, Nat.reduceLeDiff, q] <;> omega
      · rw [if_neg (fun z => c3 z.1.2), if_pos c2, if_neg c3] at q
        have q := q h (fun _ _ => rfl) J
        simp only [s91_30, s91_33, s91_35, true_and, and_true, true_implies, Option.toList_some, Option.toList_none, List.nil_append, List.cons_append, List.map_nil, List.map_cons, List.sum_nil, List.sum_cons, Nat.zero_le, ab_nl_n, ab_nl_i, ab_nl_r, ab_nl_0, ab_cat_i, ab_cat_r, ab_cat_l, Nat.reduceAdd, Nat.reduceLeDiff, Nat.add_zero, Nat.zero_add, reduceIte, List.getElem?_cons_succ, List.getElem?_cons_zero, List.length_cons, List.length_nil, List.set_cons_zero, List.set_cons_succ, true_or, or_true, Classical.not_not, not_true_eq_false, not_false_eq_true, ab_01r, ab_01z, ab_01n, false_implies, ab_tt, Nat.reduceLT, Nat.reduceEqDiff, Int.reduceNeg, Int.reduceLT, Int.reduceLE, Int.add_zero, Int.zero_add, List.append_nil, Int.reduceEq, ab_sum1, ab_ri_0, ab_ri_1, ab_ri_2, ab_ri_3, ab_ri_4, ab_ri_5, ab_ri_6, ab_ri_7, ab_ri_8, ab_ri_12, ab_ri_30, ab_ri_60, ab_ri_100, ab_ri_101, ab_ri_127, ab_ri_m1, ab_ri_m2, ab_ri_m3, ab_ri_m4, ab_ri_m5, ab_ri_m11, ab_ri_m13, ab_ri_m14, ab_ri_10, q] <;> omega
    · rw [if_neg (fun z => c2 z.1.1), if_neg c2] at q
      have q := q h (fun _ _ => rfl) J
      simp (disch := omega) only [s91_0, s91_1, s91_2, s91_5, s91_6, s91_9, s91_10, s91_13, s91_14, s91_15, s91_16, s91_17, s91_20, s91_23, s91_24, true_and, and_true, true_implies, Option.toList_some, Option.toList_none, List.nil_append, List.cons_append, List.map_nil, List.map_cons, List.sum_nil, List.sum_cons, Nat.zero_le, ab_nl_n, ab_nl_i, ab_nl_r, ab_nl_0, ab_cat_i, ab_cat_r, ab_cat_l, Nat.reduceAdd, Nat.reduceLeDiff, Nat.add_zero, Nat.zero_add, reduceIte, List.getElem?_cons_succ, List.getElem?_cons_zero, List.length_cons, List.length_nil, List.set_cons_zero, List.set_cons_succ, true_or, or_true, Classical.not_not, not_true_eq_false, not_false_eq_true, ab_01r, ab_01z, ab_01n, false_implies, ab_tt, Nat.reduceLT, Nat.reduceEqDiff, Int.reduceNeg, Int.reduceLT, Int.reduceLE, Int.add_zero, Int.zero_add, List.append_nil, Int.reduceEq, ab_sum1, ab_ri_0, ab_ri_1, ab_ri_2, ab_ri_3, ab_ri_4, ab_ri_5, ab_ri_6, ab_ri_7, ab_ri_8, ab_ri_12, ab_ri_30, ab_ri_60, ab_ri_100, ab_ri_101, ab_ri_127, ab_ri_m1, ab_ri_m2, ab_ri_m3, ab_ri_m4, ab_ri_m5, ab_ri_m11, ab_ri_m13, ab_ri_m14, ab_ri_10, sp_isWithin, ab_01n, ab_01z, c1, c2, hwr, q]
theorem sp_doRow {w b hg : Int} {g f' : Int → Int} {h0 : ab_H} (hs : ab_stat h0) (J : ab_JC X Y h0) (I : ab_XI X) (e1 : ab_fth h0 h) {L : Int → Int} (hLX : ab_eqf 4 L (X 0)) (hla : ab_lad h L 5) (b1 : h 58 = some (ab_vec 59 hg)) (b2 : h 59 = some (ab_ia 7 g)) (hr : ab_rok w b) (hz : ab_zok (hg, f')) (hg' : ∀ i, 0 ≤ i → i < 7 → g i = f' i)
    (q : ∀ h' g', ab_fth h0 h' → ab_lad h' L 5 → h' 58 = some (ab_vec 59 (ab_rw X w b (hg, f')).1) → h' 59 = some (ab_ia 7 g') → (∀ i, 0 ≤ i → i < 7 → g' i = (ab_rw X w b (hg, f')).2 i) → Q none h' n) : ab_G 116 0 [some (vr 6), some (vi w), some (vi b), none] [] h n (0, 0) Q := by
  have J' := J
  obtain ⟨j1, j2, j3, j4, j5, j6, j7, j8, j9⟩ := J'
  obtain ⟨l, hvv, f, ws, bs, ⟨k1, k2, k3, k4, k5, k6⟩, k7, k8, k9, k10, k11⟩ := ab_now_o j2
  have hl := ab_lok_cg k7 I.1.1
  obtain ⟨⟨z0, z1⟩, z2⟩ := hz
  simp only at z0 z1 z2
  have e6 := (e1 6 (by decide)).trans j1
  have hgr : ∀ i, 0 ≤ i → i < 7 → 0 ≤ g i ∧ g i ≤ 100 := fun i i0 i7 => by rw [hg' i i0 i7]; exact z2 i i0 i7
  obtain ⟨B, A, F, Mv, top, ⟨d1, -⟩, -⟩ := id hla
  have hwr : ab_inR w = True := eq_true (by unfold ab_rok at hr; omega)
  unfold ab_rw at q
  rcases hr with ⟨rfl, r1, r2⟩ | ⟨rfl, r1, r2⟩ | ⟨rfl, r1, r2⟩
  · simp only [if_true] at q
    by_cases c1 : hg - b < 0
    · rw [if_pos c1] at q
      have c1n : ¬ 0 ≤ hg - b := by omega
      simp only [s116_0, s116_1, s116_4, s116_5, s116_8, s116_11, s116_12, s116_13, s116_14, s116_15, s116_18, s116_19, s116_22, s116_23, true_and, and_true, true_implies, Option.toList_some, Option.toList_none, List.nil_append, List.cons_append, List.map_nil, List.map_cons, List.sum_nil, List.sum_cons, Nat.zero_le, ab_nl_n, ab_nl_i, ab_nl_r, ab_nl_0, ab_cat_i, ab_cat_r, ab_cat_l, Nat.reduceAdd, Nat.reduceLeDiff, Nat.add_zero, Nat.zero_add, reduceIte, List.getElem?_cons_succ, List.getElem?_cons_zero, List.length_cons, List.length_nil, List.set_cons_zero, List.set_cons_succ, true_or, or_true, Classical.not_not, not_true_eq_false, not_false_eq_true, ab_01r, ab_01z, ab_01n, false_implies, ab_tt, Nat.reduceLT, Nat.reduceEqDiff, Int.reduceNeg, Int.reduceLT, Int.reduceLE, Int.add_zero, Int.zero_add, List.append_nil, Int.reduceEq, ab_sum1, ab_ri_0, ab_ri_1, ab_ri_2, ab_ri_3, ab_ri_4, ab_ri_5, ab_ri_6, ab_ri_7, ab_ri_8, ab_ri_12, ab_ri_30, ab_ri_60, ab_ri_100, ab_ri_101, ab_ri_127, ab_ri_m1, ab_ri_m2, ab_ri_m3, ab_ri_m4, ab_ri_m5, ab_ri_m11, ab_ri_m13, ab_ri_m14, ab_ri_10, ab_fd, ab_vc, ab_sv_11_273, ab_sv_11_200, ab_sv_11_289, ab_sv_11_204, e6, b1, c1n, Nat.reduceLeDiff]
      (repeat refine And.intro (by omega) ?_)
      refine sp_becomeZero (by decide) (by decide) (by decide) b1 b2 ?_
      have q := q (ab_hs (ab_hs h 58 (ab_vec 59 0)) 59 (ab_ia 7 (ab_fi (fun _ => 0) g 0 7))) _ (fun a ha => (ab_hs_ne (by omega)).trans ((ab_hs_ne (by omega)).trans (e1 a ha))) (ab_lad_fr (fun a _ _ => (ab_hs_ne (by omega)).trans (ab_hs_ne (by omega))) hla) ((ab_hs_ne (by decide)).trans ab_hs_self) ab_hs_self (fun i i0 i7 => ab_fi_lo ⟨i0, i7⟩)
      simp only [s116_26, s116_46, s116_104, true_and, and_true, true_implies, Option.toList_some, Option.toList_none, List.nil_append, List.cons_append, List.map_nil, List.map_cons, List.sum_nil, List.sum_cons, Nat.zero_le, ab_nl_n, ab_nl_i, ab_nl_r, ab_nl_0, ab_cat_i, ab_cat_r, ab_cat_l, Nat.reduceAdd, Nat.reduceLeDiff, Nat.add_zero, Nat.zero_add, reduceIte, List.getElem?_cons_succ, List.getElem?_cons_zero, List.length_cons, List.length_nil, List.set_cons_zero, List.set_cons_succ, true_or, or_true, Classical.not_not, not_true_eq_false, not_false_eq_true, ab_01r, ab_01z, ab_01n, false_implies, ab_tt, Nat.reduceLT, Nat.reduceEqDiff, Int.reduceNeg, Int.reduceLT, Int.reduceLE, Int.add_zero, Int.zero_add, List.append_nil, Int.reduceEq, ab_sum1, ab_ri_0, ab_ri_1, ab_ri_2, ab_ri_3, ab_ri_4, ab_ri_5, ab_ri_6, ab_ri_7, ab_ri_8, ab_ri_12, ab_ri_30, ab_ri_60, ab_ri_100, ab_ri_101, ab_ri_127, ab_ri_m1, ab_ri_m2, ab_ri_m3, ab_ri_m4, ab_ri_m5, ab_ri_m11, ab_ri_m13, ab_ri_m14, ab_ri_10, q]
    · rw [if_neg c1] at q
      have c1n : 0 ≤ hg - b := by omega
      by_cases c2 : hg - b ≤ 5
      · rw [if_pos c2] at q
        have c2n : ¬ 5 < hg - b := by omega
        simp only [s116_0, s116_1, s116_4, s116_5, s116_8, s116_11, s116_12, s116_13, s116_14, s116_15, s116_18, s116_19, s116_22, s116_23, s116_26, s116_29, s116_30, s116_31, s116_34, s116_35, s116_38, s116_39, s116_42, s116_43, true_and, and_true, true_implies, Option.toList_some, Option.toList_none, List.nil_append, List.cons_append, List.map_nil, List.map_cons, List.sum_nil, List.sum_cons, Nat.zero_le, ab_nl_n, ab_nl_i, ab_nl_r, ab_nl_0, ab_cat_i, ab_cat_r, ab_cat_l, Nat.reduceAdd, Nat.reduceLeDiff, Nat.add_zero, Nat.zero_add, reduceIte, List.getElem?_cons_succ, List.getElem?_cons_zero, List.length_cons, List.length_nil, List.set_cons_zero, List.set_cons_succ, true_or, or_true, Classical.not_not, not_true_eq_false, not_false_eq_true, ab_01r, ab_01z, ab_01n, false_implies, ab_tt, Nat.reduceLT, Nat.reduceEqDiff, Int.reduceNeg, Int.reduceLT, Int.reduceLE, Int.add_zero, Int.zero_add, List.append_nil, Int.reduceEq, ab_sum1, ab_ri_0, ab_ri_1, ab_ri_2, ab_ri_3, ab_ri_4, ab_ri_5, ab_ri_6, ab_ri_7, ab_ri_8, ab_ri_12, ab_ri_30, ab_ri_60, ab_ri_100, ab_ri_101, ab_ri_127, ab_ri_m1, ab_ri_m2, ab_ri_m3, ab_ri_m4, ab_ri_m5, ab_ri_m11, ab_ri_m13, ab_ri_m14, ab_ri_10, ab_fd, ab_vc, ab_sv_11_273, ab_sv_11_200, ab_sv_11_289, ab_sv_11_204, e6, b1, d1, c1n, c2n, Nat.reduceLeDiff]
        (repeat refine And.intro (by omega) ?_)
        refine sp_move (ab_stat_th e1 hs) hla ⟨by decide, by decide⟩ ⟨by decide, by decide⟩ (by decide) b1 b2 ⟨z0, z1⟩ ⟨c1n, c2⟩ (Int.le_refl 5) hgr fun h2 e2 y1 y2 lad2 => ?_
        have q := q h2 _ (fun a ha => (e2 a (by omega) (by omega) (by omega)).trans (e1 a ha)) lad2 y1 y2 (fun i i0 i7 => by
          rw [ab_fi_lo ⟨i0, i7⟩, ab_AT_cg hLX, ab_mv_cg (g := f') ⟨z0, z1⟩ hg'])
        simp only [s116_46, s116_104, true_and, and_true, true_implies, Option.toList_some, Option.toList_none, List.nil_append, List.cons_append, List.map_nil, List.map_cons, List.sum_nil, List.sum_cons, Nat.zero_le, ab_nl_n, ab_nl_i, ab_nl_r, ab_nl_0, ab_cat_i, ab_cat_r, ab_cat_l, Nat.reduceAdd, Nat.reduceLeDiff, Nat.add_zero, Nat.zero_add, reduceIte, List.getElem?_cons_succ, List.getElem?_cons_zero, List.length_cons, List.length_nil, List.set_cons_zero, List.set_cons_succ, true_or, or_true, Classical.not_not, not_true_eq_false, not_false_eq_true, ab_01r, ab_01z, ab_01n, false_implies, ab_tt, Nat.reduceLT, Nat.reduceEqDiff, Int.reduceNeg, Int.reduceLT, Int.reduceLE, Int.add_zero, Int.zero_add, List.append_nil, Int.reduceEq, ab_sum1, ab_ri_0, ab_ri_1, ab_ri_2, ab_ri_3, ab_ri_4, ab_ri_5, ab_ri_6, ab_ri_7, ab_ri_8, ab_ri_12, ab_ri_30, ab_ri_60, ab_ri_100, ab_ri_101, ab_ri_127, ab_ri_m1, ab_ri_m2, ab_ri_m3, ab_ri_m4, ab_ri_m5, ab_ri_m11, ab_ri_m13, ab_ri_m14, ab_ri_10, q]
      · rw [if_neg c2] at q
        have c2n : 5 < hg - b := by omega
        have q := q h g e1 hla b1 b2 hg'
        simp only [s116_0, s116_1, s116_4, s116_5, s116_8, s116_11, s116_12, s116_13, s116_14, s116_15, s116_18, s116_19, s116_22, s116_23, s116_26, s116_29, s116_30, s116_31, s116_46, s116_104, true_and, and_true, true_implies, Option.toList_some, Option.toList_none, List.nil_append, List.cons_append, List.map_nil, List.map_cons, List.sum_nil, List.sum_cons, Nat.zero_le, ab_nl_n, ab_nl_i, ab_nl_r, ab_nl_0, ab_cat_i, ab_cat_r, ab_cat_l, Nat.reduceAdd, Nat.reduceLeDiff, Nat.add_zero, Nat.zero_add, reduceIte, List.getElem?_cons_succ, List.getElem?_cons_zero, List.length_cons, List.length_nil, List.set_cons_zero, List.set_cons_succ, true_or, or_true, Classical.not_not, not_true_eq_false, not_false_eq_true, ab_01r, ab_01z, ab_01n, false_implies, ab_tt, Nat.reduceLT, Nat.reduceEqDiff, Int.reduceNeg, Int.reduceLT, Int.reduceLE, Int.add_zero, Int.zero_add, List.append_nil, Int.reduceEq, ab_sum1, ab_ri_0, ab_ri_1, ab_ri_2, ab_ri_3, ab_ri_4, ab_ri_5, ab_ri_6, ab_ri_7, ab_ri_8, ab_ri_12, ab_ri_30, ab_ri_60, ab_ri_100, ab_ri_101, ab_ri_127, ab_ri_m1, ab_ri_m2, ab_ri_m3, ab_ri_m4, ab_ri_m5, ab_ri_m11, ab_ri_m13, ab_ri_m14, ab_ri_10, ab_fd, e6, b1, c1n, c2n, Nat.reduceLeDiff, q] <;> omega
  · simp only [show ¬ (1 : Int) = 0 by decide, if_true, if_false] at q
    simp only [s116_0, s116_1, s116_49, s116_50, s116_51, s116_54, s116_55, s116_58, s116_59, true_and, and_true, true_implies, Option.toList_some, Option.toList_none, List.nil_append, List.cons_append, List.map_nil, List.map_cons, List.sum_nil, List.sum_cons, Nat.zero_le, ab_nl_n, ab_nl_i, ab_nl_r, ab_nl_0, ab_cat_i, ab_cat_r, ab_cat_l, Nat.reduceAdd, Nat.reduceLeDiff, Nat.add_zero, Nat.zero_add, reduceIte, List.getElem?_cons_succ, List.getElem?_cons_zero, List.length_cons, List.length_nil, List.set_cons_zero, List.set_cons_succ, true_or, or_true, Classical.not_not, not_true_eq_false, not_false_eq_true, ab_01r, ab_01z, ab_01n, false_implies, ab_tt, Nat.reduceLT, Nat.reduceEqDiff, Int.reduceNeg, Int.reduceLT, Int.reduceLE, Int.add_zero, Int.zero_add, List.append_nil, Int.reduceEq, ab_sum1, ab_ri_0, ab_ri_1, ab_ri_2, ab_ri_3, ab_ri_4, ab_ri_5, ab_ri_6, ab_ri_7, ab_ri_8, ab_ri_12, ab_ri_30, ab_ri_60, ab_ri_100, ab_ri_101, ab_ri_127, ab_ri_m1, ab_ri_m2, ab_ri_m3, ab_ri_m4, ab_ri_m5, ab_ri_m11, ab_ri_m13, ab_ri_m14, ab_ri_10, ab_fd, ab_vc, ab_sv_11_273, ab_sv_11_200, ab_sv_11_289, ab_sv_11_204, e6, b1, Nat.reduceLeDiff]
    refine sp_multiply (by decide) (by decide) (by decide) b1 b2 ⟨r1, r2⟩ hgr ?_
    have q := q (ab_hs h 59 (ab_ia 7 (ab_fi (fun i => g i * b % 101) g 0 7))) _ (fun a ha => (ab_hs_ne (by omega)).trans (e1 a ha)) (ab_lad_fr (fun a _ _ => ab_hs_ne (by omega)) hla) ((ab_hs_ne (by decide)).trans b1) ab_hs_self (fun i i0 i7 => by rw [ab_fi_lo ⟨i0, i7⟩, hg' i i0 i7])
    simp only [s116_62, s116_104, true_and, and_true, true_implies, Option.toList_some, Option.toList_none, List.nil_append, List.cons_append, List.map_nil, List.map_cons, List.sum_nil, List.sum_cons, Nat.zero_le, ab_nl_n, ab_nl_i, ab_nl_r, ab_nl_0, ab_cat_i, ab_cat_r, ab_cat_l, Nat.reduceAdd, Nat.reduceLeDiff, Nat.add_zero, Nat.zero_add, reduceIte, List.getElem?_cons_succ, List.getElem?_cons_zero, List.length_cons, List.length_nil, List.set_cons_zero, List.set_cons_succ, true_or, or_true, Classical.not_not, not_true_eq_false, not_false_eq_true, ab_01r, ab_01z, ab_01n, false_implies, ab_tt, Nat.reduceLT, Nat.reduceEqDiff, Int.reduceNeg, Int.reduceLT, Int.reduceLE, Int.add_zero, Int.zero_add, List.append_nil, Int.reduceEq, ab_sum1, ab_ri_0, ab_ri_1, ab_ri_2, ab_ri_3, ab_ri_4, ab_ri_5, ab_ri_6, ab_ri_7, ab_ri_8, ab_ri_12, ab_ri_30, ab_ri_60, ab_ri_100, ab_ri_101, ab_ri_127, ab_ri_m1, ab_ri_m2, ab_ri_m3, ab_ri_m4, ab_ri_m5, ab_ri_m11, ab_ri_m13, ab_ri_m14, ab_ri_10, q]
  · simp only [show ¬ (2 : Int) = 0 by decide, show ¬ (2 : Int) = 1 by decide, if_false] at q
    have c1 : ab_isV b := ⟨r1, r2⟩
    have va := ab_va_r (s := 7) (v := b) (by omega)
    have a6 : 6 ≤ ab_va 7 b := by omega
    obtain ⟨v1, v2⟩ := k4 b c1.1 (by omega)
    have v4 : b < ((4 : Nat) : Int) := by omega
    have v0 : 0 ≤ b := c1.1
    have v04 : 0 ≤ b ∧ b < 4 := ⟨v0, by omega⟩
    have hh := I.1.2.1 b v0 (by omega)
    have hx := k8 b v0 (by omega)
    have hf : ∀ i, 0 ≤ i → i < 7 → 0 ≤ f b i ∧ f b i ≤ 100 := fun i i0 i7 => by rw [k9 b i v0 (by omega) i0 i7]; exact I.1.2.2.1 _ (by omega) (by omega)
    rw [← hx] at q
    have w1 := (e1 (ab_va 7 b) (by omega)).trans v1
    have w2 := (e1 (ab_vb 7 b) (by omega)).trans v2
    have e7 := (e1 7 (by decide)).trans k1
    have e9 := (e1 9 (by decide)).trans k3
    have hr1 : ab_inR (hvv b) = True := eq_true (by omega)
    have hr2 : ab_inR hg = True := eq_true (by omega)
    by_cases c2 : hvv b = hg
    · rw [if_pos c2] at q
      simp only [s116_0, s116_1, s116_49, s116_50, s116_51, s116_65, s116_66, s116_69, s116_72, s116_73, s116_74, s116_77, s116_78, s116_81, s116_84, s116_87, s116_88, s116_91, s116_92, s116_95, s116_98, s116_99, s116_100, s116_101, true_and, and_true, true_implies, Option.toList_some, Option.toList_none, List.nil_append, List.cons_append, List.map_nil, List.map_cons, List.sum_nil, List.sum_cons, Nat.zero_le, ab_nl_n, ab_nl_i, ab_nl_r, ab_nl_0, ab_cat_i, ab_cat_r, ab_cat_l, Nat.reduceAdd, Nat.reduceLeDiff, Nat.add_zero, Nat.zero_add, reduceIte, List.getElem?_cons_succ, List.getElem?_cons_zero, List.length_cons, List.length_nil, List.set_cons_zero, List.set_cons_succ, true_or, or_true, Classical.not_not, not_true_eq_false, not_false_eq_true, ab_01r, ab_01z, ab_01n, false_implies, ab_tt, Nat.reduceLT, Nat.reduceEqDiff, Int.reduceNeg, Int.reduceLT, Int.reduceLE, Int.add_zero, Int.zero_add, List.append_nil, Int.reduceEq, ab_sum1, ab_ri_0, ab_ri_1, ab_ri_2, ab_ri_3, ab_ri_4, ab_ri_5, ab_ri_6, ab_ri_7, ab_ri_8, ab_ri_12, ab_ri_30, ab_ri_60, ab_ri_100, ab_ri_101, ab_ri_127, ab_ri_m1, ab_ri_m2, ab_ri_m3, ab_ri_m4, ab_ri_m5, ab_ri_m11, ab_ri_m13, ab_ri_m14, ab_ri_10, ab_fd, ab_ar, ab_vc, ab_sv_11_273, ab_sv_11_200, ab_sv_11_289, ab_sv_11_204, e6, e7, e9, b1, w1, v0, v4, v04, a6, hr1, hr2, eq_true c2, Nat.reduceLeDiff]
      refine sp_addTimes (by decide) (by decide) a6 (by omega) (by decide) (by omega) b1 b2 w1 w2 (by decide) hgr hf ?_
      have q := q (ab_hs h 59 (ab_ia 7 (ab_fi (fun i => (g i + 1 * f b i) % 101) g 0 7))) _ (fun a ha => (ab_hs_ne (by omega)).trans (e1 a ha)) (ab_lad_fr (fun a _ _ => ab_hs_ne (by omega)) hla) ((ab_hs_ne (by decide)).trans b1) ab_hs_self (fun i i0 i7 => by rw [ab_fi_lo ⟨i0, i7⟩, hg' i i0 i7, Int.one_mul, k9 b i v0 (by omega) i0 i7])
      simp only [s116_104, true_and, and_true, true_implies, Option.toList_some, Option.toList_none, List.nil_append, List.cons_append, List.map_nil, List.map_cons, List.sum_nil, List.sum_cons, Nat.zero_le, ab_nl_n, ab_nl_i, ab_nl_r, ab_nl_0, ab_cat_i, ab_cat_r, ab_cat_l, Nat.reduceAdd, Nat.reduceLeDiff, Nat.add_zero, Nat.zero_add, reduceIte, List.getElem?_cons_succ, List.getElem?_cons_zero, List.length_cons, List.length_nil, List.set_cons_zero, List.set_cons_succ, true_or, or_true, Classical.not_not, not_true_eq_false, not_false_eq_true, ab_01r, ab_01z, ab_01n, false_implies, ab_tt, Nat.reduceLT, Nat.reduceEqDiff, Int.reduceNeg, Int.reduceLT, Int.reduceLE, Int.add_zero, Int.zero_add, List.append_nil, Int.reduceEq, ab_sum1, ab_ri_0, ab_ri_1, ab_ri_2, ab_ri_3, ab_ri_4, ab_ri_5, ab_ri_6, ab_ri_7, ab_ri_8, ab_ri_12, ab_ri_30, ab_ri_60, ab_ri_100, ab_ri_101, ab_ri_127, ab_ri_m1, ab_ri_m2, ab_ri_m3, ab_ri_m4, ab_ri_m5, ab_ri_m11, ab_ri_m13, ab_ri_m14, ab_ri_10, q]
    · rw [if_neg c2] at q
      have q := q h g e1 hla b1 b2 hg'
      simp only [s116_0, s116_1, s116_49, s116_50, s116_51, s116_65, s116_66, s116_69, s116_72, s116_73, s116_74, s116_77, s116_78, s116_81, s116_84, s116_104, true_and, and_true, true_implies, Option.toList_some, Option.toList_none, List.nil_append, List.cons_append, List.map_nil, List.map_cons, List.sum_nil, List.sum_cons, Nat.zero_le, ab_nl_n, ab_nl_i, ab_nl_r, ab_nl_0, ab_cat_i, ab_cat_r, ab_cat_l, Nat.reduceAdd, Nat.reduceLeDiff, Nat.add_zero, Nat.zero_add, reduceIte, List.getElem?_cons_succ, List.getElem?_cons_zero, List.length_cons, List.length_nil, List.set_cons_zero, List.set_cons_succ, true_or, or_true, Classical.not_not, not_true_eq_false, not_false_eq_true, ab_01r, ab_01z, ab_01n, false_implies, ab_tt, Nat.reduceLT, Nat.reduceEqDiff, Int.reduceNeg, Int.reduceLT, Int.reduceLE, Int.add_zero, Int.zero_add, List.append_nil, Int.reduceEq, ab_sum1, ab_ri_0, ab_ri_1, ab_ri_2, ab_ri_3, ab_ri_4, ab_ri_5, ab_ri_6, ab_ri_7, ab_ri_8, ab_ri_12, ab_ri_30, ab_ri_60, ab_ri_100, ab_ri_101, ab_ri_127, ab_ri_m1, ab_ri_m2, ab_ri_m3, ab_ri_m4, ab_ri_m5, ab_ri_m11, ab_ri_m13, ab_ri_m14, ab_ri_10, ab_fd, ab_ar, e6, e7, e9, b1, w1, v0, v4, v04, a6, hr1, hr2, c2, Nat.reduceLeDiff, q]
theorem xc_behind {v i : Int} (hs : ab_stat h) (J : ab_JC X Y h) (I : ab_XI X) (hv : ab_inR v) (hi : ab_inR i) (q : ∀ h', ab_eqo 6 67 h h' → ab_JC X Y h' → Q (some (vi (ab_s_behind X v i))) h' n) : ab_G 92 0 [some (vr 6), some (vi v), some (vi i), none] [] h n (0, 0) Q := by
  have J' := J
  obtain ⟨j1, j2, j3, j4, j5, j6, j7, j8, j9⟩ := J'
  obtain ⟨l, hvv, f, ws, bs, ⟨k1, k2, k3, k4, k5, k6⟩, k7, k8, k9, k10, k11⟩ := ab_now_o j2
  have hl := ab_lok_cg k7 I.1.1
  have hir : ab_inR i = True := eq_true hi
  unfold ab_s_behind at q
  by_cases c1 : ab_isV v
  · have va := ab_va_r (s := 7) (v := v) (by omega)
    have a6 : 6 ≤ ab_va 7 v := by omega
    obtain ⟨v1, v2⟩ := k4 v c1.1 (by omega)
    have v4 : v < ((4 : Nat) : Int) := by omega
    have v0 : 0 ≤ v := c1.1
    have v04 : 0 ≤ v ∧ v < 4 := ⟨v0, by omega⟩
    have hh := I.1.2.1 v v0 (by omega)
    have hx := k8 v v0 (by omega)
    have hf : ∀ i, 0 ≤ i → i < 7 → 0 ≤ f v i ∧ f v i ≤ 100 := fun i i0 i7 => by rw [k9 v i v0 (by omega) i0 i7]; exact I.1.2.2.1 _ (by omega) (by omega)
    rw [if_pos c1] at q
    have I0 := I.1.2.2.2.1
    have hz : ab_zok (X 1 v, ab_cv X v) := ⟨by omega, fun i i0 i7 => I.1.2.2.1 _ (by omega) (by omega)⟩
    obtain ⟨B, A, F, Mv, top, ⟨d1, -⟩, -⟩ := id j4
    simp (disch := omega) only [s92_0, s92_1, s92_4, s92_7, s92_8, s92_9, s92_10, s92_13, s92_14, s92_17, s92_20, s92_21, true_and, and_true, true_implies, Option.toList_some, Option.toList_none, List.nil_append, List.cons_append, List.map_nil, List.map_cons, List.sum_nil, List.sum_cons, Nat.zero_le, ab_nl_n, ab_nl_i, ab_nl_r, ab_nl_0, ab_cat_i, ab_cat_r, ab_cat_l, Nat.reduceAdd, Nat.reduceLeDiff, Nat.add_zero, Nat.zero_add, reduceIte, List.getElem?_cons_succ, List.getElem?_cons_zero, List.length_cons, List.length_nil, List.set_cons_zero, List.set_cons_succ, true_or, or_true, Classical.not_not, not_true_eq_false, not_false_eq_true, ab_01r, ab_01z, ab_01n, false_implies, ab_tt, Nat.reduceLT, Nat.reduceEqDiff, Int.reduceNeg, Int.reduceLT, Int.reduceLE, Int.add_zero, Int.zero_add, List.append_nil, Int.reduceEq, ab_sum1, ab_ri_0, ab_ri_1, ab_ri_2, ab_ri_3, ab_ri_4, ab_ri_5, ab_ri_6, ab_ri_7, ab_ri_8, ab_ri_12, ab_ri_30, ab_ri_60, ab_ri_100, ab_ri_101, ab_ri_127, ab_ri_m1, ab_ri_m2, ab_ri_m3, ab_ri_m4, ab_ri_m5, ab_ri_m11, ab_ri_m13, ab_ri_m14, ab_ri_10, sp_isVector, ab_01n, ab_01z, c1, ab_fd, ab_vc, ab_sv_11_115, ab_sv_11_180, ab_sv_11_235, j1, k1, d1, Nat.reduceLeDiff]
    refine sp_build hs j4 (by decide) (by decide) k2 hl (by decide) fun h1 he lad => ?_
    obtain ⟨t1, t2, g1, g2, s1, s2, s3, s4⟩ := id j8
    have e6 := (he 6 (by decide)).trans j1
    have e7 := (he 7 (by decide)).trans k1
    have e9 := (he 9 (by decide)).trans k3
    have m1 := (he 58 (by decide)).trans s1
    have m2 := (he 59 (by decide)).trans s2
    have w1 := (he (ab_va 7 v) (by omega)).trans v1
    have w2 := (he (ab_vb 7 v) (by omega)).trans v2
    simp only [s92_24, s92_25, s92_28, s92_29, s92_32, s92_35, s92_36, s92_37, true_and, and_true, true_implies, Option.toList_some, Option.toList_none, List.nil_append, List.cons_append, List.map_nil, List.map_cons, List.sum_nil, List.sum_cons, Nat.zero_le, ab_nl_n, ab_nl_i, ab_nl_r, ab_nl_0, ab_cat_i, ab_cat_r, ab_cat_l, Nat.reduceAdd, Nat.reduceLeDiff, Nat.add_zero, Nat.zero_add, reduceIte, List.getElem?_cons_succ, List.getElem?_cons_zero, List.length_cons, List.length_nil, List.set_cons_zero, List.set_cons_succ, true_or, or_true, Classical.not_not, not_true_eq_false, not_false_eq_true, ab_01r, ab_01z, ab_01n, false_implies, ab_tt, Nat.reduceLT, Nat.reduceEqDiff, Int.reduceNeg, Int.reduceLT, Int.reduceLE, Int.add_zero, Int.zero_add, List.append_nil, Int.reduceEq, ab_sum1, ab_ri_0, ab_ri_1, ab_ri_2, ab_ri_3, ab_ri_4, ab_ri_5, ab_ri_6, ab_ri_7, ab_ri_8, ab_ri_12, ab_ri_30, ab_ri_60, ab_ri_100, ab_ri_101, ab_ri_127, ab_ri_m1, ab_ri_m2, ab_ri_m3, ab_ri_m4, ab_ri_m5, ab_ri_m11, ab_ri_m13, ab_ri_m14, ab_ri_10, ab_fd, ab_ar, ab_vc, ab_sv_11_115, ab_sv_11_180, ab_sv_11_235, e6, e7, e9, m1, v0, v4, v04, Nat.reduceLeDiff]
    refine sp_vecCopy (by decide) (by decide) a6 (by omega) (by decide) (by omega) (by omega) (by omega) (by omega) m1 m2 w1 w2 ?_
    simp only [s92_40, s92_41, true_and, and_true, true_implies, Option.toList_some, Option.toList_none, List.nil_append, List.cons_append, List.map_nil, List.map_cons, List.sum_nil, List.sum_cons, Nat.zero_le, ab_nl_n, ab_nl_i, ab_nl_r, ab_nl_0, ab_cat_i, ab_cat_r, ab_cat_l, Nat.reduceAdd, Nat.reduceLeDiff, Nat.add_zero, Nat.zero_add, reduceIte, List.getElem?_cons_succ, List.getElem?_cons_zero, List.length_cons, List.length_nil, List.set_cons_zero, List.set_cons_succ, true_or, or_true, Classical.not_not, not_true_eq_false, not_false_eq_true, ab_01r, ab_01z, ab_01n, false_implies, ab_tt, Nat.reduceLT, Nat.reduceEqDiff, Int.reduceNeg, Int.reduceLT, Int.reduceLE, Int.add_zero, Int.zero_add, List.append_nil, Int.reduceEq, ab_sum1, ab_ri_0, ab_ri_1, ab_ri_2, ab_ri_3, ab_ri_4, ab_ri_5, ab_ri_6, ab_ri_7, ab_ri_8, ab_ri_12, ab_ri_30, ab_ri_60, ab_ri_100, ab_ri_101, ab_ri_127, ab_ri_m1, ab_ri_m2, ab_ri_m3, ab_ri_m4, ab_ri_m5, ab_ri_m11, ab_ri_m13, ab_ri_m14, ab_ri_10]
    have hrr : ab_inR (X 5 0) = True := eq_true (by omega)
    have key := ab_dn (P := fun r => ∀ h' g, ab_fth h h' → ab_lad h' l 5 → h' 58 = some (ab_vec 59 (ab_rws X (X 1 v, ab_cv X v) r.toNat).1) → h' 59 = some (ab_ia 7 g) → (∀ i, 0 ≤ i → i < 7 → g i = (ab_rws X (X 1 v, ab_cv X v) r.toNat).2 i) → ab_G 92 42 [some (vr 6), some (vi v), some (vi i), some (vi r)] [] h' n (0, 0) Q) (a := 0) (e := X 5 0) I0.1 ?_ ?_
    · refine key _ _ (fun a ha => (ab_hs_ne (by omega)).trans ((ab_hs_ne (by omega)).trans (he a (by omega)))) (ab_lad_fr (fun a _ _ => (ab_hs_ne (by omega)).trans (ab_hs_ne (by omega))) lad) ((ab_hs_ne (by decide)).trans (ab_hs_self.trans (by rw [hx]; rfl))) ab_hs_self (fun i i0 i7 => by rw [ab_fi_lo ⟨i0, i7⟩]; exact k9 v i v0 (by omega) i0 i7)
    · intro h2 g e2 lad2 x1 x2 hg
      have zok := ab_rws_ok (X := X) hz (X 5 0).toNat
      revert q x1 hg zok
      generalize ab_rws X (X 1 v, ab_cv X v) (X 5 0).toNat = z
      obtain ⟨hg', f'⟩ := z
      intro q x1 hg zok
      simp only at q x1 hg
      obtain ⟨⟨z0, z1⟩, z2⟩ := zok
      simp only at z0 z1 z2
      have q := q h2 (fun a ha => e2 a (by omega)) (ab_JC_th e2 J lad2 ⟨_, _, x1, x2⟩)
      have y6 := (e2 6 (by decide)).trans j1
      have y7 := (e2 7 (by decide)).trans k1
      have hs2 := ab_stat_th e2 hs
      have hgr : ab_inR hg' := by omega
      rw [s92_42]
      by_cases c2 : i = -1
      · rw [if_pos c2] at q
        simp only [s92_43, s92_44, s92_47, s92_50, s92_81, s92_82, s92_83, s92_86, s92_87, s92_90, s92_93, true_and, and_true, true_implies, Option.toList_some, Option.toList_none, List.nil_append, List.cons_append, List.map_nil, List.map_cons, List.sum_nil, List.sum_cons, Nat.zero_le, ab_nl_n, ab_nl_i, ab_nl_r, ab_nl_0, ab_cat_i, ab_cat_r, ab_cat_l, Nat.reduceAdd, Nat.reduceLeDiff, Nat.add_zero, Nat.zero_add, reduceIte, List.getElem?_cons_succ, List.getElem?_cons_zero, List.length_cons, List.length_nil, List.set_cons_zero, List.set_cons_succ, true_or, or_true, Classical.not_not, not_true_eq_false, not_false_eq_true, ab_01r, ab_01z, ab_01n, false_implies, ab_tt, Nat.reduceLT, Nat.reduceEqDiff, Int.reduceNeg, Int.reduceLT, Int.reduceLE, Int.add_zero, Int.zero_add, List.append_nil, Int.reduceEq, ab_sum1, ab_ri_0, ab_ri_1, ab_ri_2, ab_ri_3, ab_ri_4, ab_ri_5, ab_ri_6, ab_ri_7, ab_ri_8, ab_ri_12, ab_ri_30, ab_ri_60, ab_ri_100, ab_ri_101, ab_ri_127, ab_ri_m1, ab_ri_m2, ab_ri_m3, ab_ri_m4, ab_ri_m5, ab_ri_m11, ab_ri_m13, ab_ri_m14, ab_ri_10, ab_fd, y6, y7, x1, Int.le_refl, hrr, hir, eq_true c2, Nat.reduceLeDiff, q]
      · rw [if_neg c2] at q
        by_cases c3 : ab_isB hg' i
        · rw [if_pos c3, ← hg i c3.2.1 (by have := ab_wd_eq (lv := hg') z0 (by omega); omega)] at q
          have i0 := c3.2.1
          have i7 : i < ((7 : Nat) : Int) := by have := ab_wd_eq (lv := hg') z0 (by omega); omega
          simp only [s92_43, s92_44, s92_47, s92_50, s92_81, s92_82, s92_83, s92_86, s92_87, s92_90, s92_93, s92_94, s92_95, s92_98, s92_101, s92_102, s92_105, s92_108, s92_109, s92_112, s92_115, s92_116, s92_117, s92_120, s92_122, true_and, and_true, true_implies, Option.toList_some, Option.toList_none, List.nil_append, List.cons_append, List.map_nil, List.map_cons, List.sum_nil, List.sum_cons, Nat.zero_le, ab_nl_n, ab_nl_i, ab_nl_r, ab_nl_0, ab_cat_i, ab_cat_r, ab_cat_l, Nat.reduceAdd, Nat.reduceLeDiff, Nat.add_zero, Nat.zero_add, reduceIte, List.getElem?_cons_succ, List.getElem?_cons_zero, List.length_cons, List.length_nil, List.set_cons_zero, List.set_cons_succ, true_or, or_true, Classical.not_not, not_true_eq_false, not_false_eq_true, ab_01r, ab_01z, ab_01n, false_implies, ab_tt, Nat.reduceLT, Nat.reduceEqDiff, Int.reduceNeg, Int.reduceLT, Int.reduceLE, Int.add_zero, Int.zero_add, List.append_nil, Int.reduceEq, ab_sum1, ab_ri_0, ab_ri_1, ab_ri_2, ab_ri_3, ab_ri_4, ab_ri_5, ab_ri_6, ab_ri_7, ab_ri_8, ab_ri_12, ab_ri_30, ab_ri_60, ab_ri_100, ab_ri_101, ab_ri_127, ab_ri_m1, ab_ri_m2, ab_ri_m3, ab_ri_m4, ab_ri_m5, ab_ri_m11, ab_ri_m13, ab_ri_m14, ab_ri_10, ab_fd, ab_ai, sp_isBasis hgr hi hs2, ab_01n, ab_01z, y6, y7, x1, x2, i0, i7, Int.le_refl, hrr, hir, c2, eq_true c3, Nat.reduceLeDiff, q]
        · rw [if_neg c3] at q
          simp only [s92_43, s92_44, s92_47, s92_50, s92_81, s92_82, s92_83, s92_86, s92_87, s92_90, s92_93, s92_94, s92_95, s92_98, s92_101, s92_102, s92_105, s92_108, s92_109, s92_112, s92_115, s92_116, s92_117, s92_120, s92_122, true_and, and_true, true_implies, Option.toList_some, Option.toList_none, List.nil_append, List.cons_append, List.map_nil, List.map_cons, List.sum_nil, List.sum_cons, Nat.zero_le, ab_nl_n, ab_nl_i, ab_nl_r, ab_nl_0, ab_cat_i, ab_cat_r, ab_cat_l, Nat.reduceAdd, Nat.reduceLeDiff, Nat.add_zero, Nat.zero_add, reduceIte, List.getElem?_cons_succ, List.getElem?_cons_zero, List.length_cons, List.length_nil, List.set_cons_zero, List.set_cons_succ, true_or, or_true, Classical.not_not, not_true_eq_false, not_false_eq_true, ab_01r, ab_01z, ab_01n, false_implies, ab_tt, Nat.reduceLT, Nat.reduceEqDiff, Int.reduceNeg, Int.reduceLT, Int.reduceLE, Int.add_zero, Int.zero_add, List.append_nil, Int.reduceEq, ab_sum1, ab_ri_0, ab_ri_1, ab_ri_2, ab_ri_3, ab_ri_4, ab_ri_5, ab_ri_6, ab_ri_7, ab_ri_8, ab_ri_12, ab_ri_30, ab_ri_60, ab_ri_100, ab_ri_101, ab_ri_127, ab_ri_m1, ab_ri_m2, ab_ri_m3, ab_ri_m4, ab_ri_m5, ab_ri_m11, ab_ri_m13, ab_ri_m14, ab_ri_10, ab_fd, sp_isBasis hgr hi hs2, ab_01n, ab_01z, y6, y7, x1, Int.le_refl, hrr, hir, c2, c3, Nat.reduceLeDiff, q]
    · intro r r0 r9 ih h2 g e2 lad2 x1 x2 hg
      have er : (r + 1).toNat = r.toNat + 1 := by omega
      have ec : ((r.toNat : Nat) : Int) = r := Int.toNat_of_nonneg r0
      have r8 : r < ((8 : Nat) : Int) := by omega
      have hrow := I.1.2.2.2.2 r r0 r9
      have zok := ab_rws_ok (X := X) hz r.toNat
      have y6 := (e2 6 (by decide)).trans j1
      have y7 := (e2 7 (by decide)).trans k1
      have y18 := (e2 18 (by decide)).trans k5
      have y19 := (e2 19 (by decide)).trans k6
      have q10 := k10 r r0 (by omega)
      have q11 := k11 r r0 (by omega)
      have c2 : ¬ X 5 0 ≤ r := by omega
      rw [er, ab_rws, ec] at ih
      rw [s92_42]
      simp only [s92_43, s92_44, s92_47, s92_50, s92_53, s92_54, s92_55, s92_58, s92_61, s92_62, s92_63, s92_64, s92_67, s92_70, s92_71, s92_72, true_and, and_true, true_implies, Option.toList_some, Option.toList_none, List.nil_append, List.cons_append, List.map_nil, List.map_cons, List.sum_nil, List.sum_cons, Nat.zero_le, ab_nl_n, ab_nl_i, ab_nl_r, ab_nl_0, ab_cat_i, ab_cat_r, ab_cat_l, Nat.reduceAdd, Nat.reduceLeDiff, Nat.add_zero, Nat.zero_add, reduceIte, List.getElem?_cons_succ, List.getElem?_cons_zero, List.length_cons, List.length_nil, List.set_cons_zero, List.set_cons_succ, true_or, or_true, Classical.not_not, not_true_eq_false, not_false_eq_true, ab_01r, ab_01z, ab_01n, false_implies, ab_tt, Nat.reduceLT, Nat.reduceEqDiff, Int.reduceNeg, Int.reduceLT, Int.reduceLE, Int.add_zero, Int.zero_add, List.append_nil, Int.reduceEq, ab_sum1, ab_ri_0, ab_ri_1, ab_ri_2, ab_ri_3, ab_ri_4, ab_ri_5, ab_ri_6, ab_ri_7, ab_ri_8, ab_ri_12, ab_ri_30, ab_ri_60, ab_ri_100, ab_ri_101, ab_ri_127, ab_ri_m1, ab_ri_m2, ab_ri_m3, ab_ri_m4, ab_ri_m5, ab_ri_m11, ab_ri_m13, ab_ri_m14, ab_ri_10, ab_fd, ab_ai, ab_vc, ab_sv_11_115, ab_sv_11_180, ab_sv_11_235, y6, y7, y18, y19, hrr, c2, r0, r8, q10, q11, Nat.reduceLeDiff]
      (repeat refine And.intro (by omega) ?_)
      refine sp_doRow hs J I e2 k7 lad2 x1 x2 hrow zok hg fun h3 g3 e3 lad3 u1 u2 u3 => ?_
      have ih := ih h3 g3 e3 lad3 u1 u2 u3
      simp only [s92_75, s92_78, true_and, and_true, true_implies, Option.toList_some, Option.toList_none, List.nil_append, List.cons_append, List.map_nil, List.map_cons, List.sum_nil, List.sum_cons, Nat.zero_le, ab_nl_n, ab_nl_i, ab_nl_r, ab_nl_0, ab_cat_i, ab_cat_r, ab_cat_l, Nat.reduceAdd, Nat.reduceLeDiff, Nat.add_zero, Nat.zero_add, reduceIte, List.getElem?_cons_succ, List.getElem?_cons_zero, List.length_cons, List.length_nil, List.set_cons_zero, List.set_cons_succ, true_or, or_true, Classical.not_not, not_true_eq_false, not_false_eq_true, ab_01r, ab_01z, ab_01n, false_implies, ab_tt, Nat.reduceLT, Nat.reduceEqDiff, Int.reduceNeg, Int.reduceLT, Int.reduceLE, Int.add_zero, Int.zero_add, List.append_nil, Int.reduceEq, ab_sum1, ab_ri_0, ab_ri_1, ab_ri_2, ab_ri_3, ab_ri_4, ab_ri_5, ab_ri_6, ab_ri_7, ab_ri_8, ab_ri_12, ab_ri_30, ab_ri_60, ab_ri_100, ab_ri_101, ab_ri_127, ab_ri_m1, ab_ri_m2, ab_ri_m3, ab_ri_m4, ab_ri_m5, ab_ri_m11, ab_ri_m13, ab_ri_m14, ab_ri_10, ih]
  · rw [if_neg c1] at q
    have q := q h (fun _ _ => rfl) J
    simp (disch := omega) only [s92_0, s92_1, s92_4, s92_7, s92_8, true_and, and_true, true_implies, Option.toList_some, Option.toList_none, List.nil_append, List.cons_append, List.map_nil, List.map_cons, List.sum_nil, List.sum_cons, Nat.zero_le, ab_nl_n, ab_nl_i, ab_nl_r, ab_nl_0, ab_cat_i, ab_cat_r, ab_cat_l, Nat.reduceAdd, Nat.reduceLeDiff, Nat.add_zero, Nat.zero_add, reduceIte, List.getElem?_cons_succ, List.getElem?_cons_zero, List.length_cons, List.length_nil, List.set_cons_zero, List.set_cons_succ, true_or, or_true, Classical.not_not, not_true_eq_false, not_false_eq_true, ab_01r, ab_01z, ab_01n, false_implies, ab_tt, Nat.reduceLT, Nat.reduceEqDiff, Int.reduceNeg, Int.reduceLT, Int.reduceLE, Int.add_zero, Int.zero_add, List.append_nil, Int.reduceEq, ab_sum1, ab_ri_0, ab_ri_1, ab_ri_2, ab_ri_3, ab_ri_4, ab_ri_5, ab_ri_6, ab_ri_7, ab_ri_8, ab_ri_12, ab_ri_30, ab_ri_60, ab_ri_100, ab_ri_101, ab_ri_127, ab_ri_m1, ab_ri_m2, ab_ri_m3, ab_ri_m4, ab_ri_m5, ab_ri_m11, ab_ri_m13, ab_ri_m14, ab_ri_10, sp_isVector, ab_01n, ab_01z, c1, q]
end JF
