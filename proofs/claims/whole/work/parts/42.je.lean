/-! ===== the calls: vectors ===== -/
def ab_cv (X : ab_X) (v : Int) : Int → Int := fun i => X 2 (7 * v + i)
def ab_sv (X : ab_X) (v lv : Int) (f : Int → Int) : ab_X := ab_up (ab_up X 1 (ab_ui (X 1) v lv)) 2 (fun j => if 7 * v ≤ j ∧ j < 7 * v + 7 then f (j - 7 * v) else X 2 j)
theorem ab_sv_o {X : ab_X} {v lv : Int} {f : Int → Int} {i : Nat} (h1 : i ≠ 1) (h2 : i ≠ 2) : ab_sv X v lv f i = X i := (ab_up_n h2).trans (ab_up_n h1)
def ab_pk {α : Type} (v : Int) (g : α) (fs : Int → α) : Int → α := fun w => if w = v then g else fs w
theorem ab_pk_e {α : Type} {v : Int} {g : α} {fs : Int → α} : ab_pk v g fs v = g := if_pos rfl
theorem ab_pk_n {α : Type} {v w : Int} {g : α} {fs : Int → α} (h : w ≠ v) : ab_pk v g fs w = fs w := if_neg h
theorem ab_now_sv {h h' : ab_H} {X : ab_X} {v lv : Int} {f g : Int → Int} (k : ab_now h X) (hv : 0 ≤ v ∧ v < 4) (he : ∀ a, 7 ≤ a → a ≤ 19 → a ≠ ab_va 7 v → a ≠ ab_vb 7 v → h' a = h a) (h1 : h' (ab_va 7 v) = some (ab_vec (ab_vb 7 v) lv)) (h2 : h' (ab_vb 7 v) = some (ab_ia 7 g)) (hg : ∀ i, 0 ≤ i → i < 7 → g i = f i) : ab_now h' (ab_sv X v lv f) := by
  obtain ⟨l, hvv, fs, ws, bs, ⟨k1, k2, k3, k4, k5, k6⟩, k7, k8, k9, k10, k11⟩ := k
  have va := ab_va_r (s := 7) (v := v) hv.2
  refine ⟨l, ab_ui hvv v lv, ab_pk v g fs, ws, bs, ⟨(he 7 (by decide) (by decide) (by omega) (by omega)).trans k1, (he 8 (by decide) (by decide) (by omega) (by omega)).trans k2, (he 9 (by decide) (by decide) (by omega) (by omega)).trans k3, fun w w0 w4 => ?_, (he 18 (by decide) (by decide) (by omega) (by omega)).trans k5, (he 19 (by decide) (by decide) (by omega) (by omega)).trans k6⟩, k7, fun w w0 w4 => ?_, fun w i w0 w4 i0 i7 => ?_, k10, k11⟩
  · by_cases e : w = v
    · subst e
      rw [ab_ui_at, ab_pk_e]
      exact ⟨h1, h2⟩
    · have vw := ab_va_r (s := 7) w4
      have := ab_va_ne (s := 7) w0 hv.1 e
      rw [ab_ui_ne e, ab_pk_n e]
      exact ⟨(he _ (by omega) (by omega) (by omega) (by omega)).trans (k4 w w0 w4).1, (he _ (by omega) (by omega) (by omega) (by omega)).trans (k4 w w0 w4).2⟩
  · show _ = ab_ui (X 1) v lv w
    by_cases e : w = v
    · rw [e, ab_ui_at, ab_ui_at]
    · rw [ab_ui_ne e, ab_ui_ne e]; exact k8 w w0 w4
  · show _ = if 7 * v ≤ 7 * w + i ∧ 7 * w + i < 7 * v + 7 then f (7 * w + i - 7 * v) else X 2 (7 * w + i)
    by_cases e : w = v
    · subst e
      rw [if_pos (by omega), show 7 * w + i - 7 * w = i by omega, ab_pk_e]
      exact hg i i0 i7
    · rw [if_neg (by omega)]
      rw [ab_pk_n e]
      exact k9 w i w0 w4 i0 i7
/-- now, tables and thoughts have changed -/
theorem ab_JC_gen {h h' : ab_H} {X X' : ab_X} {Y : Int → Int64} (he : ∀ a, (a < 7 ∨ (19 < a ∧ a < 33) ∨ (51 < a ∧ a < 58) ∨ 61 < a) → h' a = h a) (J : ab_JC X Y h) (hX : ∀ i, 5 ≤ i → X' i = X i ∨ (i = 5 ∧ ∀ j, j ≠ 0 → X' 5 j = X 5 j)) (k1 : ab_now h' X') {L : Int → Int} {u : Int} (k2 : ab_lad h' L u) (k3 : ab_swp h') (k4 : ab_scr h') : ab_JC X' Y h' := by
  obtain ⟨j1, j2, j3, j4, j5, j6, j7, j8, j9⟩ := J
  have e5 : ∀ j, j ≠ 0 → X' 5 j = X 5 j := fun j hj => (hX 5 (by decide)).elim (fun z => by rw [z]) (fun z => z.2 j hj)
  have eX : ∀ i, 5 < i → X' i = X i := fun i hi => (hX i (by omega)).elim id (fun z => absurd z.1 (by omega))
  have e1 := e5 1 (by decide)
  have e2 := e5 2 (by decide)
  have e3 := e5 3 (by decide)
  refine ⟨?_, k1, ?_, ab_lad_any k2, k3, ?_, ?_, k4, ?_⟩
  · rw [e3]; exact (he 6 (by decide)).trans j1
  · have := ab_kep_fr (fun a _ _ => he a (by omega)) j3
    unfold ab_kep at this ⊢
    rw [e3, eX 10 (by decide), eX 11 (by decide), eX 12 (by decide), eX 13 (by decide), eX 14 (by decide), eX 15 (by decide)]
    exact this
  · have := ab_tap_fr (fun a _ _ => he a (by omega)) j6
    unfold ab_tap at this ⊢
    rw [e1, eX 6 (by decide)]
    exact this
  · have := ab_pag_fr (fun a _ _ => he a (by omega)) j7
    unfold ab_pag at this ⊢
    rw [e2, eX 7 (by decide)]
    exact this
  · have := ab_lis_fr (fun a _ _ => he a (by omega)) j9
    unfold ab_lis at this ⊢
    rw [eX 8 (by decide)]
    exact this
theorem ab_mv_cg {T f g : Int → Int} {hg to : Int} (h0 : 0 ≤ hg ∧ hg ≤ 5) (h : ∀ i, 0 ≤ i → i < 7 → f i = g i) : ab_mv T f hg to = ab_mv T g hg to := by
  have hw := ab_wd_eq h0.1 (by omega)
  funext j
  unfold ab_mv
  rw [ab_mvs_cg (U := T) (g := g)]
  intro i i0 i1
  exact ⟨h i i0 (by omega), rfl⟩
theorem ab_nz_cg {f g : Int → Int} : ∀ m : Nat, (∀ i : Int, 0 ≤ i → i < m → f i = g i) → ab_nz f m = ab_nz g m
  | 0, _ => rfl
  | m + 1, h => by
    have ih := ab_nz_cg m (fun i h0 h1 => h i h0 (by omega))
    unfold ab_nz
    rw [ih, h m (by omega) (by omega)]
theorem ab_pri_cg2 {F f1 f2 g1 g2 : Int → Int} {s i : Int} (h1 : f1 i = g1 i) : ∀ k : Nat, (∀ j : Int, 0 ≤ j → j < k → f2 j = g2 j) → ab_pri F f1 f2 s i k = ab_pri F g1 g2 s i k
  | 0, _ => rfl
  | k + 1, h => by
    have ih := ab_pri_cg2 (F := F) (s := s) h1 k (fun i h0 h1 => h i h0 (by omega))
    unfold ab_pri
    rw [ih, h1, h k (by omega) (by omega)]
theorem ab_pro_cg2 {F f1 f2 g1 g2 : Int → Int} {s : Int} {w : Nat} (h2 : ∀ j : Int, 0 ≤ j → j < w → f2 j = g2 j) : ∀ k : Nat, (∀ j : Int, 0 ≤ j → j < k → f1 j = g1 j) → ab_pro F f1 f2 s w k = ab_pro F g1 g2 s w k
  | 0, _ => rfl
  | k + 1, h => by
    have ih := ab_pro_cg2 (F := F) (s := s) h2 k (fun i h0 h1 => h i h0 (by omega))
    unfold ab_pro
    rw [ih, ab_pri_cg2 (h k (by omega) (by omega)) w h2]
def ab_s_feed (X : ab_X) (x : Int) : Int := if 1 ≤ x ∧ x ≤ 127 then (if X 5 1 < 60 then X 5 1 + 1 else -4) else -2
def ab_n_feed (X : ab_X) (x : Int) : ab_X := if (1 ≤ x ∧ x ≤ 127) ∧ X 5 1 < 60 then ab_up (ab_up X 6 (ab_ui (X 6) (X 5 1) x)) 5 (ab_ui (X 5) 1 (X 5 1 + 1)) else X
abbrev ab_isV (v : Int) : Prop := 0 ≤ v ∧ v ≤ 3
def ab_s_become (v lv i : Int) : Int := if ab_isV v ∧ ab_isB lv i then 1 else -1
def ab_un1 (i : Int) : Int → Int := fun j => if j = i then 1 else 0
def ab_n_become (X : ab_X) (v lv i : Int) : ab_X := if ab_isV v ∧ ab_isB lv i then ab_sv X v lv (ab_un1 i) else X
def ab_s_level (X : ab_X) (v : Int) : Int := if ab_isV v then X 1 v else -1
def ab_s_coord (X : ab_X) (v i : Int) : Int := if ab_isV v ∧ ab_isB (X 1 v) i then X 2 (7 * v + i) else -1
def ab_s_put (X : ab_X) (v i x : Int) : Int := if ab_isV v ∧ ab_isB (X 1 v) i then (if 0 ≤ x ∧ x ≤ 100 then X 2 (7 * v + i) else -2) else -1
def ab_n_put (X : ab_X) (v i x : Int) : ab_X := if (ab_isV v ∧ ab_isB (X 1 v) i) ∧ 0 ≤ x ∧ x ≤ 100 then ab_up X 2 (ab_ui (X 2) (7 * v + i) x) else X
def ab_s_raise (X : ab_X) (v m : Int) : Int := if ab_isV v ∧ -5 ≤ m ∧ m ≤ 5 then (if 0 ≤ X 1 v - m ∧ X 1 v - m ≤ 5 then X 1 v - m else -3) else -1
def ab_n_raise (X : ab_X) (v m : Int) : ab_X := if (ab_isV v ∧ -5 ≤ m ∧ m ≤ 5) ∧ 0 ≤ X 1 v - m ∧ X 1 v - m ≤ 5 then ab_sv X v (X 1 v - m) (ab_mv (ab_AT (X 0)) (ab_cv X v) (X 1 v) (X 1 v - m)) else X
def ab_s_add (X : ab_X) (a b k : Int) : Int := if ab_isV a ∧ ab_isV b then (if 0 ≤ k ∧ k ≤ 100 then (if X 1 a = X 1 b then X 1 a else -3) else -2) else -1
def ab_n_add (X : ab_X) (a b k : Int) : ab_X := if (ab_isV a ∧ ab_isV b) ∧ (0 ≤ k ∧ k ≤ 100) ∧ X 1 a = X 1 b then ab_sv X a (X 1 a) (fun i => (ab_cv X a i + k * ab_cv X b i) % 101) else X
def ab_s_prod (X : ab_X) (a b : Int) : Int := if ab_isV a ∧ ab_isV b then (if X 1 a = X 1 b then ab_pro (ab_FT (X 0)) (ab_cv X a) (ab_cv X b) (ab_START (X 1 a)) (ab_wd (X 1 a)).toNat (ab_wd (X 1 a)).toNat % 101 else 0) else -1
def ab_lo (T f : Int → Int) (hg m : Int) : Nat → Int
  | 0 => 1
  | k + 1 => if ab_nz (ab_mv T f hg (hg - m)) 7 = 0 then ab_lo T f hg (m + 1) k else 0
def ab_s_low (X : ab_X) (v : Int) : Int := if ab_isV v then ab_lo (ab_AT (X 0)) (ab_cv X v) (X 1 v) 1 (X 1 v).toNat else -1
section JE
variable {h : ab_H} {n : Nat} {Q : ab_Q} {X : ab_X} {Y : Int → Int64}
theorem xc_feed {x : Int} (J : ab_JC X Y h) (I : ab_XI X) (hx : ab_inR x) (q : ∀ h', ab_eqo 6 67 h h' → ab_JC (ab_n_feed X x) Y h' → Q (some (vi (ab_s_feed X x))) h' n) : ab_G 80 0 [some (vr 6), some (vi x)] [] h n (0, 0) Q := by
  have J' := J
  obtain ⟨j1, j2, j3, j4, j5, j6, j7, j8, j9⟩ := J'
  obtain ⟨l, hvv, f, ws, bs, ⟨k1, k2, k3, k4, k5, k6⟩, k7, k8, k9, k10, k11⟩ := ab_now_o j2
  have hl := ab_lok_cg k7 I.1.1
  have hxr : ab_inR x = True := eq_true hx
  unfold ab_s_feed ab_n_feed at q
  by_cases c : 1 ≤ x ∧ x ≤ 127
  · rw [if_pos c] at q
    have c1 : ¬ x < 1 := by omega
    obtain ⟨p, nu, mc, g, gm, t1, t2, t3, t4⟩ := j6
    have I1 := I.2.1
    simp only [s80_0, s80_1, s80_2, s80_5, s80_6, s80_8, s80_11, s80_13, s80_14, s80_15, s80_18, s80_19, true_and, and_true, true_implies, Option.toList_some, Option.toList_none, List.nil_append, List.cons_append, List.map_nil, List.map_cons, List.sum_nil, List.sum_cons, Nat.zero_le, ab_nl_n, ab_nl_i, ab_nl_r, ab_nl_0, ab_cat_i, ab_cat_r, ab_cat_l, Nat.reduceAdd, Nat.reduceLeDiff, Nat.add_zero, Nat.zero_add, reduceIte, List.getElem?_cons_succ, List.getElem?_cons_zero, List.length_cons, List.length_nil, List.set_cons_zero, List.set_cons_succ, true_or, or_true, Classical.not_not, not_true_eq_false, not_false_eq_true, ab_01r, ab_01z, ab_01n, false_implies, ab_tt, Nat.reduceLT, Nat.reduceEqDiff, Int.reduceNeg, Int.reduceLT, Int.reduceLE, Int.add_zero, Int.zero_add, List.append_nil, Int.reduceEq, ab_sum1, ab_ri_0, ab_ri_1, ab_ri_2, ab_ri_3, ab_ri_4, ab_ri_5, ab_ri_6, ab_ri_7, ab_ri_8, ab_ri_12, ab_ri_30, ab_ri_60, ab_ri_100, ab_ri_101, ab_ri_127, ab_ri_m1, ab_ri_m2, ab_ri_m3, ab_ri_m4, ab_ri_m5, ab_ri_m11, ab_ri_m13, ab_ri_m14, ab_ri_10, ab_fd, ab_vc, ab_sv_11_160, hxr, c1, c, j1, t1, Nat.reduceLeDiff]
    by_cases c2 : X 5 1 < 60
    · rw [if_pos c2, if_pos ⟨c, c2⟩] at q
      refine sp_append1 (by decide) (by decide) (by decide) t1 t3 I1.1 (by omega) (by omega) (by omega) ?_
      have q := q (ab_hs (ab_hs h 54 (ab_ba 60 (ab_ui g (X 5 1) x))) 52 (ab_txt 54 (X 5 1 + 1) p nu 53 mc)) (fun a ha => (ab_hs_ne (by omega)).trans (ab_hs_ne (by omega))) ?_
      · have e6 : ab_hs (ab_hs h 54 (ab_ba 60 (ab_ui g (X 5 1) x))) 52 (ab_txt 54 (X 5 1 + 1) p nu 53 mc) 6 = some (ab_mn (X 5 3)) := (ab_hs_ne (by decide)).trans ((ab_hs_ne (by decide)).trans j1)
        simp only [s80_22, s80_25, s80_26, s80_29, s80_32, s80_35, s80_37, true_and, and_true, true_implies, Option.toList_some, Option.toList_none, List.nil_append, List.cons_append, List.map_nil, List.map_cons, List.sum_nil, List.sum_cons, Nat.zero_le, ab_nl_n, ab_nl_i, ab_nl_r, ab_nl_0, ab_cat_i, ab_cat_r, ab_cat_l, Nat.reduceAdd, Nat.reduceLeDiff, Nat.add_zero, Nat.zero_add, reduceIte, List.getElem?_cons_succ, List.getElem?_cons_zero, List.length_cons, List.length_nil, List.set_cons_zero, List.set_cons_succ, true_or, or_true, Classical.not_not, not_true_eq_false, not_false_eq_true, ab_01r, ab_01z, ab_01n, false_implies, ab_tt, Nat.reduceLT, Nat.reduceEqDiff, Int.reduceNeg, Int.reduceLT, Int.reduceLE, Int.add_zero, Int.zero_add, List.append_nil, Int.reduceEq, ab_sum1, ab_ri_0, ab_ri_1, ab_ri_2, ab_ri_3, ab_ri_4, ab_ri_5, ab_ri_6, ab_ri_7, ab_ri_8, ab_ri_12, ab_ri_30, ab_ri_60, ab_ri_100, ab_ri_101, ab_ri_127, ab_ri_m1, ab_ri_m2, ab_ri_m3, ab_ri_m4, ab_ri_m5, ab_ri_m11, ab_ri_m13, ab_ri_m14, ab_ri_10, ab_fd, e6, ab_hs_self, Nat.reduceLeDiff, q] <;> omega
      · have fr : ∀ a, a ≠ 52 → a ≠ 54 → ab_hs (ab_hs h 54 (ab_ba 60 (ab_ui g (X 5 1) x))) 52 (ab_txt 54 (X 5 1 + 1) p nu 53 mc) a = h a := fun a h1 h2 => (ab_hs_ne h1).trans (ab_hs_ne h2)
        refine ⟨(fr 6 (by decide) (by decide)).trans j1, ab_now_fr (fun a _ _ => fr a (by omega) (by omega)) j2, ab_kep_fr (fun a _ _ => fr a (by omega) (by omega)) j3, ab_lad_fr (fun a _ _ => fr a (by omega) (by omega)) j4, ab_swp_fr (fun a _ _ => fr a (by omega) (by omega)) j5, ⟨p, nu, mc, _, gm, ab_hs_self, (fr 53 (by decide) (by decide)).trans t2, (ab_hs_ne (by decide)).trans ab_hs_self, fun i i0 i1 => ?_⟩, ab_pag_fr (fun a _ _ => fr a (by omega) (by omega)) j7, ab_scr_fr (fun a _ _ => fr a (by omega) (by omega)) j8, ab_lis_fr (fun a _ _ => fr a (by omega) (by omega)) j9⟩
        show _ = ab_ui (X 6) (X 5 1) x i
        have i1 : i < X 5 1 + 1 := i1
        by_cases e : i = X 5 1
        · rw [e, ab_ui_at, ab_ui_at]
        · rw [ab_ui_ne e, ab_ui_ne e]; exact t4 i i0 (by omega)
    · rw [if_neg c2, if_neg (fun z => c2 z.2)] at q
      have q := q h (fun _ _ => rfl) J
      refine sp_append0 (by decide) (by decide) t1 t3 (by omega) (by omega) ?_
      simp only [s80_22, s80_25, s80_26, s80_29, s80_32, s80_35, s80_37, true_and, and_true, true_implies, Option.toList_some, Option.toList_none, List.nil_append, List.cons_append, List.map_nil, List.map_cons, List.sum_nil, List.sum_cons, Nat.zero_le, ab_nl_n, ab_nl_i, ab_nl_r, ab_nl_0, ab_cat_i, ab_cat_r, ab_cat_l, Nat.reduceAdd, Nat.reduceLeDiff, Nat.add_zero, Nat.zero_add, reduceIte, List.getElem?_cons_succ, List.getElem?_cons_zero, List.length_cons, List.length_nil, List.set_cons_zero, List.set_cons_succ, true_or, or_true, Classical.not_not, not_true_eq_false, not_false_eq_true, ab_01r, ab_01z, ab_01n, false_implies, ab_tt, Nat.reduceLT, Nat.reduceEqDiff, Int.reduceNeg, Int.reduceLT, Int.reduceLE, Int.add_zero, Int.zero_add, List.append_nil, Int.reduceEq, ab_sum1, ab_ri_0, ab_ri_1, ab_ri_2, ab_ri_3, ab_ri_4, ab_ri_5, ab_ri_6, ab_ri_7, ab_ri_8, ab_ri_12, ab_ri_30, ab_ri_60, ab_ri_100, ab_ri_101, ab_ri_127, ab_ri_m1, ab_ri_m2, ab_ri_m3, ab_ri_m4, ab_ri_m5, ab_ri_m11, ab_ri_m13, ab_ri_m14, ab_ri_10, q] <;> omega
  · rw [if_neg c, if_neg (fun z => c z.1)] at q
    have q := q h (fun _ _ => rfl) J
    by_cases c1 : x < 1
    · simp only [s80_0, s80_1, s80_2, s80_5, s80_6, s80_8, s80_11, s80_13, true_and, and_true, true_implies, Option.toList_some, Option.toList_none, List.nil_append, List.cons_append, List.map_nil, List.map_cons, List.sum_nil, List.sum_cons, Nat.zero_le, ab_nl_n, ab_nl_i, ab_nl_r, ab_nl_0, ab_cat_i, ab_cat_r, ab_cat_l, Nat.reduceAdd, Nat.reduceLeDiff, Nat.add_zero, Nat.zero_add, reduceIte, List.getElem?_cons_succ, List.getElem?_cons_zero, List.length_cons, List.length_nil, List.set_cons_zero, List.set_cons_succ, true_or, or_true, Classical.not_not, not_true_eq_false, not_false_eq_true, ab_01r, ab_01z, ab_01n, false_implies, ab_tt, Nat.reduceLT, Nat.reduceEqDiff, Int.reduceNeg, Int.reduceLT, Int.reduceLE, Int.add_zero, Int.zero_add, List.append_nil, Int.reduceEq, ab_sum1, ab_ri_0, ab_ri_1, ab_ri_2, ab_ri_3, ab_ri_4, ab_ri_5, ab_ri_6, ab_ri_7, ab_ri_8, ab_ri_12, ab_ri_30, ab_ri_60, ab_ri_100, ab_ri_101, ab_ri_127, ab_ri_m1, ab_ri_m2, ab_ri_m3, ab_ri_m4, ab_ri_m5, ab_ri_m11, ab_ri_m13, ab_ri_m14, ab_ri_10, hxr, c1, q]
    · have c2 : ¬ x ≤ 127 := by omega
      simp only [s80_0, s80_1, s80_2, s80_5, s80_6, s80_8, s80_11, s80_13, true_and, and_true, true_implies, Option.toList_some, Option.toList_none, List.nil_append, List.cons_append, List.map_nil, List.map_cons, List.sum_nil, List.sum_cons, Nat.zero_le, ab_nl_n, ab_nl_i, ab_nl_r, ab_nl_0, ab_cat_i, ab_cat_r, ab_cat_l, Nat.reduceAdd, Nat.reduceLeDiff, Nat.add_zero, Nat.zero_add, reduceIte, List.getElem?_cons_succ, List.getElem?_cons_zero, List.length_cons, List.length_nil, List.set_cons_zero, List.set_cons_succ, true_or, or_true, Classical.not_not, not_true_eq_false, not_false_eq_true, ab_01r, ab_01z, ab_01n, false_implies, ab_tt, Nat.reduceLT, Nat.reduceEqDiff, Int.reduceNeg, Int.reduceLT, Int.reduceLE, Int.add_zero, Int.zero_add, List.append_nil, Int.reduceEq, ab_sum1, ab_ri_0, ab_ri_1, ab_ri_2, ab_ri_3, ab_ri_4, ab_ri_5, ab_ri_6, ab_ri_7, ab_ri_8, ab_ri_12, ab_ri_30, ab_ri_60, ab_ri_100, ab_ri_101, ab_ri_127, ab_ri_m1, ab_ri_m2, ab_ri_m3, ab_ri_m4, ab_ri_m5, ab_ri_m11, ab_ri_m13, ab_ri_m14, ab_ri_10, hxr, c1, c2, q]
theorem xc_become {v lv i : Int} (hs : ab_stat h) (J : ab_JC X Y h) (I : ab_XI X) (hv : ab_inR v) (hlv : ab_inR lv) (hi : ab_inR i) (q : ∀ h', ab_eqo 6 67 h h' → ab_JC (ab_n_become X v lv i) Y h' → Q (some (vi (ab_s_become v lv i))) h' n) : ab_G 82 0 [some (vr 6), some (vi v), some (vi lv), some (vi i)] [] h n (0, 0) Q := by
  have J' := J
  obtain ⟨j1, j2, j3, j4, j5, j6, j7, j8, j9⟩ := J'
  obtain ⟨l, hvv, f, ws, bs, ⟨k1, k2, k3, k4, k5, k6⟩, k7, k8, k9, k10, k11⟩ := ab_now_o j2
  have hl := ab_lok_cg k7 I.1.1
  unfold ab_s_become ab_n_become at q
  by_cases c1 : ab_isV v
  · by_cases c2 : ab_isB lv i
    · rw [if_pos ⟨c1, c2⟩, if_pos ⟨c1, c2⟩] at q
      have i7 : 0 ≤ i ∧ i < 7 := by have := ab_wd_eq c2.1.1 (by omega); omega
      have va := ab_va_r (s := 7) (v := v) (by omega)
      have a6 : 6 ≤ ab_va 7 v := by omega
      obtain ⟨v1, v2⟩ := k4 v c1.1 (by omega)
      have v4 : v < ((4 : Nat) : Int) := by omega
      have v0 : 0 ≤ v := c1.1
      have v04 : 0 ≤ v ∧ v < 4 := ⟨v0, by omega⟩
      have hh := I.1.2.1 v v0 (by omega)
      have hx := k8 v v0 (by omega)
      have hf : ∀ i, 0 ≤ i → i < 7 → 0 ≤ f v i ∧ f v i ≤ 100 := fun i i0 i7 => by rw [k9 v i v0 (by omega) i0 i7]; exact I.1.2.2.1 _ (by omega) (by omega)
      simp (disch := omega) only [s82_0, s82_1, s82_4, s82_7, s82_8, s82_9, s82_12, s82_15, s82_16, s82_17, s82_18, s82_21, s82_24, s82_25, s82_26, s82_27, s82_28, true_and, and_true, true_implies, Option.toList_some, Option.toList_none, List.nil_append, List.cons_append, List.map_nil, List.map_cons, List.sum_nil, List.sum_cons, Nat.zero_le, ab_nl_n, ab_nl_i, ab_nl_r, ab_nl_0, ab_cat_i, ab_cat_r, ab_cat_l, Nat.reduceAdd, Nat.reduceLeDiff, Nat.add_zero, Nat.zero_add, reduceIte, List.getElem?_cons_succ, List.getElem?_cons_zero, List.length_cons, List.length_nil, List.set_cons_zero, List.set_cons_succ, true_or, or_true, Classical.not_not, not_true_eq_false, not_false_eq_true, ab_01r, ab_01z, ab_01n, false_implies, ab_tt, Nat.reduceLT, Nat.reduceEqDiff, Int.reduceNeg, Int.reduceLT, Int.reduceLE, Int.add_zero, Int.zero_add, List.append_nil, Int.reduceEq, ab_sum1, ab_ri_0, ab_ri_1, ab_ri_2, ab_ri_3, ab_ri_4, ab_ri_5, ab_ri_6, ab_ri_7, ab_ri_8, ab_ri_12, ab_ri_30, ab_ri_60, ab_ri_100, ab_ri_101, ab_ri_127, ab_ri_m1, ab_ri_m2, ab_ri_m3, ab_ri_m4, ab_ri_m5, ab_ri_m11, ab_ri_m13, ab_ri_m14, ab_ri_10, sp_isVector, sp_isBasis hlv hi hs, ab_01n, ab_01z, c1, eq_true c2, ab_fd, ab_ar, ab_vc, ab_sv_11_187, j1, k1, k3, v0, v4, v04, a6, v1, Nat.reduceLeDiff]
      refine sp_becomeBasis a6 (by omega) (by omega) v1 v2 i7 ?_
      have q := q (ab_hs (ab_hs h (ab_va 7 v) (ab_vec (ab_vb 7 v) lv)) (ab_vb 7 v) (ab_ia 7 (ab_ui (ab_fi (fun _ => 0) (f v) 0 7) i 1))) (fun a ha => (ab_hs_ne (by omega)).trans (ab_hs_ne (by omega))) (ab_JC_now (fun a ha => (ab_hs_ne (by omega)).trans (ab_hs_ne (by omega))) J (fun k hk => Or.inl (ab_sv_o (by omega) (by omega))) (ab_now_sv j2 v04 (fun a _ _ h1 h2 => (ab_hs_ne h2).trans (ab_hs_ne h1)) ((ab_hs_ne (by omega)).trans ab_hs_self) ab_hs_self (fun j j0 j7 => by
        unfold ab_un1
        by_cases e : j = i
        · rw [e, ab_ui_at, if_pos rfl]
        · rw [ab_ui_ne e, if_neg e, ab_fi_lo ⟨j0, j7⟩])))
      simp only [s82_31, s82_32, true_and, and_true, true_implies, Option.toList_some, Option.toList_none, List.nil_append, List.cons_append, List.map_nil, List.map_cons, List.sum_nil, List.sum_cons, Nat.zero_le, ab_nl_n, ab_nl_i, ab_nl_r, ab_nl_0, ab_cat_i, ab_cat_r, ab_cat_l, Nat.reduceAdd, Nat.reduceLeDiff, Nat.add_zero, Nat.zero_add, reduceIte, List.getElem?_cons_succ, List.getElem?_cons_zero, List.length_cons, List.length_nil, List.set_cons_zero, List.set_cons_succ, true_or, or_true, Classical.not_not, not_true_eq_false, not_false_eq_true, ab_01r, ab_01z, ab_01n, false_implies, ab_tt, Nat.reduceLT, Nat.reduceEqDiff, Int.reduceNeg, Int.reduceLT, Int.reduceLE, Int.add_zero, Int.zero_add, List.append_nil, Int.reduceEq, ab_sum1, ab_ri_0, ab_ri_1, ab_ri_2, ab_ri_3, ab_ri_4, ab_ri_5, ab_ri_6, ab_ri_7, ab_ri_8, ab_ri_12, ab_ri_30, ab_ri_60, ab_ri_100, ab_ri_101, ab_ri_127, ab_ri_m1, ab_ri_m2, ab_ri_m3, ab_ri_m4, ab_ri_m5, ab_ri_m11, ab_ri_m13, ab_ri_m14, ab_ri_10, q]
    · rw [if_neg (fun z => c2 z.2), if_neg (fun z => c2 z.2)] at q
      have q := q h (fun _ _ => rfl) J
      simp (disch := omega) only [s82_0, s82_1, s82_4, s82_7, s82_8, s82_9, s82_12, s82_15, s82_16, true_and, and_true, true_implies, Option.toList_some, Option.toList_none, List.nil_append, List.cons_append, List.map_nil, List.map_cons, List.sum_nil, List.sum_cons, Nat.zero_le, ab_nl_n, ab_nl_i, ab_nl_r, ab_nl_0, ab_cat_i, ab_cat_r, ab_cat_l, Nat.reduceAdd, Nat.reduceLeDiff, Nat.add_zero, Nat.zero_add, reduceIte, List.getElem?_cons_succ, List.getElem?_cons_zero, List.length_cons, List.length_nil, List.set_cons_zero, List.set_cons_succ, true_or, or_true, Classical.not_not, not_true_eq_false, not_false_eq_true, ab_01r, ab_01z, ab_01n, false_implies, ab_tt, Nat.reduceLT, Nat.reduceEqDiff, Int.reduceNeg, Int.reduceLT, Int.reduceLE, Int.add_zero, Int.zero_add, List.append_nil, Int.reduceEq, ab_sum1, ab_ri_0, ab_ri_1, ab_ri_2, ab_ri_3, ab_ri_4, ab_ri_5, ab_ri_6, ab_ri_7, ab_ri_8, ab_ri_12, ab_ri_30, ab_ri_60, ab_ri_100, ab_ri_101, ab_ri_127, ab_ri_m1, ab_ri_m2, ab_ri_m3, ab_ri_m4, ab_ri_m5, ab_ri_m11, ab_ri_m13, ab_ri_m14, ab_ri_10, sp_isVector, sp_isBasis hlv hi hs, ab_01n, ab_01z, c1, c2, q]
  · rw [if_neg (fun z => c1 z.1), if_neg (fun z => c1 z.1)] at q
    have q := q h (fun _ _ => rfl) J
    simp (disch := omega) only [s82_0, s82_1, s82_4, s82_7, s82_8, s82_9, s82_12, s82_15, s82_16, true_and, and_true, true_implies, Option.toList_some, Option.toList_none, List.nil_append, List.cons_append, List.map_nil, List.map_cons, List.sum_nil, List.sum_cons, Nat.zero_le, ab_nl_n, ab_nl_i, ab_nl_r, ab_nl_0, ab_cat_i, ab_cat_r, ab_cat_l, Nat.reduceAdd, Nat.reduceLeDiff, Nat.add_zero, Nat.zero_add, reduceIte, List.getElem?_cons_succ, List.getElem?_cons_zero, List.length_cons, List.length_nil, List.set_cons_zero, List.set_cons_succ, true_or, or_true, Classical.not_not, not_true_eq_false, not_false_eq_true, ab_01r, ab_01z, ab_01n, false_implies, ab_tt, Nat.reduceLT, Nat.reduceEqDiff, Int.reduceNeg, Int.reduceLT, Int.reduceLE, Int.add_zero, Int.zero_add, List.append_nil, Int.reduceEq, ab_sum1, ab_ri_0, ab_ri_1, ab_ri_2, ab_ri_3, ab_ri_4, ab_ri_5, ab_ri_6, ab_ri_7, ab_ri_8, ab_ri_12, ab_ri_30, ab_ri_60, ab_ri_100, ab_ri_101, ab_ri_127, ab_ri_m1, ab_ri_m2, ab_ri_m3, ab_ri_m4, ab_ri_m5, ab_ri_m11, ab_ri_m13, ab_ri_m14, ab_ri_10, sp_isVector, ab_01n, ab_01z, c1, q]
theorem xc_level {v : Int} (J : ab_JC X Y h) (I : ab_XI X) (hv : ab_inR v) (q : Q (some (vi (ab_s_level X v))) h n) : ab_G 83 0 [some (vr 6), some (vi v)] [] h n (0, 0) Q := by
  have J' := J
  obtain ⟨j1, j2, j3, j4, j5, j6, j7, j8, j9⟩ := J'
  obtain ⟨l, hvv, f, ws, bs, ⟨k1, k2, k3, k4, k5, k6⟩, k7, k8, k9, k10, k11⟩ := ab_now_o j2
  have hl := ab_lok_cg k7 I.1.1
  unfold ab_s_level at q
  by_cases c1 : ab_isV v
  · have va := ab_va_r (s := 7) (v := v) (by omega)
    have a6 : 6 ≤ ab_va 7 v := by omega
    obtain ⟨v1, v2⟩ := k4 v c1.1 (by omega)
    have v4 : v < ((4 : Nat) : Int) := by omega
    have v0 : 0 ≤ v := c1.1
    have v04 : 0 ≤ v ∧ v < 4 := ⟨v0, by omega⟩
    have hh := I.1.2.1 v v0 (by omega)
    have hx := k8 v v0 (by omega)
    have hf : ∀ i, 0 ≤ i → i < 7 → 0 ≤ f v i ∧ f v i ≤ 100 := fun i i0 i7 => by rw [k9 v i v0 (by omega) i0 i7]; exact I.1.2.2.1 _ (by omega) (by omega)
    rw [if_pos c1, ← hx] at q
    simp (disch := omega) only [s83_0, s83_1, s83_4, s83_7, s83_8, s83_11, s83_14, s83_15, s83_16, s83_19, s83_22, s83_23, true_and, and_true, true_implies, Option.toList_some, Option.toList_none, List.nil_append, List.cons_append, List.map_nil, List.map_cons, List.sum_nil, List.sum_cons, Nat.zero_le, ab_nl_n, ab_nl_i, ab_nl_r, ab_nl_0, ab_cat_i, ab_cat_r, ab_cat_l, Nat.reduceAdd, Nat.reduceLeDiff, Nat.add_zero, Nat.zero_add, reduceIte, List.getElem?_cons_succ, List.getElem?_cons_zero, List.length_cons, List.length_nil, List.set_cons_zero, List.set_cons_succ, true_or, or_true, Classical.not_not, not_true_eq_false, not_false_eq_true, ab_01r, ab_01z, ab_01n, false_implies, ab_tt, Nat.reduceLT, Nat.reduceEqDiff, Int.reduceNeg, Int.reduceLT, Int.reduceLE, Int.add_zero, Int.zero_add, List.append_nil, Int.reduceEq, ab_sum1, ab_ri_0, ab_ri_1, ab_ri_2, ab_ri_3, ab_ri_4, ab_ri_5, ab_ri_6, ab_ri_7, ab_ri_8, ab_ri_12, ab_ri_30, ab_ri_60, ab_ri_100, ab_ri_101, ab_ri_127, ab_ri_m1, ab_ri_m2, ab_ri_m3, ab_ri_m4, ab_ri_m5, ab_ri_m11, ab_ri_m13, ab_ri_m14, ab_ri_10, sp_isVector, ab_01n, ab_01z, c1, ab_fd, ab_ar, j1, k1, k3, v0, v4, v04, a6, v1, Nat.reduceLeDiff, q]
  · rw [if_neg c1] at q
    simp (disch := omega) only [s83_0, s83_1, s83_4, s83_7, s83_8, s83_11, s83_14, s83_15, s83_16, s83_19, s83_22, s83_23, true_and, and_true, true_implies, Option.toList_some, Option.toList_none, List.nil_append, List.cons_append, List.map_nil, List.map_cons, List.sum_nil, List.sum_cons, Nat.zero_le, ab_nl_n, ab_nl_i, ab_nl_r, ab_nl_0, ab_cat_i, ab_cat_r, ab_cat_l, Nat.reduceAdd, Nat.reduceLeDiff, Nat.add_zero, Nat.zero_add, reduceIte, List.getElem?_cons_succ, List.getElem?_cons_zero, List.length_cons, List.length_nil, List.set_cons_zero, List.set_cons_succ, true_or, or_true, Classical.not_not, not_true_eq_false, not_false_eq_true, ab_01r, ab_01z, ab_01n, false_implies, ab_tt, Nat.reduceLT, Nat.reduceEqDiff, Int.reduceNeg, Int.reduceLT, Int.reduceLE, Int.add_zero, Int.zero_add, List.append_nil, Int.reduceEq, ab_sum1, ab_ri_0, ab_ri_1, ab_ri_2, ab_ri_3, ab_ri_4, ab_ri_5, ab_ri_6, ab_ri_7, ab_ri_8, ab_ri_12, ab_ri_30, ab_ri_60, ab_ri_100, ab_ri_101, ab_ri_127, ab_ri_m1, ab_ri_m2, ab_ri_m3, ab_ri_m4, ab_ri_m5, ab_ri_m11, ab_ri_m13, ab_ri_m14, ab_ri_10, sp_isVector, ab_01n, ab_01z, c1, q]
theorem sp_hasNumber {v i : Int} (hs : ab_stat h) (J : ab_JC X Y h) (I : ab_XI X) (hv : ab_inR v) (hi : ab_inR i) (q : Q (some (vi (if ab_isV v ∧ ab_isB (X 1 v) i then 1 else 0))) h n) : ab_G 107 0 [some (vr 6), some (vi v), some (vi i)] [] h n (0, 0) Q := by
  have J' := J
  obtain ⟨j1, j2, j3, j4, j5, j6, j7, j8, j9⟩ := J'
  obtain ⟨l, hvv, f, ws, bs, ⟨k1, k2, k3, k4, k5, k6⟩, k7, k8, k9, k10, k11⟩ := ab_now_o j2
  have hl := ab_lok_cg k7 I.1.1
  by_cases c1 : ab_isV v
  · have va := ab_va_r (s := 7) (v := v) (by omega)
    have a6 : 6 ≤ ab_va 7 v := by omega
    obtain ⟨v1, v2⟩ := k4 v c1.1 (by omega)
    have v4 : v < ((4 : Nat) : Int) := by omega
    have v0 : 0 ≤ v := c1.1
    have v04 : 0 ≤ v ∧ v < 4 := ⟨v0, by omega⟩
    have hh := I.1.2.1 v v0 (by omega)
    have hx := k8 v v0 (by omega)
    have hf : ∀ i, 0 ≤ i → i < 7 → 0 ≤ f v i ∧ f v i ≤ 100 := fun i i0 i7 => by rw [k9 v i v0 (by omega) i0 i7]; exact I.1.2.2.1 _ (by omega) (by omega)
    have hlv : ab_inR (hvv v) := by omega
    rw [← hx] at q
    by_cases c2 : ab_isB (hvv v) i
    · rw [if_pos ⟨c1, c2⟩] at q
      simp (disch := omega) only [s107_0, s107_1, s107_4, s107_7, s107_8, s107_11, s107_14, s107_15, s107_16, s107_19, s107_20, s107_23, s107_26, s107_27, s107_30, s107_31, true_and, and_true, true_implies, Option.toList_some, Option.toList_none, List.nil_append, List.cons_append, List.map_nil, List.map_cons, List.sum_nil, List.sum_cons, Nat.zero_le, ab_nl_n, ab_nl_i, ab_nl_r, ab_nl_0, ab_cat_i, ab_cat_r, ab_cat_l, Nat.reduceAdd, Nat.reduceLeDiff, Nat.add_zero, Nat.zero_add, reduceIte, List.getElem?_cons_succ, List.getElem?_cons_zero, List.length_cons, List.length_nil, List.set_cons_zero, List.set_cons_succ, true_or, or_true, Classical.not_not, not_true_eq_false, not_false_eq_true, ab_01r, ab_01z, ab_01n, false_implies, ab_tt, Nat.reduceLT, Nat.reduceEqDiff, Int.reduceNeg, Int.reduceLT, Int.reduceLE, Int.add_zero, Int.zero_add, List.append_nil, Int.reduceEq, ab_sum1, ab_ri_0, ab_ri_1, ab_ri_2, ab_ri_3, ab_ri_4, ab_ri_5, ab_ri_6, ab_ri_7, ab_ri_8, ab_ri_12, ab_ri_30, ab_ri_60, ab_ri_100, ab_ri_101, ab_ri_127, ab_ri_m1, ab_ri_m2, ab_ri_m3, ab_ri_m4, ab_ri_m5, ab_ri_m11, ab_ri_m13, ab_ri_m14, ab_ri_10, sp_isVector, sp_isBasis hlv hi hs, ab_01n, ab_01z, c1, eq_true c2, ab_fd, ab_ar, j1, k1, k3, v0, v4, v04, a6, v1, Nat.reduceLeDiff, q]
    · rw [if_neg (fun z => c2 z.2)] at q
      simp (disch := omega) only [s107_0, s107_1, s107_4, s107_7, s107_8, s107_11, s107_14, s107_15, s107_16, s107_19, s107_20, s107_23, s107_26, s107_27, s107_30, s107_31, true_and, and_true, true_implies, Option.toList_some, Option.toList_none, List.nil_append, List.cons_append, List.map_nil, List.map_cons, List.sum_nil, List.sum_cons, Nat.zero_le, ab_nl_n, ab_nl_i, ab_nl_r, ab_nl_0, ab_cat_i, ab_cat_r, ab_cat_l, Nat.reduceAdd, Nat.reduceLeDiff, Nat.add_zero, Nat.zero_add, reduceIte, List.getElem?_cons_succ, List.getElem?_cons_zero, List.length_cons, List.length_nil, List.set_cons_zero, List.set_cons_succ, true_or, or_true, Classical.not_not, not_true_eq_false, not_false_eq_true, ab_01r, ab_01z, ab_01n, false_implies, ab_tt, Nat.reduceLT, Nat.reduceEqDiff, Int.reduceNeg, Int.reduceLT, Int.reduceLE, Int.add_zero, Int.zero_add, List.append_nil, Int.reduceEq, ab_sum1, ab_ri_0, ab_ri_1, ab_ri_2, ab_ri_3, ab_ri_4, ab_ri_5, ab_ri_6, ab_ri_7, ab_ri_8, ab_ri_12, ab_ri_30, ab_ri_60, ab_ri_100, ab_ri_101, ab_ri_127, ab_ri_m1, ab_ri_m2, ab_ri_m3, ab_ri_m4, ab_ri_m5, ab_ri_m11, ab_ri_m13, ab_ri_m14, ab_ri_10, sp_isVector, sp_isBasis hlv hi hs, ab_01n, ab_01z, c1, c2, ab_fd, ab_ar, j1, k1, k3, v0, v4, v04, a6, v1, Nat.reduceLeDiff, q]
  · rw [if_neg (fun z => c1 z.1)] at q
    simp (disch := omega) only [s107_0, s107_1, s107_4, s107_7, s107_8, s107_11, s107_14, s107_15, s107_16, s107_19, s107_20, s107_23, s107_26, s107_27, s107_30, s107_31, true_and, and_true, true_implies, Option.toList_some, Option.toList_none, List.nil_append, List.cons_append, List.map_nil, List.map_cons, List.sum_nil, List.sum_cons, Nat.zero_le, ab_nl_n, ab_nl_i, ab_nl_r, ab_nl_0, ab_cat_i, ab_cat_r, ab_cat_l, Nat.reduceAdd, Nat.reduceLeDiff, Nat.add_zero, Nat.zero_add, reduceIte, List.getElem?_cons_succ, List.getElem?_cons_zero, List.length_cons, List.length_nil, List.set_cons_zero, List.set_cons_succ, true_or, or_true, Classical.not_not, not_true_eq_false, not_false_eq_true, ab_01r, ab_01z, ab_01n, false_implies, ab_tt, Nat.reduceLT, Nat.reduceEqDiff, Int.reduceNeg, Int.reduceLT, Int.reduceLE, Int.add_zero, Int.zero_add, List.append_nil, Int.reduceEq, ab_sum1, ab_ri_0, ab_ri_1, ab_ri_2, ab_ri_3, ab_ri_4, ab_ri_5, ab_ri_6, ab_ri_7, ab_ri_8, ab_ri_12, ab_ri_30, ab_ri_60, ab_ri_100, ab_ri_101, ab_ri_127, ab_ri_m1, ab_ri_m2, ab_ri_m3, ab_ri_m4, ab_ri_m5, ab_ri_m11, ab_ri_m13, ab_ri_m14, ab_ri_10, sp_isVector, ab_01n, ab_01z, c1, q]
theorem xc_coord {v i : Int} (hs : ab_stat h) (J : ab_JC X Y h) (I : ab_XI X) (hv : ab_inR v) (hi : ab_inR i) (q : Q (some (vi (ab_s_coord X v i))) h n) : ab_G 84 0 [some (vr 6), some (vi v), some (vi i)] [] h n (0, 0) Q := by
  have J' := J
  obtain ⟨j1, j2, j3, j4, j5, j6, j7, j8, j9⟩ := J'
  obtain ⟨l, hvv, f, ws, bs, ⟨k1, k2, k3, k4, k5, k6⟩, k7, k8, k9, k10, k11⟩ := ab_now_o j2
  have hl := ab_lok_cg k7 I.1.1
  unfold ab_s_coord at q
  simp only [s84_0, s84_1, s84_2, s84_3, true_and, and_true, true_implies, Option.toList_some, Option.toList_none, List.nil_append, List.cons_append, List.map_nil, List.map_cons, List.sum_nil, List.sum_cons, Nat.zero_le, ab_nl_n, ab_nl_i, ab_nl_r, ab_nl_0, ab_cat_i, ab_cat_r, ab_cat_l, Nat.reduceAdd, Nat.reduceLeDiff, Nat.add_zero, Nat.zero_add, reduceIte, List.getElem?_cons_succ, List.getElem?_cons_zero, List.length_cons, List.length_nil, List.set_cons_zero, List.set_cons_succ, true_or, or_true, Classical.not_not, not_true_eq_false, not_false_eq_true, ab_01r, ab_01z, ab_01n, false_implies, ab_tt, Nat.reduceLT, Nat.reduceEqDiff, Int.reduceNeg, Int.reduceLT, Int.reduceLE, Int.add_zero, Int.zero_add, List.append_nil, Int.reduceEq, ab_sum1, ab_ri_0, ab_ri_1, ab_ri_2, ab_ri_3, ab_ri_4, ab_ri_5, ab_ri_6, ab_ri_7, ab_ri_8, ab_ri_12, ab_ri_30, ab_ri_60, ab_ri_100, ab_ri_101, ab_ri_127, ab_ri_m1, ab_ri_m2, ab_ri_m3, ab_ri_m4, ab_ri_m5, ab_ri_m11, ab_ri_m13, ab_ri_m14, ab_ri_10, ab_vc, j1, ab_sv_11_194, Nat.reduceLeDiff]
  refine sp_hasNumber hs J I hv hi ?_
  by_cases c : ab_isV v ∧ ab_isB (X 1 v) i
  · obtain ⟨c1, c2⟩ := id c
    have va := ab_va_r (s := 7) (v := v) (by omega)
    have a6 : 6 ≤ ab_va 7 v := by omega
    obtain ⟨v1, v2⟩ := k4 v c1.1 (by omega)
    have v4 : v < ((4 : Nat) : Int) := by omega
    have v0 : 0 ≤ v := c1.1
    have v04 : 0 ≤ v ∧ v < 4 := ⟨v0, by omega⟩
    have hh := I.1.2.1 v v0 (by omega)
    have hx := k8 v v0 (by omega)
    have hf : ∀ i, 0 ≤ i → i < 7 → 0 ≤ f v i ∧ f v i ≤ 100 := fun i i0 i7 => by rw [k9 v i v0 (by omega) i0 i7]; exact I.1.2.2.1 _ (by omega) (by omega)
    have i0 := c2.2.1
    have i7 : i < ((7 : Nat) : Int) := by have := ab_wd_eq c2.1.1 (by omega); omega
    have b6 : 6 ≤ ab_vb 7 v := by omega
    rw [if_pos c, ← k9 v i v0 (by omega) i0 (by omega)] at q
    rw [if_pos c]
    simp only [s84_6, s84_9, s84_10, s84_13, s84_16, s84_17, s84_18, s84_21, s84_22, s84_23, s84_26, s84_27, true_and, and_true, true_implies, Option.toList_some, Option.toList_none, List.nil_append, List.cons_append, List.map_nil, List.map_cons, List.sum_nil, List.sum_cons, Nat.zero_le, ab_nl_n, ab_nl_i, ab_nl_r, ab_nl_0, ab_cat_i, ab_cat_r, ab_cat_l, Nat.reduceAdd, Nat.reduceLeDiff, Nat.add_zero, Nat.zero_add, reduceIte, List.getElem?_cons_succ, List.getElem?_cons_zero, List.length_cons, List.length_nil, List.set_cons_zero, List.set_cons_succ, true_or, or_true, Classical.not_not, not_true_eq_false, not_false_eq_true, ab_01r, ab_01z, ab_01n, false_implies, ab_tt, Nat.reduceLT, Nat.reduceEqDiff, Int.reduceNeg, Int.reduceLT, Int.reduceLE, Int.add_zero, Int.zero_add, List.append_nil, Int.reduceEq, ab_sum1, ab_ri_0, ab_ri_1, ab_ri_2, ab_ri_3, ab_ri_4, ab_ri_5, ab_ri_6, ab_ri_7, ab_ri_8, ab_ri_12, ab_ri_30, ab_ri_60, ab_ri_100, ab_ri_101, ab_ri_127, ab_ri_m1, ab_ri_m2, ab_ri_m3, ab_ri_m4, ab_ri_m5, ab_ri_m11, ab_ri_m13, ab_ri_m14, ab_ri_10, ab_fd, ab_ar, ab_ai, j1, k1, k3, v0, v4, v04, a6, b6, v1, v2, i0, i7, Nat.reduceLeDiff, q] <;> omega
  · rw [if_neg c] at q
    rw [if_neg c]
    simp only [s84_6, s84_9, s84_10, s84_13, s84_16, s84_17, s84_18, s84_21, s84_22, s84_23, s84_26, s84_27, true_and, and_true, true_implies, Option.toList_some, Option.toList_none, List.nil_append, List.cons_append, List.map_nil, List.map_cons, List.sum_nil, List.sum_cons, Nat.zero_le, ab_nl_n, ab_nl_i, ab_nl_r, ab_nl_0, ab_cat_i, ab_cat_r, ab_cat_l, Nat.reduceAdd, Nat.reduceLeDiff, Nat.add_zero, Nat.zero_add, reduceIte, List.getElem?_cons_succ, List.getElem?_cons_zero, List.length_cons, List.length_nil, List.set_cons_zero, List.set_cons_succ, true_or, or_true, Classical.not_not, not_true_eq_false, not_false_eq_true, ab_01r, ab_01z, ab_01n, false_implies, ab_tt, Nat.reduceLT, Nat.reduceEqDiff, Int.reduceNeg, Int.reduceLT, Int.reduceLE, Int.add_zero, Int.zero_add, List.append_nil, Int.reduceEq, ab_sum1, ab_ri_0, ab_ri_1, ab_ri_2, ab_ri_3, ab_ri_4, ab_ri_5, ab_ri_6, ab_ri_7, ab_ri_8, ab_ri_12, ab_ri_30, ab_ri_60, ab_ri_100, ab_ri_101, ab_ri_127, ab_ri_m1, ab_ri_m2, ab_ri_m3, ab_ri_m4, ab_ri_m5, ab_ri_m11, ab_ri_m13, ab_ri_m14, ab_ri_10, q] <;> omega
theorem xc_put {v i x : Int} (hs : ab_stat h) (J : ab_JC X Y h) (I : ab_XI X) (hv : ab_inR v) (hi : ab_inR i) (hx : ab_inR x) (q : ∀ h', ab_eqo 6 67 h h' → ab_JC (ab_n_put X v i x) Y h' → Q (some (vi (ab_s_put X v i x))) h' n) : ab_G 85 0 [some (vr 6), some (vi v), some (vi i), some (vi x), none, none] [] h n (0, 0) Q := by
  have J' := J
  obtain ⟨j1, j2, j3, j4, j5, j6, j7, j8, j9⟩ := J'
  obtain ⟨l, hvv, f, ws, bs, ⟨k1, k2, k3, k4, k5, k6⟩, k7, k8, k9, k10, k11⟩ := ab_now_o j2
  have hl := ab_lok_cg k7 I.1.1
  unfold ab_s_put ab_n_put at q
  simp only [s85_0, s85_1, s85_2, s85_3, true_and, and_true, true_implies, Option.toList_some, Option.toList_none, List.nil_append, List.cons_append, List.map_nil, List.map_cons, List.sum_nil, List.sum_cons, Nat.zero_le, ab_nl_n, ab_nl_i, ab_nl_r, ab_nl_0, ab_cat_i, ab_cat_r, ab_cat_l, Nat.reduceAdd, Nat.reduceLeDiff, Nat.add_zero, Nat.zero_add, reduceIte, List.getElem?_cons_succ, List.getElem?_cons_zero, List.length_cons, List.length_nil, List.set_cons_zero, List.set_cons_succ, true_or, or_true, Classical.not_not, not_true_eq_false, not_false_eq_true, ab_01r, ab_01z, ab_01n, false_implies, ab_tt, Nat.reduceLT, Nat.reduceEqDiff, Int.reduceNeg, Int.reduceLT, Int.reduceLE, Int.add_zero, Int.zero_add, List.append_nil, Int.reduceEq, ab_sum1, ab_ri_0, ab_ri_1, ab_ri_2, ab_ri_3, ab_ri_4, ab_ri_5, ab_ri_6, ab_ri_7, ab_ri_8, ab_ri_12, ab_ri_30, ab_ri_60, ab_ri_100, ab_ri_101, ab_ri_127, ab_ri_m1, ab_ri_m2, ab_ri_m3, ab_ri_m4, ab_ri_m5, ab_ri_m11, ab_ri_m13, ab_ri_m14, ab_ri_10, ab_vc, j1, ab_sv_11_194, Nat.reduceLeDiff]
  refine sp_hasNumber hs J I hv hi ?_
  by_cases c : ab_isV v ∧ ab_isB (X 1 v) i
  · obtain ⟨c1, c2⟩ := id c
    rw [if_pos c]
    rw [if_pos c] at q
    by_cases c3 : 0 ≤ x ∧ x ≤ 100
    · have hxx := hx
      have va := ab_va_r (s := 7) (v := v) (by omega)
      have a6 : 6 ≤ ab_va 7 v := by omega
      obtain ⟨v1, v2⟩ := k4 v c1.1 (by omega)
      have v4 : v < ((4 : Nat) : Int) := by omega
      have v0 : 0 ≤ v := c1.1
      have v04 : 0 ≤ v ∧ v < 4 := ⟨v0, by omega⟩
      have hh := I.1.2.1 v v0 (by omega)
      have hx := k8 v v0 (by omega)
      have hf : ∀ i, 0 ≤ i → i < 7 → 0 ≤ f v i ∧ f v i ≤ 100 := fun i i0 i7 => by rw [k9 v i v0 (by omega) i0 i7]; exact I.1.2.2.1 _ (by omega) (by omega)
      have i0 := c2.2.1
      have i7 : i < ((7 : Nat) : Int) := by have := ab_wd_eq c2.1.1 (by omega); omega
      have b6 : 6 ≤ ab_vb 7 v := by omega
      rw [if_pos c3, if_pos ⟨c, c3⟩, ← k9 v i v0 (by omega) i0 (by omega)] at q
      have eX : ab_up X 2 (ab_ui (X 2) (7 * v + i) x) = ab_sv X v (X 1 v) (ab_ui (ab_cv X v) i x) := by
        unfold ab_sv
        have : ab_up X 1 (ab_ui (X 1) v (X 1 v)) = X := by
          funext k j
          unfold ab_up ab_ui
          by_cases e : k = 1
          · subst e
            rw [if_pos rfl]
            by_cases d : j = v
            · rw [if_pos d, d]
            · rw [if_neg d]
          · rw [if_neg e]
        rw [this]
        congr 1
        funext j
        by_cases e : 7 * v ≤ j ∧ j < 7 * v + 7
        · rw [if_pos e]
          by_cases d : j = 7 * v + i
          · rw [d, ab_ui_at, show 7 * v + i - 7 * v = i by omega, ab_ui_at]
          · rw [ab_ui_ne d, ab_ui_ne (by omega)]
            unfold ab_cv
            rw [show 7 * v + (j - 7 * v) = j by omega]
        · rw [if_neg e, ab_ui_ne (by omega)]
      rw [eX] at q
      have q := q (ab_hs h (ab_vb 7 v) (ab_ia 7 (ab_ui (f v) i x))) (fun a ha => ab_hs_ne (by omega)) (ab_JC_now (fun a ha => ab_hs_ne (by omega)) J (fun k hk => Or.inl (ab_sv_o (by omega) (by omega))) (ab_now_sv j2 v04 (fun a _ _ h1 h2 => ab_hs_ne h2) ((ab_hs_ne (by omega)).trans (v1.trans (by rw [hx]))) ab_hs_self (fun j j0 j7 => by
        by_cases e : j = i
        · rw [e, ab_ui_at, ab_ui_at]
        · rw [ab_ui_ne e, ab_ui_ne e]
          exact k9 v j v0 (by omega) j0 j7)))
      simp (disch := omega) only [s85_6, s85_9, s85_10, s85_11, s85_12, s85_14, s85_17, s85_20, s85_22, s85_23, s85_24, s85_27, s85_30, s85_31, s85_32, s85_35, s85_37, s85_39, s85_40, s85_41, s85_43, s85_45, s85_46, s85_47, s85_48, s85_50, true_and, and_true, true_implies, Option.toList_some, Option.toList_none, List.nil_append, List.cons_append, List.map_nil, List.map_cons, List.sum_nil, List.sum_cons, Nat.zero_le, ab_nl_n, ab_nl_i, ab_nl_r, ab_nl_0, ab_cat_i, ab_cat_r, ab_cat_l, Nat.reduceAdd, Nat.reduceLeDiff, Nat.add_zero, Nat.zero_add, reduceIte, List.getElem?_cons_succ, List.getElem?_cons_zero, List.length_cons, List.length_nil, List.set_cons_zero, List.set_cons_succ, true_or, or_true, Classical.not_not, not_true_eq_false, not_false_eq_true, ab_01r, ab_01z, ab_01n, false_implies, ab_tt, Nat.reduceLT, Nat.reduceEqDiff, Int.reduceNeg, Int.reduceLT, Int.reduceLE, Int.add_zero, Int.zero_add, List.append_nil, Int.reduceEq, ab_sum1, ab_ri_0, ab_ri_1, ab_ri_2, ab_ri_3, ab_ri_4, ab_ri_5, ab_ri_6, ab_ri_7, ab_ri_8, ab_ri_12, ab_ri_30, ab_ri_60, ab_ri_100, ab_ri_101, ab_ri_127, ab_ri_m1, ab_ri_m2, ab_ri_m3, ab_ri_m4, ab_ri_m5, ab_ri_m11, ab_ri_m13, ab_ri_m14, ab_ri_10, sp_isWithin, ab_01n, ab_01z, eq_true c3, ab_fd, ab_ar, ab_ai, ab_as, j1, k1, k3, v0, v4, v04, a6, b6, v1, v2, i0, i7, Nat.reduceLeDiff, q]
    · rw [if_neg c3, if_neg (fun z => c3 z.2)] at q
      have q := q h (fun _ _ => rfl) J
      simp (disch := omega) only [s85_6, s85_9, s85_10, s85_11, s85_12, s85_14, s85_17, s85_20, s85_22, true_and, and_true, true_implies, Option.toList_some, Option.toList_none, List.nil_append, List.cons_append, List.map_nil, List.map_cons, List.sum_nil, List.sum_cons, Nat.zero_le, ab_nl_n, ab_nl_i, ab_nl_r, ab_nl_0, ab_cat_i, ab_cat_r, ab_cat_l, Nat.reduceAdd, Nat.reduceLeDiff, Nat.add_zero, Nat.zero_add, reduceIte, List.getElem?_cons_succ, List.getElem?_cons_zero, List.length_cons, List.length_nil, List.set_cons_zero, List.set_cons_succ, true_or, or_true, Classical.not_not, not_true_eq_false, not_false_eq_true, ab_01r, ab_01z, ab_01n, false_implies, ab_tt, Nat.reduceLT, Nat.reduceEqDiff, Int.reduceNeg, Int.reduceLT, Int.reduceLE, Int.add_zero, Int.zero_add, List.append_nil, Int.reduceEq, ab_sum1, ab_ri_0, ab_ri_1, ab_ri_2, ab_ri_3, ab_ri_4, ab_ri_5, ab_ri_6, ab_ri_7, ab_ri_8, ab_ri_12, ab_ri_30, ab_ri_60, ab_ri_100, ab_ri_101, ab_ri_127, ab_ri_m1, ab_ri_m2, ab_ri_m3, ab_ri_m4, ab_ri_m5, ab_ri_m11, ab_ri_m13, ab_ri_m14, ab_ri_10, sp_isWithin, ab_01n, ab_01z, c3, q]
  · rw [if_neg c]
    rw [if_neg c, if_neg (fun z => c z.1)] at q
    have q := q h (fun _ _ => rfl) J
    simp only [s85_6, s85_9, s85_10, true_and, and_true, true_implies, Option.toList_some, Option.toList_none, List.nil_append, List.cons_append, List.map_nil, List.map_cons, List.sum_nil, List.sum_cons, Nat.zero_le, ab_nl_n, ab_nl_i, ab_nl_r, ab_nl_0, ab_cat_i, ab_cat_r, ab_cat_l, Nat.reduceAdd, Nat.reduceLeDiff, Nat.add_zero, Nat.zero_add, reduceIte, List.getElem?_cons_succ, List.getElem?_cons_zero, List.length_cons, List.length_nil, List.set_cons_zero, List.set_cons_succ, true_or, or_true, Classical.not_not, not_true_eq_false, not_false_eq_true, ab_01r, ab_01z, ab_01n, false_implies, ab_tt, Nat.reduceLT, Nat.reduceEqDiff, Int.reduceNeg, Int.reduceLT, Int.reduceLE, Int.add_zero, Int.zero_add, List.append_nil, Int.reduceEq, ab_sum1, ab_ri_0, ab_ri_1, ab_ri_2, ab_ri_3, ab_ri_4, ab_ri_5, ab_ri_6, ab_ri_7, ab_ri_8, ab_ri_12, ab_ri_30, ab_ri_60, ab_ri_100, ab_ri_101, ab_ri_127, ab_ri_m1, ab_ri_m2, ab_ri_m3, ab_ri_m4, ab_ri_m5, ab_ri_m11, ab_ri_m13, ab_ri_m14, ab_ri_10, q] <;> omega
theorem xc_raise {v m : Int} (hs : ab_stat h) (J : ab_JC X Y h) (I : ab_XI X) (hv : ab_inR v) (hm : ab_inR m) (q : ∀ h', ab_eqo 6 67 h h' → ab_JC (ab_n_raise X v m) Y h' → Q (some (vi (ab_s_raise X v m))) h' n) : ab_G 86 0 [some (vr 6), some (vi v), some (vi m), none, none] [] h n (0, 0) Q := by
  have J' := J
  obtain ⟨j1, j2, j3, j4, j5, j6, j7, j8, j9⟩ := J'
  obtain ⟨l, hvv, f, ws, bs, ⟨k1, k2, k3, k4, k5, k6⟩, k7, k8, k9, k10, k11⟩ := ab_now_o j2
  have hl := ab_lok_cg k7 I.1.1
  unfold ab_s_raise ab_n_raise at q
  by_cases c1 : ab_isV v
  · by_cases c2 : -5 ≤ m ∧ m ≤ 5
    · have va := ab_va_r (s := 7) (v := v) (by omega)
      have a6 : 6 ≤ ab_va 7 v := by omega
      obtain ⟨v1, v2⟩ := k4 v c1.1 (by omega)
      have v4 : v < ((4 : Nat) : Int) := by omega
      have v0 : 0 ≤ v := c1.1
      have v04 : 0 ≤ v ∧ v < 4 := ⟨v0, by omega⟩
      have hh := I.1.2.1 v v0 (by omega)
      have hx := k8 v v0 (by omega)
      have hf : ∀ i, 0 ≤ i → i < 7 → 0 ≤ f v i ∧ f v i ≤ 100 := fun i i0 i7 => by rw [k9 v i v0 (by omega) i0 i7]; exact I.1.2.2.1 _ (by omega) (by omega)
      have ltr : ab_inR (hvv v - m) := by omega
      have hhr : ab_inR (hvv v) := by omega
      rw [← hx] at q
      by_cases c3 : 0 ≤ hvv v - m ∧ hvv v - m ≤ 5
      · rw [if_pos ⟨⟨c1, c2⟩, c3⟩, if_pos ⟨c1, c2⟩, if_pos c3] at q
        obtain ⟨B, A, F, Mv, top, ⟨d1, -⟩, -⟩ := id j4
        simp (disch := omega) only [s86_0, s86_1, s86_4, s86_7, s86_8, s86_11, s86_14, s86_15, s86_16, s86_17, s86_20, s86_23, s86_24, s86_25, s86_26, s86_27, s86_30, s86_31, s86_32, s86_34, s86_36, s86_39, s86_42, s86_44, s86_45, s86_46, s86_49, s86_50, s86_53, s86_56, s86_57, s86_60, s86_62, s86_65, true_and, and_true, true_implies, Option.toList_some, Option.toList_none, List.nil_append, List.cons_append, List.map_nil, List.map_cons, List.sum_nil, List.sum_cons, Nat.zero_le, ab_nl_n, ab_nl_i, ab_nl_r, ab_nl_0, ab_cat_i, ab_cat_r, ab_cat_l, Nat.reduceAdd, Nat.reduceLeDiff, Nat.add_zero, Nat.zero_add, reduceIte, List.getElem?_cons_succ, List.getElem?_cons_zero, List.length_cons, List.length_nil, List.set_cons_zero, List.set_cons_succ, true_or, or_true, Classical.not_not, not_true_eq_false, not_false_eq_true, ab_01r, ab_01z, ab_01n, false_implies, ab_tt, Nat.reduceLT, Nat.reduceEqDiff, Int.reduceNeg, Int.reduceLT, Int.reduceLE, Int.add_zero, Int.zero_add, List.append_nil, Int.reduceEq, ab_sum1, ab_ri_0, ab_ri_1, ab_ri_2, ab_ri_3, ab_ri_4, ab_ri_5, ab_ri_6, ab_ri_7, ab_ri_8, ab_ri_12, ab_ri_30, ab_ri_60, ab_ri_100, ab_ri_101, ab_ri_127, ab_ri_m1, ab_ri_m2, ab_ri_m3, ab_ri_m4, ab_ri_m5, ab_ri_m11, ab_ri_m13, ab_ri_m14, ab_ri_10, sp_isVector, sp_isMode, sp_isLevel, sp_max hhr ltr, ab_01n, ab_01z, c1, c2, c3, ab_fd, ab_ar, ab_vc, ab_sv_11_115, ab_sv_11_200, j1, k1, k3, v0, v4, v04, a6, v1, d1, Nat.reduceLeDiff]
        refine sp_build hs j4 (by decide) (by decide) k2 hl (by split <;> omega) fun h1 he lad => ?_
        have hs' := ab_stat_fr (by decide) he hs
        have J1 := ab_JC_lad he J lad
        obtain ⟨B, A, F, Mv, top, ⟨d1, -⟩, -⟩ := id lad
        have e6 : h1 6 = some (ab_mn (X 5 3)) := (he 6 (by decide)).trans j1
        have w1 := (he (ab_va 7 v) (by omega)).trans v1
        have w2 := (he (ab_vb 7 v) (by omega)).trans v2
        simp only [s86_68, s86_69, s86_72, s86_73, s86_74, true_and, and_true, true_implies, Option.toList_some, Option.toList_none, List.nil_append, List.cons_append, List.map_nil, List.map_cons, List.sum_nil, List.sum_cons, Nat.zero_le, ab_nl_n, ab_nl_i, ab_nl_r, ab_nl_0, ab_cat_i, ab_cat_r, ab_cat_l, Nat.reduceAdd, Nat.reduceLeDiff, Nat.add_zero, Nat.zero_add, reduceIte, List.getElem?_cons_succ, List.getElem?_cons_zero, List.length_cons, List.length_nil, List.set_cons_zero, List.set_cons_succ, true_or, or_true, Classical.not_not, not_true_eq_false, not_false_eq_true, ab_01r, ab_01z, ab_01n, false_implies, ab_tt, Nat.reduceLT, Nat.reduceEqDiff, Int.reduceNeg, Int.reduceLT, Int.reduceLE, Int.add_zero, Int.zero_add, List.append_nil, Int.reduceEq, ab_sum1, ab_ri_0, ab_ri_1, ab_ri_2, ab_ri_3, ab_ri_4, ab_ri_5, ab_ri_6, ab_ri_7, ab_ri_8, ab_ri_12, ab_ri_30, ab_ri_60, ab_ri_100, ab_ri_101, ab_ri_127, ab_ri_m1, ab_ri_m2, ab_ri_m3, ab_ri_m4, ab_ri_m5, ab_ri_m11, ab_ri_m13, ab_ri_m14, ab_ri_10, ab_fd, ab_vc, ab_sv_11_115, ab_sv_11_200, e6, d1, Nat.reduceLeDiff]
        refine sp_move hs' lad ⟨a6, by omega⟩ ⟨by omega, by omega⟩ (by omega) w1 w2 ⟨by omega, by split <;> omega⟩ ⟨c3.1, by split <;> omega⟩ (by split <;> omega) hf fun h2 e2 x1 x2 lad2 => ?_
        have q := q h2 (fun a ha => (e2 a (by omega) (by omega) (by omega)).trans (he a (by omega))) (ab_JC_gen (fun a ha => (e2 a (by omega) (by omega) (by omega)).trans (he a (by omega))) J (fun k hk => Or.inl (ab_sv_o (by omega) (by omega))) (ab_now_sv (ab_now_fr (fun a _ _ => he a (by omega)) j2) v04 (fun a _ _ g1 g2 => e2 a g1 g2 (by omega)) x1 x2 (fun i i0 i7 => by
          rw [ab_fi_lo ⟨i0, i7⟩, ab_AT_cg k7, ab_mv_cg (by omega) (fun i i0 i7 => k9 v i v0 (by omega) i0 i7)]
          rfl)) lad2 (ab_swp_fr (fun a _ _ => (e2 a (by omega) (by omega) (by omega)).trans (he a (by omega))) j5) (ab_scr_fr (fun a _ _ => (e2 a (by omega) (by omega) (by omega)).trans (he a (by omega))) j8))
        simp only [s86_77, s86_78, s86_81, true_and, and_true, true_implies, Option.toList_some, Option.toList_none, List.nil_append, List.cons_append, List.map_nil, List.map_cons, List.sum_nil, List.sum_cons, Nat.zero_le, ab_nl_n, ab_nl_i, ab_nl_r, ab_nl_0, ab_cat_i, ab_cat_r, ab_cat_l, Nat.reduceAdd, Nat.reduceLeDiff, Nat.add_zero, Nat.zero_add, reduceIte, List.getElem?_cons_succ, List.getElem?_cons_zero, List.length_cons, List.length_nil, List.set_cons_zero, List.set_cons_succ, true_or, or_true, Classical.not_not, not_true_eq_false, not_false_eq_true, ab_01r, ab_01z, ab_01n, false_implies, ab_tt, Nat.reduceLT, Nat.reduceEqDiff, Int.reduceNeg, Int.reduceLT, Int.reduceLE, Int.add_zero, Int.zero_add, List.append_nil, Int.reduceEq, ab_sum1, ab_ri_0, ab_ri_1, ab_ri_2, ab_ri_3, ab_ri_4, ab_ri_5, ab_ri_6, ab_ri_7, ab_ri_8, ab_ri_12, ab_ri_30, ab_ri_60, ab_ri_100, ab_ri_101, ab_ri_127, ab_ri_m1, ab_ri_m2, ab_ri_m3, ab_ri_m4, ab_ri_m5, ab_ri_m11, ab_ri_m13, ab_ri_m14, ab_ri_10, ab_fd, x1, a6, q]
      · rw [if_neg (fun z => c3 z.2), if_pos ⟨c1, c2⟩, if_neg c3] at q
        have q := q h (fun _ _ => rfl) J
        simp (disch := omega) only [s86_0, s86_1, s86_4, s86_7, s86_8, s86_11, s86_14, s86_15, s86_16, s86_17, s86_20, s86_23, s86_24, s86_25, s86_26, s86_27, s86_30, s86_31, s86_32, s86_34, s86_36, s86_39, s86_42, s86_44, true_and, and_true, true_implies, Option.toList_some, Option.toList_none, List.nil_append, List.cons_append, List.map_nil, List.map_cons, List.sum_nil, List.sum_cons, Nat.zero_le, ab_nl_n, ab_nl_i, ab_nl_r, ab_nl_0, ab_cat_i, ab_cat_r, ab_cat_l, Nat.reduceAdd, Nat.reduceLeDiff, Nat.add_zero, Nat.zero_add, reduceIte, List.getElem?_cons_succ, List.getElem?_cons_zero, List.length_cons, List.length_nil, List.set_cons_zero, List.set_cons_succ, true_or, or_true, Classical.not_not, not_true_eq_false, not_false_eq_true, ab_01r, ab_01z, ab_01n, false_implies, ab_tt, Nat.reduceLT, Nat.reduceEqDiff, Int.reduceNeg, Int.reduceLT, Int.reduceLE, Int.add_zero, Int.zero_add, List.append_nil, Int.reduceEq, ab_sum1, ab_ri_0, ab_ri_1, ab_ri_2, ab_ri_3, ab_ri_4, ab_ri_5, ab_ri_6, ab_ri_7, ab_ri_8, ab_ri_12, ab_ri_30, ab_ri_60, ab_ri_100, ab_ri_101, ab_ri_127, ab_ri_m1, ab_ri_m2, ab_ri_m3, ab_ri_m4, ab_ri_m5, ab_ri_m11, ab_ri_m13, ab_ri_m14, ab_ri_10, sp_isVector, sp_isMode, sp_isLevel, ab_01n, ab_01z, c1, c2, c3, ab_fd, ab_ar, j1, k1, k3, v0, v4, v04, a6, v1, Nat.reduceLeDiff, q]
    · rw [if_neg (fun z => c2 z.1.2), if_neg (fun z => c2 z.2)] at q
      have q := q h (fun _ _ => rfl) J
      simp (disch := omega) only [s86_0, s86_1, s86_4, s86_7, s86_8, s86_11, s86_14, s86_15, true_and, and_true, true_implies, Option.toList_some, Option.toList_none, List.nil_append, List.cons_append, List.map_nil, List.map_cons, List.sum_nil, List.sum_cons, Nat.zero_le, ab_nl_n, ab_nl_i, ab_nl_r, ab_nl_0, ab_cat_i, ab_cat_r, ab_cat_l, Nat.reduceAdd, Nat.reduceLeDiff, Nat.add_zero, Nat.zero_add, reduceIte, List.getElem?_cons_succ, List.getElem?_cons_zero, List.length_cons, List.length_nil, List.set_cons_zero, List.set_cons_succ, true_or, or_true, Classical.not_not, not_true_eq_false, not_false_eq_true, ab_01r, ab_01z, ab_01n, false_implies, ab_tt, Nat.reduceLT, Nat.reduceEqDiff, Int.reduceNeg, Int.reduceLT, Int.reduceLE, Int.add_zero, Int.zero_add, List.append_nil, Int.reduceEq, ab_sum1, ab_ri_0, ab_ri_1, ab_ri_2, ab_ri_3, ab_ri_4, ab_ri_5, ab_ri_6, ab_ri_7, ab_ri_8, ab_ri_12, ab_ri_30, ab_ri_60, ab_ri_100, ab_ri_101, ab_ri_127, ab_ri_m1, ab_ri_m2, ab_ri_m3, ab_ri_m4, ab_ri_m5, ab_ri_m11, ab_ri_m13, ab_ri_m14, ab_ri_10, sp_isVector, sp_isMode, ab_01n, ab_01z, c1, c2, q]
  · rw [if_neg (fun z => c1 z.1.1), if_neg (fun z => c1 z.1)] at q
    have q := q h (fun _ _ => rfl) J
    simp (disch := omega) only [s86_0, s86_1, s86_4, s86_7, s86_8, s86_11, s86_14, s86_15, true_and, and_true, true_implies, Option.toList_some, Option.toList_none, List.nil_append, List.cons_append, List.map_nil, List.map_cons, List.sum_nil, List.sum_cons, Nat.zero_le, ab_nl_n, ab_nl_i, ab_nl_r, ab_nl_0, ab_cat_i, ab_cat_r, ab_cat_l, Nat.reduceAdd, Nat.reduceLeDiff, Nat.add_zero, Nat.zero_add, reduceIte, List.getElem?_cons_succ, List.getElem?_cons_zero, List.length_cons, List.length_nil, List.set_cons_zero, List.set_cons_succ, true_or, or_true, Classical.not_not, not_true_eq_false, not_false_eq_true, ab_01r, ab_01z, ab_01n, false_implies, ab_tt, Nat.reduceLT, Nat.reduceEqDiff, Int.reduceNeg, Int.reduceLT, Int.reduceLE, Int.add_zero, Int.zero_add, List.append_nil, Int.reduceEq, ab_sum1, ab_ri_0, ab_ri_1, ab_ri_2, ab_ri_3, ab_ri_4, ab_ri_5, ab_ri_6, ab_ri_7, ab_ri_8, ab_ri_12, ab_ri_30, ab_ri_60, ab_ri_100, ab_ri_101, ab_ri_127, ab_ri_m1, ab_ri_m2, ab_ri_m3, ab_ri_m4, ab_ri_m5, ab_ri_m11, ab_ri_m13, ab_ri_m14, ab_ri_10, sp_isVector, ab_01n, ab_01z, c1, q]
theorem xc_add {a b k : Int} (J : ab_JC X Y h) (I : ab_XI X) (ha : ab_inR a) (hb : ab_inR b) (hk : ab_inR k) (q : ∀ h', ab_eqo 6 67 h h' → ab_JC (ab_n_add X a b k) Y h' → Q (some (vi (ab_s_add X a b k))) h' n) : ab_G 87 0 [some (vr 6), some (vi a), some (vi b), some (vi k), none] [] h n (0, 0) Q := by
  have J' := J
  obtain ⟨j1, j2, j3, j4, j5, j6, j7, j8, j9⟩ := J'
  obtain ⟨l, hvv, f, ws, bs, ⟨k1, k2, k3, k4, k5, k6⟩, k7, k8, k9, k10, k11⟩ := ab_now_o j2
  have hl := ab_lok_cg k7 I.1.1
  unfold ab_s_add ab_n_add at q
  by_cases c1 : ab_isV a
  · by_cases c2 : ab_isV b
    · by_cases c3 : 0 ≤ k ∧ k ≤ 100
      · have vaA := ab_va_r (s := 7) (v := a) (by omega)
        have a6A : 6 ≤ ab_va 7 a := by omega
        obtain ⟨v1A, v2A⟩ := k4 a c1.1 (by omega)
        have v4A : a < ((4 : Nat) : Int) := by omega
        have v0A : 0 ≤ a := c1.1
        have v04A : 0 ≤ a ∧ a < 4 := ⟨v0A, by omega⟩
        have hhA := I.1.2.1 a v0A (by omega)
        have hxA := k8 a v0A (by omega)
        have hfA : ∀ i, 0 ≤ i → i < 7 → 0 ≤ f a i ∧ f a i ≤ 100 := fun i i0 i7 => by rw [k9 a i v0A (by omega) i0 i7]; exact I.1.2.2.1 _ (by omega) (by omega)
        have vaB := ab_va_r (s := 7) (v := b) (by omega)
        have a6B : 6 ≤ ab_va 7 b := by omega
        obtain ⟨v1B, v2B⟩ := k4 b c2.1 (by omega)
        have v4B : b < ((4 : Nat) : Int) := by omega
        have v0B : 0 ≤ b := c2.1
        have v04B : 0 ≤ b ∧ b < 4 := ⟨v0B, by omega⟩
        have hhB := I.1.2.1 b v0B (by omega)
        have hxB := k8 b v0B (by omega)
        have hfB : ∀ i, 0 ≤ i → i < 7 → 0 ≤ f b i ∧ f b i ≤ 100 := fun i i0 i7 => by rw [k9 b i v0B (by omega) i0 i7]; exact I.1.2.2.1 _ (by omega) (by omega)
        rw [← hxA, ← hxB] at q
        have hrA : ab_inR (hvv a) = True := eq_true (by omega)
        have hrB : ab_inR (hvv b) = True := eq_true (by omega)
        by_cases c4 : hvv a = hvv b
        · rw [if_pos ⟨⟨c1, c2⟩, c3, c4⟩, if_pos ⟨c1, c2⟩, if_pos c3, if_pos c4] at q
          have nab : ab_va 7 b ≠ ab_vb 7 a := by
            by_cases e : b = a
            · rw [e]; omega
            · exact (ab_va_ne (s := 7) v0B v0A e).2.1
          simp (disch := omega) only [s87_0, s87_1, s87_4, s87_7, s87_8, s87_11, s87_14, s87_15, s87_16, s87_17, s87_19, s87_22, s87_25, s87_27, s87_28, s87_29, s87_32, s87_35, s87_36, s87_37, s87_39, s87_41, s87_44, s87_45, s87_48, s87_51, s87_52, s87_53, s87_56, s87_59, s87_61, s87_62, s87_64, s87_65, s87_68, s87_71, s87_72, s87_73, s87_74, true_and, and_true, true_implies, Option.toList_some, Option.toList_none, List.nil_append, List.cons_append, List.map_nil, List.map_cons, List.sum_nil, List.sum_cons, Nat.zero_le, ab_nl_n, ab_nl_i, ab_nl_r, ab_nl_0, ab_cat_i, ab_cat_r, ab_cat_l, Nat.reduceAdd, Nat.reduceLeDiff, Nat.add_zero, Nat.zero_add, reduceIte, List.getElem?_cons_succ, List.getElem?_cons_zero, List.length_cons, List.length_nil, List.set_cons_zero, List.set_cons_succ, true_or, or_true, Classical.not_not, not_true_eq_false, not_false_eq_true, ab_01r, ab_01z, ab_01n, false_implies, ab_tt, Nat.reduceLT, Nat.reduceEqDiff, Int.reduceNeg, Int.reduceLT, Int.reduceLE, Int.add_zero, Int.zero_add, List.append_nil, Int.reduceEq, ab_sum1, ab_ri_0, ab_ri_1, ab_ri_2, ab_ri_3, ab_ri_4, ab_ri_5, ab_ri_6, ab_ri_7, ab_ri_8, ab_ri_12, ab_ri_30, ab_ri_60, ab_ri_100, ab_ri_101, ab_ri_127, ab_ri_m1, ab_ri_m2, ab_ri_m3, ab_ri_m4, ab_ri_m5, ab_ri_m11, ab_ri_m13, ab_ri_m14, ab_ri_10, sp_isVector, sp_isWithin, ab_01n, ab_01z, c1, c2, c3, ab_fd, ab_ar, ab_vc, ab_sv_11_204, j1, k1, k3, v0A, v4A, v04A, a6A, v1A, v0B, v4B, v04B, a6B, v1B, hrA, hrB, eq_true c4, Nat.reduceLeDiff]
          refine sp_addTimes a6A (by omega) a6B (by omega) (by omega) nab v1A v2A v1B v2B c3 hfA hfB ?_
          have q := q (ab_hs h (ab_vb 7 a) (ab_ia 7 (ab_fi (fun i => (f a i + k * f b i) % 101) (f a) 0 7))) (fun x hx => ab_hs_ne (by omega)) (ab_JC_now (fun x hx => ab_hs_ne (by omega)) J (fun k hk => Or.inl (ab_sv_o (by omega) (by omega))) (ab_now_sv j2 v04A (fun x _ _ h1 h2 => ab_hs_ne h2) ((ab_hs_ne (by omega)).trans v1A) ab_hs_self (fun j j0 j7 => by
            rw [ab_fi_lo ⟨j0, j7⟩, k9 a j v0A (by omega) j0 j7, k9 b j v0B (by omega) j0 j7]
            rfl)))
          have e1 : ab_hs h (ab_vb 7 a) (ab_ia 7 (ab_fi (fun i => (f a i + k * f b i) % 101) (f a) 0 7)) (ab_va 7 a) = some (ab_vec (ab_vb 7 a) (hvv a)) := (ab_hs_ne (by omega)).trans v1A
          simp only [s87_77, s87_79, s87_82, true_and, and_true, true_implies, Option.toList_some, Option.toList_none, List.nil_append, List.cons_append, List.map_nil, List.map_cons, List.sum_nil, List.sum_cons, Nat.zero_le, ab_nl_n, ab_nl_i, ab_nl_r, ab_nl_0, ab_cat_i, ab_cat_r, ab_cat_l, Nat.reduceAdd, Nat.reduceLeDiff, Nat.add_zero, Nat.zero_add, reduceIte, List.getElem?_cons_succ, List.getElem?_cons_zero, List.length_cons, List.length_nil, List.set_cons_zero, List.set_cons_succ, true_or, or_true, Classical.not_not, not_true_eq_false, not_false_eq_true, ab_01r, ab_01z, ab_01n, false_implies, ab_tt, Nat.reduceLT, Nat.reduceEqDiff, Int.reduceNeg, Int.reduceLT, Int.reduceLE, Int.add_zero, Int.zero_add, List.append_nil, Int.reduceEq, ab_sum1, ab_ri_0, ab_ri_1, ab_ri_2, ab_ri_3, ab_ri_4, ab_ri_5, ab_ri_6, ab_ri_7, ab_ri_8, ab_ri_12, ab_ri_30, ab_ri_60, ab_ri_100, ab_ri_101, ab_ri_127, ab_ri_m1, ab_ri_m2, ab_ri_m3, ab_ri_m4, ab_ri_m5, ab_ri_m11, ab_ri_m13, ab_ri_m14, ab_ri_10, ab_fd, e1, a6A, q]
        · rw [if_neg (fun z => c4 z.2.2), if_pos ⟨c1, c2⟩, if_pos c3, if_neg c4] at q
          have q := q h (fun _ _ => rfl) J
          simp (disch := omega) only [s87_0, s87_1, s87_4, s87_7, s87_8, s87_11, s87_14, s87_15, s87_16, s87_17, s87_19, s87_22, s87_25, s87_27, s87_28, s87_29, s87_32, s87_35, s87_36, s87_37, s87_39, s87_41, s87_44, s87_45, s87_48, s87_51, s87_52, s87_53, s87_56, s87_59, s87_61, true_and, and_true, true_implies, Option.toList_some, Option.toList_none, List.nil_append, List.cons_append, List.map_nil, List.map_cons, List.sum_nil, List.sum_cons, Nat.zero_le, ab_nl_n, ab_nl_i, ab_nl_r, ab_nl_0, ab_cat_i, ab_cat_r, ab_cat_l, Nat.reduceAdd, Nat.reduceLeDiff, Nat.add_zero, Nat.zero_add, reduceIte, List.getElem?_cons_succ, List.getElem?_cons_zero, List.length_cons, List.length_nil, List.set_cons_zero, List.set_cons_succ, true_or, or_true, Classical.not_not, not_true_eq_false, not_false_eq_true, ab_01r, ab_01z, ab_01n, false_implies, ab_tt, Nat.reduceLT, Nat.reduceEqDiff, Int.reduceNeg, Int.reduceLT, Int.reduceLE, Int.add_zero, Int.zero_add, List.append_nil, Int.reduceEq, ab_sum1, ab_ri_0, ab_ri_1, ab_ri_2, ab_ri_3, ab_ri_4, ab_ri_5, ab_ri_6, ab_ri_7, ab_ri_8, ab_ri_12, ab_ri_30, ab_ri_60, ab_ri_100, ab_ri_101, ab_ri_127, ab_ri_m1, ab_ri_m2, ab_ri_m3, ab_ri_m4, ab_ri_m5, ab_ri_m11, ab_ri_m13, ab_ri_m14, ab_ri_10, sp_isVector, sp_isWithin, ab_01n, ab_01z, c1, c2, c3, ab_fd, ab_ar, j1, k1, k3, v0A, v4A, v04A, a6A, v1A, v0B, v4B, v04B, a6B, v1B, hrA, hrB, c4, Nat.reduceLeDiff, q]
      · rw [if_neg (fun z => c3 z.2.1), if_pos ⟨c1, c2⟩, if_neg c3] at q
        have q := q h (fun _ _ => rfl) J
        simp (disch := omega) only [s87_0, s87_1, s87_4, s87_7, s87_8, s87_11, s87_14, s87_15, s87_16, s87_17, s87_19, s87_22, s87_25, s87_27, true_and, and_true, true_implies, Option.toList_some, Option.toList_none, List.nil_append, List.cons_append, List.map_nil, List.map_cons, List.sum_nil, List.sum_cons, Nat.zero_le, ab_nl_n, ab_nl_i, ab_nl_r, ab_nl_0, ab_cat_i, ab_cat_r, ab_cat_l, Nat.reduceAdd, Nat.reduceLeDiff, Nat.add_zero, Nat.zero_add, reduceIte, List.getElem?_cons_succ, List.getElem?_cons_zero, List.length_cons, List.length_nil, List.set_cons_zero, List.set_cons_succ, true_or, or_true, Classical.not_not, not_true_eq_false, not_false_eq_true, ab_01r, ab_01z, ab_01n, false_implies, ab_tt, Nat.reduceLT, Nat.reduceEqDiff, Int.reduceNeg, Int.reduceLT, Int.reduceLE, Int.add_zero, Int.zero_add, List.append_nil, Int.reduceEq, ab_sum1, ab_ri_0, ab_ri_1, ab_ri_2, ab_ri_3, ab_ri_4, ab_ri_5, ab_ri_6, ab_ri_7, ab_ri_8, ab_ri_12, ab_ri_30, ab_ri_60, ab_ri_100, ab_ri_101, ab_ri_127, ab_ri_m1, ab_ri_m2, ab_ri_m3, ab_ri_m4, ab_ri_m5, ab_ri_m11, ab_ri_m13, ab_ri_m14, ab_ri_10, sp_isVector, sp_isWithin, ab_01n, ab_01z, c1, c2, c3, q]
    · rw [if_neg (fun z => c2 z.1.2), if_neg (fun z => c2 z.2)] at q
      have q := q h (fun _ _ => rfl) J
      simp (disch := omega) only [s87_0, s87_1, s87_4, s87_7, s87_8, s87_11, s87_14, s87_15, true_and, and_true, true_implies, Option.toList_some, Option.toList_none, List.nil_append, List.cons_append, List.map_nil, List.map_cons, List.sum_nil, List.sum_cons, Nat.zero_le, ab_nl_n, ab_nl_i, ab_nl_r, ab_nl_0, ab_cat_i, ab_cat_r, ab_cat_l, Nat.reduceAdd, Nat.reduceLeDiff, Nat.add_zero, Nat.zero_add, reduceIte, List.getElem?_cons_succ, List.getElem?_cons_zero, List.length_cons, List.length_nil, List.set_cons_zero, List.set_cons_succ, true_or, or_true, Classical.not_not, not_true_eq_false, not_false_eq_true, ab_01r, ab_01z, ab_01n, false_implies, ab_tt, Nat.reduceLT, Nat.reduceEqDiff, Int.reduceNeg, Int.reduceLT, Int.reduceLE, Int.add_zero, Int.zero_add, List.append_nil, Int.reduceEq, ab_sum1, ab_ri_0, ab_ri_1, ab_ri_2, ab_ri_3, ab_ri_4, ab_ri_5, ab_ri_6, ab_ri_7, ab_ri_8, ab_ri_12, ab_ri_30, ab_ri_60, ab_ri_100, ab_ri_101, ab_ri_127, ab_ri_m1, ab_ri_m2, ab_ri_m3, ab_ri_m4, ab_ri_m5, ab_ri_m11, ab_ri_m13, ab_ri_m14, ab_ri_10, sp_isVector, ab_01n, ab_01z, c1, c2, q]
  · rw [if_neg (fun z => c1 z.1.1), if_neg (fun z => c1 z.1)] at q
    have q := q h (fun _ _ => rfl) J
    simp (disch := omega) only [s87_0, s87_1, s87_4, s87_7, s87_8, s87_11, s87_14, s87_15, true_and, and_true, true_implies, Option.toList_some, Option.toList_none, List.nil_append, List.cons_append, List.map_nil, List.map_cons, List.sum_nil, List.sum_cons, Nat.zero_le, ab_nl_n, ab_nl_i, ab_nl_r, ab_nl_0, ab_cat_i, ab_cat_r, ab_cat_l, Nat.reduceAdd, Nat.reduceLeDiff, Nat.add_zero, Nat.zero_add, reduceIte, List.getElem?_cons_succ, List.getElem?_cons_zero, List.length_cons, List.length_nil, List.set_cons_zero, List.set_cons_succ, true_or, or_true, Classical.not_not, not_true_eq_false, not_false_eq_true, ab_01r, ab_01z, ab_01n, false_implies, ab_tt, Nat.reduceLT, Nat.reduceEqDiff, Int.reduceNeg, Int.reduceLT, Int.reduceLE, Int.add_zero, Int.zero_add, List.append_nil, Int.reduceEq, ab_sum1, ab_ri_0, ab_ri_1, ab_ri_2, ab_ri_3, ab_ri_4, ab_ri_5, ab_ri_6, ab_ri_7, ab_ri_8, ab_ri_12, ab_ri_30, ab_ri_60, ab_ri_100, ab_ri_101, ab_ri_127, ab_ri_m1, ab_ri_m2, ab_ri_m3, ab_ri_m4, ab_ri_m5, ab_ri_m11, ab_ri_m13, ab_ri_m14, ab_ri_10, sp_isVector, ab_01n, ab_01z, c1, q]
theorem xc_product {a b : Int} (hs : ab_stat h) (J : ab_JC X Y h) (I : ab_XI X) (ha : ab_inR a) (hb : ab_inR b) (q : ∀ h', ab_eqo 6 67 h h' → ab_JC X Y h' → Q (some (vi (ab_s_prod X a b))) h' n) : ab_G 88 0 [some (vr 6), some (vi a), some (vi b), none] [] h n (0, 0) Q := by
  have J' := J
  obtain ⟨j1, j2, j3, j4, j5, j6, j7, j8, j9⟩ := J'
  obtain ⟨l, hvv, f, ws, bs, ⟨k1, k2, k3, k4, k5, k6⟩, k7, k8, k9, k10, k11⟩ := ab_now_o j2
  have hl := ab_lok_cg k7 I.1.1
  unfold ab_s_prod at q
  by_cases c1 : ab_isV a
  · by_cases c2 : ab_isV b
    · rw [if_pos ⟨c1, c2⟩] at q
      have vaA := ab_va_r (s := 7) (v := a) (by omega)
      have a6A : 6 ≤ ab_va 7 a := by omega
      obtain ⟨v1A, v2A⟩ := k4 a c1.1 (by omega)
      have v4A : a < ((4 : Nat) : Int) := by omega
      have v0A : 0 ≤ a := c1.1
      have v04A : 0 ≤ a ∧ a < 4 := ⟨v0A, by omega⟩
      have hhA := I.1.2.1 a v0A (by omega)
      have hxA := k8 a v0A (by omega)
      have hfA : ∀ i, 0 ≤ i → i < 7 → 0 ≤ f a i ∧ f a i ≤ 100 := fun i i0 i7 => by rw [k9 a i v0A (by omega) i0 i7]; exact I.1.2.2.1 _ (by omega) (by omega)
      have vaB := ab_va_r (s := 7) (v := b) (by omega)
      have a6B : 6 ≤ ab_va 7 b := by omega
      obtain ⟨v1B, v2B⟩ := k4 b c2.1 (by omega)
      have v4B : b < ((4 : Nat) : Int) := by omega
      have v0B : 0 ≤ b := c2.1
      have v04B : 0 ≤ b ∧ b < 4 := ⟨v0B, by omega⟩
      have hhB := I.1.2.1 b v0B (by omega)
      have hxB := k8 b v0B (by omega)
      have hfB : ∀ i, 0 ≤ i → i < 7 → 0 ≤ f b i ∧ f b i ≤ 100 := fun i i0 i7 => by rw [k9 b i v0B (by omega) i0 i7]; exact I.1.2.2.1 _ (by omega) (by omega)
      rw [← hxA, ← hxB] at q
      have hrA : ab_inR (hvv a) = True := eq_true (by omega)
      have hrB : ab_inR (hvv b) = True := eq_true (by omega)
      by_cases c4 : hvv a = hvv b
      · rw [if_pos c4] at q
        obtain ⟨B, A, F, Mv, top, ⟨d1, -⟩, -⟩ := id j4
        simp (disch := omega) only [s88_0, s88_1, s88_4, s88_7, s88_8, s88_11, s88_14, s88_15, s88_16, s88_17, s88_20, s88_23, s88_24, s88_25, s88_26, s88_27, s88_30, s88_31, s88_34, s88_37, s88_38, s88_39, s88_42, s88_45, s88_46, s88_47, s88_48, s88_51, s88_52, s88_55, s88_58, s88_59, s88_62, true_and, and_true, true_implies, Option.toList_some, Option.toList_none, List.nil_append, List.cons_append, List.map_nil, List.map_cons, List.sum_nil, List.sum_cons, Nat.zero_le, ab_nl_n, ab_nl_i, ab_nl_r, ab_nl_0, ab_cat_i, ab_cat_r, ab_cat_l, Nat.reduceAdd, Nat.reduceLeDiff, Nat.add_zero, Nat.zero_add, reduceIte, List.getElem?_cons_succ, List.getElem?_cons_zero, List.length_cons, List.length_nil, List.set_cons_zero, List.set_cons_succ, true_or, or_true, Classical.not_not, not_true_eq_false, not_false_eq_true, ab_01r, ab_01z, ab_01n, false_implies, ab_tt, Nat.reduceLT, Nat.reduceEqDiff, Int.reduceNeg, Int.reduceLT, Int.reduceLE, Int.add_zero, Int.zero_add, List.append_nil, Int.reduceEq, ab_sum1, ab_ri_0, ab_ri_1, ab_ri_2, ab_ri_3, ab_ri_4, ab_ri_5, ab_ri_6, ab_ri_7, ab_ri_8, ab_ri_12, ab_ri_30, ab_ri_60, ab_ri_100, ab_ri_101, ab_ri_127, ab_ri_m1, ab_ri_m2, ab_ri_m3, ab_ri_m4, ab_ri_m5, ab_ri_m11, ab_ri_m13, ab_ri_m14, ab_ri_10, sp_isVector, ab_01n, ab_01z, c1, c2, ab_fd, ab_ar, ab_vc, ab_sv_11_115, ab_sv_11_207, j1, k1, k3, v0A, v4A, v04A, a6A, v1A, v0B, v4B, v04B, a6B, v1B, hrA, hrB, eq_true c4, d1, Nat.reduceLeDiff]
        refine sp_build hs j4 (by decide) (by decide) k2 hl (by omega) fun h1 he lad => ?_
        have hs' := ab_stat_fr (by decide) he hs
        have q := q h1 (fun a ha => he a (by omega)) (ab_JC_lad he J lad)
        obtain ⟨B, A, F, Mv, top, ⟨d1, -⟩, -⟩ := id lad
        have e6 : h1 6 = some (ab_mn (X 5 3)) := (he 6 (by decide)).trans j1
        have e7 := (he 7 (by decide)).trans k1
        have e9 := (he 9 (by decide)).trans k3
        have w1 := (he (ab_va 7 a) (by omega)).trans v1A
        have w2 := (he (ab_vb 7 a) (by omega)).trans v2A
        have w3 := (he (ab_va 7 b) (by omega)).trans v1B
        have w4 := (he (ab_vb 7 b) (by omega)).trans v2B
        rw [← c4] at w3
        have hw := ab_wd_eq (lv := hvv a) (by omega) (by omega)
        simp only [s88_65, s88_66, s88_69, s88_70, s88_71, s88_74, s88_77, s88_78, s88_79, true_and, and_true, true_implies, Option.toList_some, Option.toList_none, List.nil_append, List.cons_append, List.map_nil, List.map_cons, List.sum_nil, List.sum_cons, Nat.zero_le, ab_nl_n, ab_nl_i, ab_nl_r, ab_nl_0, ab_cat_i, ab_cat_r, ab_cat_l, Nat.reduceAdd, Nat.reduceLeDiff, Nat.add_zero, Nat.zero_add, reduceIte, List.getElem?_cons_succ, List.getElem?_cons_zero, List.length_cons, List.length_nil, List.set_cons_zero, List.set_cons_succ, true_or, or_true, Classical.not_not, not_true_eq_false, not_false_eq_true, ab_01r, ab_01z, ab_01n, false_implies, ab_tt, Nat.reduceLT, Nat.reduceEqDiff, Int.reduceNeg, Int.reduceLT, Int.reduceLE, Int.add_zero, Int.zero_add, List.append_nil, Int.reduceEq, ab_sum1, ab_ri_0, ab_ri_1, ab_ri_2, ab_ri_3, ab_ri_4, ab_ri_5, ab_ri_6, ab_ri_7, ab_ri_8, ab_ri_12, ab_ri_30, ab_ri_60, ab_ri_100, ab_ri_101, ab_ri_127, ab_ri_m1, ab_ri_m2, ab_ri_m3, ab_ri_m4, ab_ri_m5, ab_ri_m11, ab_ri_m13, ab_ri_m14, ab_ri_10, ab_fd, ab_ar, ab_vc, ab_sv_11_115, ab_sv_11_207, e6, e7, e9, d1, v0B, v4B, v04B, Nat.reduceLeDiff]
        refine sp_productOf hs' lad a6A (by omega) a6B (by omega) w1 w2 w3 w4 (by omega) (by omega) hfA hfB ?_
        rw [ab_FT_cg k7, ab_pro_cg2 (g1 := ab_cv X a) (g2 := ab_cv X b) (fun j j0 j1 => k9 b j v0B (by omega) j0 (by omega)) _ (fun j j0 j1 => k9 a j v0A (by omega) j0 (by omega))]
        simp only [s88_82, true_and, and_true, true_implies, Option.toList_some, Option.toList_none, List.nil_append, List.cons_append, List.map_nil, List.map_cons, List.sum_nil, List.sum_cons, Nat.zero_le, ab_nl_n, ab_nl_i, ab_nl_r, ab_nl_0, ab_cat_i, ab_cat_r, ab_cat_l, Nat.reduceAdd, Nat.reduceLeDiff, Nat.add_zero, Nat.zero_add, reduceIte, List.getElem?_cons_succ, List.getElem?_cons_zero, List.length_cons, List.length_nil, List.set_cons_zero, List.set_cons_succ, true_or, or_true, Classical.not_not, not_true_eq_false, not_false_eq_true, ab_01r, ab_01z, ab_01n, false_implies, ab_tt, Nat.reduceLT, Nat.reduceEqDiff, Int.reduceNeg, Int.reduceLT, Int.reduceLE, Int.add_zero, Int.zero_add, List.append_nil, Int.reduceEq, ab_sum1, ab_ri_0, ab_ri_1, ab_ri_2, ab_ri_3, ab_ri_4, ab_ri_5, ab_ri_6, ab_ri_7, ab_ri_8, ab_ri_12, ab_ri_30, ab_ri_60, ab_ri_100, ab_ri_101, ab_ri_127, ab_ri_m1, ab_ri_m2, ab_ri_m3, ab_ri_m4, ab_ri_m5, ab_ri_m11, ab_ri_m13, ab_ri_m14, ab_ri_10, q]
      · rw [if_neg c4] at q
        have q := q h (fun _ _ => rfl) J
        simp (disch := omega) only [s88_0, s88_1, s88_4, s88_7, s88_8, s88_11, s88_14, s88_15, s88_16, s88_17, s88_20, s88_23, s88_24, s88_25, s88_26, s88_27, s88_30, s88_31, s88_34, s88_37, s88_38, s88_39, s88_42, s88_45, s88_46, true_and, and_true, true_implies, Option.toList_some, Option.toList_none, List.nil_append, List.cons_append, List.map_nil, List.map_cons, List.sum_nil, List.sum_cons, Nat.zero_le, ab_nl_n, ab_nl_i, ab_nl_r, ab_nl_0, ab_cat_i, ab_cat_r, ab_cat_l, Nat.reduceAdd, Nat.reduceLeDiff, Nat.add_zero, Nat.zero_add, reduceIte, List.getElem?_cons_succ, List.getElem?_cons_zero, List.length_cons, List.length_nil, List.set_cons_zero, List.set_cons_succ, true_or, or_true, Classical.not_not, not_true_eq_false, not_false_eq_true, ab_01r, ab_01z, ab_01n, false_implies, ab_tt, Nat.reduceLT, Nat.reduceEqDiff, Int.reduceNeg, Int.reduceLT, Int.reduceLE, Int.add_zero, Int.zero_add, List.append_nil, Int.reduceEq, ab_sum1, ab_ri_0, ab_ri_1, ab_ri_2, ab_ri_3, ab_ri_4, ab_ri_5, ab_ri_6, ab_ri_7, ab_ri_8, ab_ri_12, ab_ri_30, ab_ri_60, ab_ri_100, ab_ri_101, ab_ri_127, ab_ri_m1, ab_ri_m2, ab_ri_m3, ab_ri_m4, ab_ri_m5, ab_ri_m11, ab_ri_m13, ab_ri_m14, ab_ri_10, sp_isVector, ab_01n, ab_01z, c1, c2, ab_fd, ab_ar, j1, k1, k3, v0A, v4A, v04A, a6A, v1A, v0B, v4B, v04B, a6B, v1B, hrA, hrB, c4, Nat.reduceLeDiff, q]
    · rw [if_neg (fun z => c2 z.2)] at q
      have q := q h (fun _ _ => rfl) J
      simp (disch := omega) only [s88_0, s88_1, s88_4, s88_7, s88_8, s88_11, s88_14, s88_15, true_and, and_true, true_implies, Option.toList_some, Option.toList_none, List.nil_append, List.cons_append, List.map_nil, List.map_cons, List.sum_nil, List.sum_cons, Nat.zero_le, ab_nl_n, ab_nl_i, ab_nl_r, ab_nl_0, ab_cat_i, ab_cat_r, ab_cat_l, Nat.reduceAdd, Nat.reduceLeDiff, Nat.add_zero, Nat.zero_add, reduceIte, List.getElem?_cons_succ, List.getElem?_cons_zero, List.length_cons, List.length_nil, List.set_cons_zero, List.set_cons_succ, true_or, or_true, Classical.not_not, not_true_eq_false, not_false_eq_true, ab_01r, ab_01z, ab_01n, false_implies, ab_tt, Nat.reduceLT, Nat.reduceEqDiff, Int.reduceNeg, Int.reduceLT, Int.reduceLE, Int.add_zero, Int.zero_add, List.append_nil, Int.reduceEq, ab_sum1, ab_ri_0, ab_ri_1, ab_ri_2, ab_ri_3, ab_ri_4, ab_ri_5, ab_ri_6, ab_ri_7, ab_ri_8, ab_ri_12, ab_ri_30, ab_ri_60, ab_ri_100, ab_ri_101, ab_ri_127, ab_ri_m1, ab_ri_m2, ab_ri_m3, ab_ri_m4, ab_ri_m5, ab_ri_m11, ab_ri_m13, ab_ri_m14, ab_ri_10, sp_isVector, ab_01n, ab_01z, c1, c2, q]
  · rw [if_neg (fun z => c1 z.1)] at q
    have q := q h (fun _ _ => rfl) J
    simp (disch := omega) only [s88_0, s88_1, s88_4, s88_7, s88_8, s88_11, s88_14, s88_15, true_and, and_true, true_implies, Option.toList_some, Option.toList_none, List.nil_append, List.cons_append, List.map_nil, List.map_cons, List.sum_nil, List.sum_cons, Nat.zero_le, ab_nl_n, ab_nl_i, ab_nl_r, ab_nl_0, ab_cat_i, ab_cat_r, ab_cat_l, Nat.reduceAdd, Nat.reduceLeDiff, Nat.add_zero, Nat.zero_add, reduceIte, List.getElem?_cons_succ, List.getElem?_cons_zero, List.length_cons, List.length_nil, List.set_cons_zero, List.set_cons_succ, true_or, or_true, Classical.not_not, not_true_eq_false, not_false_eq_true, ab_01r, ab_01z, ab_01n, false_implies, ab_tt, Nat.reduceLT, Nat.reduceEqDiff, Int.reduceNeg, Int.reduceLT, Int.reduceLE, Int.add_zero, Int.zero_add, List.append_nil, Int.reduceEq, ab_sum1, ab_ri_0, ab_ri_1, ab_ri_2, ab_ri_3, ab_ri_4, ab_ri_5, ab_ri_6, ab_ri_7, ab_ri_8, ab_ri_12, ab_ri_30, ab_ri_60, ab_ri_100, ab_ri_101, ab_ri_127, ab_ri_m1, ab_ri_m2, ab_ri_m3, ab_ri_m4, ab_ri_m5, ab_ri_m11, ab_ri_m13, ab_ri_m14, ab_ri_10, sp_isVector, ab_01n, ab_01z, c1, q]
theorem xc_low {v : Int} (hs : ab_stat h) (J : ab_JC X Y h) (I : ab_XI X) (hv : ab_inR v) (q : ∀ h', ab_eqo 6 67 h h' → ab_JC X Y h' → Q (some (vi (ab_s_low X v))) h' n) : ab_G 89 0 [some (vr 6), some (vi v), none, none] [] h n (0, 0) Q := by
  have J' := J
  obtain ⟨j1, j2, j3, j4, j5, j6, j7, j8, j9⟩ := J'
  obtain ⟨l, hvv, f, ws, bs, ⟨k1, k2, k3, k4, k5, k6⟩, k7, k8, k9, k10, k11⟩ := ab_now_o j2
  have hl := ab_lok_cg k7 I.1.1
  unfold ab_s_low at q
  by_cases c1 : ab_isV v
  · have va := ab_va_r (s := 7) (v := v) (by omega)
    have a6 : 6 ≤ ab_va 7 v := by omega
    obtain ⟨v1, v2⟩ := k4 v c1.1 (by omega)
    have v4 : v < ((4 : Nat) : Int) := by omega
    have v0 : 0 ≤ v := c1.1
    have v04 : 0 ≤ v ∧ v < 4 := ⟨v0, by omega⟩
    have hh := I.1.2.1 v v0 (by omega)
    have hx := k8 v v0 (by omega)
    have hf : ∀ i, 0 ≤ i → i < 7 → 0 ≤ f v i ∧ f v i ≤ 100 := fun i i0 i7 => by rw [k9 v i v0 (by omega) i0 i7]; exact I.1.2.2.1 _ (by omega) (by omega)
    rw [if_pos c1, ← hx] at q
    obtain ⟨B, A, F, Mv, top, ⟨d1, -⟩, -⟩ := id j4
    simp (disch := omega) only [s89_0, s89_1, s89_4, s89_7, s89_8, s89_9, s89_10, s89_13, s89_16, s89_17, s89_18, s89_19, s89_20, s89_23, s89_24, s89_27, s89_30, s89_31, s89_34, true_and, and_true, true_implies, Option.toList_some, Option.toList_none, List.nil_append, List.cons_append, List.map_nil, List.map_cons, List.sum_nil, List.sum_cons, Nat.zero_le, ab_nl_n, ab_nl_i, ab_nl_r, ab_nl_0, ab_cat_i, ab_cat_r, ab_cat_l, Nat.reduceAdd, Nat.reduceLeDiff, Nat.add_zero, Nat.zero_add, reduceIte, List.getElem?_cons_succ, List.getElem?_cons_zero, List.length_cons, List.length_nil, List.set_cons_zero, List.set_cons_succ, true_or, or_true, Classical.not_not, not_true_eq_false, not_false_eq_true, ab_01r, ab_01z, ab_01n, false_implies, ab_tt, Nat.reduceLT, Nat.reduceEqDiff, Int.reduceNeg, Int.reduceLT, Int.reduceLE, Int.add_zero, Int.zero_add, List.append_nil, Int.reduceEq, ab_sum1, ab_ri_0, ab_ri_1, ab_ri_2, ab_ri_3, ab_ri_4, ab_ri_5, ab_ri_6, ab_ri_7, ab_ri_8, ab_ri_12, ab_ri_30, ab_ri_60, ab_ri_100, ab_ri_101, ab_ri_127, ab_ri_m1, ab_ri_m2, ab_ri_m3, ab_ri_m4, ab_ri_m5, ab_ri_m11, ab_ri_m13, ab_ri_m14, ab_ri_10, sp_isVector, ab_01n, ab_01z, c1, ab_fd, ab_ar, ab_vc, ab_sv_11_115, ab_sv_11_180, ab_sv_11_200, ab_sv_11_211, j1, k1, k3, v0, v4, v04, a6, v1, d1, Nat.reduceLeDiff]
    refine sp_build hs j4 (by decide) (by decide) k2 hl (by omega) fun h1 he lad => ?_
    simp only [s89_37, s89_38, true_and, and_true, true_implies, Option.toList_some, Option.toList_none, List.nil_append, List.cons_append, List.map_nil, List.map_cons, List.sum_nil, List.sum_cons, Nat.zero_le, ab_nl_n, ab_nl_i, ab_nl_r, ab_nl_0, ab_cat_i, ab_cat_r, ab_cat_l, Nat.reduceAdd, Nat.reduceLeDiff, Nat.add_zero, Nat.zero_add, reduceIte, List.getElem?_cons_succ, List.getElem?_cons_zero, List.length_cons, List.length_nil, List.set_cons_zero, List.set_cons_succ, true_or, or_true, Classical.not_not, not_true_eq_false, not_false_eq_true, ab_01r, ab_01z, ab_01n, false_implies, ab_tt, Nat.reduceLT, Nat.reduceEqDiff, Int.reduceNeg, Int.reduceLT, Int.reduceLE, Int.add_zero, Int.zero_add, List.append_nil, Int.reduceEq, ab_sum1, ab_ri_0, ab_ri_1, ab_ri_2, ab_ri_3, ab_ri_4, ab_ri_5, ab_ri_6, ab_ri_7, ab_ri_8, ab_ri_12, ab_ri_30, ab_ri_60, ab_ri_100, ab_ri_101, ab_ri_127, ab_ri_m1, ab_ri_m2, ab_ri_m3, ab_ri_m4, ab_ri_m5, ab_ri_m11, ab_ri_m13, ab_ri_m14, ab_ri_10]
    have hhr : ab_inR (hvv v) = True := eq_true (by omega)
    have key := ab_dn (P := fun m => ∀ h', (∀ a, (a < 33 ∨ (46 < a ∧ a < 58) ∨ 59 < a) → h' a = h a) → ab_lad h' l (hvv v) → (∃ t g, h' 58 = some (ab_vec 59 t) ∧ h' 59 = some (ab_ia 7 g)) → (∀ h', ab_eqo 6 67 h h' → ab_JC X Y h' → Q (some (vi (ab_lo (ab_AT (X 0)) (ab_cv X v) (hvv v) m (hvv v + 1 - m).toNat))) h' n) → ab_G 89 39 [some (vr 6), some (vi v), some (vr (ab_va 7 v)), some (vi m)] [] h' n (0, 0) Q) (a := 1) (e := hvv v + 1) (by omega) ?_ ?_
    · obtain ⟨t1, t2, g1, g2, s1, s2, s3, s4⟩ := j8
      exact key h1 (fun a ha => he a (by omega)) lad ⟨t1, g1, (he 58 (by decide)).trans s1, (he 59 (by decide)).trans s2⟩ (by rw [show hvv v + 1 - 1 = hvv v by omega]; exact q)
    · intro h2 e2 lad2 ht q
      rw [Int.sub_self, show (0 : Int).toNat = 0 from rfl, ab_lo] at q
      obtain ⟨t1, t2, g1, g2, s1, s2, s3, s4⟩ := j8
      obtain ⟨t, g, b1, b2⟩ := ht
      have q := q h2 (fun a ha => e2 a (by omega)) (ab_JC_scr (fun a ha => e2 a (by omega)) J (ab_lad_any lad2) (ab_swp_fr (fun a _ _ => e2 a (by omega)) j5) ⟨t, t2, g, g2, b1, b2, (e2 60 (by decide)).trans s3, (e2 61 (by decide)).trans s4⟩)
      have w1 := (e2 (ab_va 7 v) (by omega)).trans v1
      have c2 : hvv v < hvv v + 1 := by omega
      rw [s89_39]
      simp only [s89_40, s89_41, s89_44, s89_85, s89_86, true_and, and_true, true_implies, Option.toList_some, Option.toList_none, List.nil_append, List.cons_append, List.map_nil, List.map_cons, List.sum_nil, List.sum_cons, Nat.zero_le, ab_nl_n, ab_nl_i, ab_nl_r, ab_nl_0, ab_cat_i, ab_cat_r, ab_cat_l, Nat.reduceAdd, Nat.reduceLeDiff, Nat.add_zero, Nat.zero_add, reduceIte, List.getElem?_cons_succ, List.getElem?_cons_zero, List.length_cons, List.length_nil, List.set_cons_zero, List.set_cons_succ, true_or, or_true, Classical.not_not, not_true_eq_false, not_false_eq_true, ab_01r, ab_01z, ab_01n, false_implies, ab_tt, Nat.reduceLT, Nat.reduceEqDiff, Int.reduceNeg, Int.reduceLT, Int.reduceLE, Int.add_zero, Int.zero_add, List.append_nil, Int.reduceEq, ab_sum1, ab_ri_0, ab_ri_1, ab_ri_2, ab_ri_3, ab_ri_4, ab_ri_5, ab_ri_6, ab_ri_7, ab_ri_8, ab_ri_12, ab_ri_30, ab_ri_60, ab_ri_100, ab_ri_101, ab_ri_127, ab_ri_m1, ab_ri_m2, ab_ri_m3, ab_ri_m4, ab_ri_m5, ab_ri_m11, ab_ri_m13, ab_ri_m14, ab_ri_10, ab_fd, w1, a6, hhr, c2, q] <;> omega
    · intro m m0 m9 ih h2 e2 lad2 ht q
      have em : (hvv v + 1 - m).toNat = (hvv v + 1 - (m + 1)).toNat + 1 := by omega
      rw [em, ab_lo] at q
      obtain ⟨t, g, b1, b2⟩ := ht
      have c2 : ¬ hvv v < m := by omega
      have hmr : ab_inR m = True := eq_true (by omega)
      have e6 : h2 6 = some (ab_mn (X 5 3)) := (e2 6 (by decide)).trans j1
      have w1 := (e2 (ab_va 7 v) (by omega)).trans v1
      have w2 := (e2 (ab_vb 7 v) (by omega)).trans v2
      have hs2 : ab_stat h2 := ⟨(e2 1 (by decide)).trans hs.1, (e2 2 (by decide)).trans hs.2.1, (e2 3 (by decide)).trans hs.2.2.1, (e2 4 (by decide)).trans hs.2.2.2.1, (e2 5 (by decide)).trans hs.2.2.2.2⟩
      rw [s89_39]
      simp only [s89_40, s89_41, s89_44, s89_47, s89_48, s89_51, s89_52, true_and, and_true, true_implies, Option.toList_some, Option.toList_none, List.nil_append, List.cons_append, List.map_nil, List.map_cons, List.sum_nil, List.sum_cons, Nat.zero_le, ab_nl_n, ab_nl_i, ab_nl_r, ab_nl_0, ab_cat_i, ab_cat_r, ab_cat_l, Nat.reduceAdd, Nat.reduceLeDiff, Nat.add_zero, Nat.zero_add, reduceIte, List.getElem?_cons_succ, List.getElem?_cons_zero, List.length_cons, List.length_nil, List.set_cons_zero, List.set_cons_succ, true_or, or_true, Classical.not_not, not_true_eq_false, not_false_eq_true, ab_01r, ab_01z, ab_01n, false_implies, ab_tt, Nat.reduceLT, Nat.reduceEqDiff, Int.reduceNeg, Int.reduceLT, Int.reduceLE, Int.add_zero, Int.zero_add, List.append_nil, Int.reduceEq, ab_sum1, ab_ri_0, ab_ri_1, ab_ri_2, ab_ri_3, ab_ri_4, ab_ri_5, ab_ri_6, ab_ri_7, ab_ri_8, ab_ri_12, ab_ri_30, ab_ri_60, ab_ri_100, ab_ri_101, ab_ri_127, ab_ri_m1, ab_ri_m2, ab_ri_m3, ab_ri_m4, ab_ri_m5, ab_ri_m11, ab_ri_m13, ab_ri_m14, ab_ri_10, ab_fd, ab_vc, ab_sv_11_115, ab_sv_11_180, ab_sv_11_200, ab_sv_11_211, e6, w1, b1, a6, hhr, hmr, c2, Nat.reduceLeDiff]
      refine sp_vecCopy (by decide) (by decide) a6 (by omega) (by decide) (by omega) (by omega) (by omega) (by omega) b1 b2 w1 w2 ?_
      have fr3 : ∀ a, a ≠ 58 → a ≠ 59 → ab_hs (ab_hs h2 58 (ab_vec 59 (hvv v))) 59 (ab_ia 7 (ab_fi (f v) g 0 7)) a = h2 a := fun a g1 g2 => (ab_hs_ne g2).trans (ab_hs_ne g1)
      have lad3 := ab_lad_fr (h' := ab_hs (ab_hs h2 58 (ab_vec 59 (hvv v))) 59 (ab_ia 7 (ab_fi (f v) g 0 7))) (fun a _ _ => fr3 a (by omega) (by omega)) lad2
      have hs3 : ab_stat (ab_hs (ab_hs h2 58 (ab_vec 59 (hvv v))) 59 (ab_ia 7 (ab_fi (f v) g 0 7))) := ab_stat_hs (by decide) (ab_stat_hs (by decide) hs2)
      have x58 : ab_hs (ab_hs h2 58 (ab_vec 59 (hvv v))) 59 (ab_ia 7 (ab_fi (f v) g 0 7)) 58 = some (ab_vec 59 (hvv v)) := (ab_hs_ne (by decide)).trans ab_hs_self
      have x6 := (fr3 6 (by decide) (by decide)).trans e6
      obtain ⟨B, A, F, Mv, top, ⟨d1, -⟩, -⟩ := id lad3
      simp only [s89_55, s89_56, s89_59, s89_60, s89_63, s89_64, true_and, and_true, true_implies, Option.toList_some, Option.toList_none, List.nil_append, List.cons_append, List.map_nil, List.map_cons, List.sum_nil, List.sum_cons, Nat.zero_le, ab_nl_n, ab_nl_i, ab_nl_r, ab_nl_0, ab_cat_i, ab_cat_r, ab_cat_l, Nat.reduceAdd, Nat.reduceLeDiff, Nat.add_zero, Nat.zero_add, reduceIte, List.getElem?_cons_succ, List.getElem?_cons_zero, List.length_cons, List.length_nil, List.set_cons_zero, List.set_cons_succ, true_or, or_true, Classical.not_not, not_true_eq_false, not_false_eq_true, ab_01r, ab_01z, ab_01n, false_implies, ab_tt, Nat.reduceLT, Nat.reduceEqDiff, Int.reduceNeg, Int.reduceLT, Int.reduceLE, Int.add_zero, Int.zero_add, List.append_nil, Int.reduceEq, ab_sum1, ab_ri_0, ab_ri_1, ab_ri_2, ab_ri_3, ab_ri_4, ab_ri_5, ab_ri_6, ab_ri_7, ab_ri_8, ab_ri_12, ab_ri_30, ab_ri_60, ab_ri_100, ab_ri_101, ab_ri_127, ab_ri_m1, ab_ri_m2, ab_ri_m3, ab_ri_m4, ab_ri_m5, ab_ri_m11, ab_ri_m13, ab_ri_m14, ab_ri_10, ab_fd, ab_vc, ab_sv_11_115, ab_sv_11_180, ab_sv_11_200, ab_sv_11_211, x6, d1, Nat.reduceLeDiff]
      refine sp_move hs3 lad3 ⟨by decide, by decide⟩ ⟨by decide, by decide⟩ (by decide) x58 ab_hs_self ⟨by omega, Int.le_refl _⟩ ⟨by omega, by omega⟩ (by omega) (fun i i0 i7 => by rw [ab_fi_lo ⟨i0, i7⟩]; exact hf i i0 i7) fun h4 e4 y1 y2 lad4 => ?_
      have y6 := (e4 6 (by decide) (by decide) (by decide)).trans x6
      have fr4 : ∀ a, (a < 33 ∨ (46 < a ∧ a < 58) ∨ 59 < a) → h4 a = h a := fun a ha => (e4 a (by omega) (by omega) (by omega)).trans ((fr3 a (by omega) (by omega)).trans (e2 a ha))
      have enz : ab_nz (ab_fi (ab_mv (ab_AT l) (ab_fi (f v) g 0 7) (hvv v) (hvv v - m)) (ab_fi (f v) g 0 7) 0 7) 7 = ab_nz (ab_mv (ab_AT (X 0)) (ab_cv X v) (hvv v) (hvv v - m)) 7 := by
        refine ab_nz_cg 7 fun i i0 i7 => ?_
        have i7 : i < 7 := i7
        rw [ab_fi_lo ⟨i0, i7⟩, ab_AT_cg k7, ab_mv_cg (g := ab_cv X v) (by omega) (fun i i0 i7 => by rw [ab_fi_lo ⟨i0, i7⟩]; exact k9 v i v0 (by omega) i0 i7)]
      simp only [s89_67, s89_68, s89_71, true_and, and_true, true_implies, Option.toList_some, Option.toList_none, List.nil_append, List.cons_append, List.map_nil, List.map_cons, List.sum_nil, List.sum_cons, Nat.zero_le, ab_nl_n, ab_nl_i, ab_nl_r, ab_nl_0, ab_cat_i, ab_cat_r, ab_cat_l, Nat.reduceAdd, Nat.reduceLeDiff, Nat.add_zero, Nat.zero_add, reduceIte, List.getElem?_cons_succ, List.getElem?_cons_zero, List.length_cons, List.length_nil, List.set_cons_zero, List.set_cons_succ, true_or, or_true, Classical.not_not, not_true_eq_false, not_false_eq_true, ab_01r, ab_01z, ab_01n, false_implies, ab_tt, Nat.reduceLT, Nat.reduceEqDiff, Int.reduceNeg, Int.reduceLT, Int.reduceLE, Int.add_zero, Int.zero_add, List.append_nil, Int.reduceEq, ab_sum1, ab_ri_0, ab_ri_1, ab_ri_2, ab_ri_3, ab_ri_4, ab_ri_5, ab_ri_6, ab_ri_7, ab_ri_8, ab_ri_12, ab_ri_30, ab_ri_60, ab_ri_100, ab_ri_101, ab_ri_127, ab_ri_m1, ab_ri_m2, ab_ri_m3, ab_ri_m4, ab_ri_m5, ab_ri_m11, ab_ri_m13, ab_ri_m14, ab_ri_10, ab_fd, ab_vc, ab_sv_11_115, ab_sv_11_180, ab_sv_11_200, ab_sv_11_211, y6, y1, Nat.reduceLeDiff]
      refine sp_isZero (by decide) (by decide) y1 y2 (fun i i0 i7 => by rw [ab_fi_lo ⟨i0, i7⟩]; exact ab_mv_r) ?_
      rw [enz]
      by_cases c3 : ab_nz (ab_mv (ab_AT (X 0)) (ab_cv X v) (hvv v) (hvv v - m)) 7 = 0
      · rw [if_pos c3] at q
        rw [if_pos c3]
        have ih := ih h4 fr4 lad4 ⟨_, _, y1, y2⟩ q
        simp only [s89_74, s89_77, s89_78, s89_79, s89_82, true_and, and_true, true_implies, Option.toList_some, Option.toList_none, List.nil_append, List.cons_append, List.map_nil, List.map_cons, List.sum_nil, List.sum_cons, Nat.zero_le, ab_nl_n, ab_nl_i, ab_nl_r, ab_nl_0, ab_cat_i, ab_cat_r, ab_cat_l, Nat.reduceAdd, Nat.reduceLeDiff, Nat.add_zero, Nat.zero_add, reduceIte, List.getElem?_cons_succ, List.getElem?_cons_zero, List.length_cons, List.length_nil, List.set_cons_zero, List.set_cons_succ, true_or, or_true, Classical.not_not, not_true_eq_false, not_false_eq_true, ab_01r, ab_01z, ab_01n, false_implies, ab_tt, Nat.reduceLT, Nat.reduceEqDiff, Int.reduceNeg, Int.reduceLT, Int.reduceLE, Int.add_zero, Int.zero_add, List.append_nil, Int.reduceEq, ab_sum1, ab_ri_0, ab_ri_1, ab_ri_2, ab_ri_3, ab_ri_4, ab_ri_5, ab_ri_6, ab_ri_7, ab_ri_8, ab_ri_12, ab_ri_30, ab_ri_60, ab_ri_100, ab_ri_101, ab_ri_127, ab_ri_m1, ab_ri_m2, ab_ri_m3, ab_ri_m4, ab_ri_m5, ab_ri_m11, ab_ri_m13, ab_ri_m14, ab_ri_10, ih] <;> omega
      · rw [if_neg c3] at q
        rw [if_neg c3]
        obtain ⟨t1, t2, g1, g2, s1, s2, s3, s4⟩ := j8
        have q := q h4 (fun a ha => fr4 a (by omega)) (ab_JC_scr (fun a ha => fr4 a (by omega)) J (ab_lad_any lad4) (ab_swp_fr (fun a _ _ => fr4 a (by omega)) j5) ⟨_, t2, _, g2, y1, y2, (fr4 60 (by decide)).trans s3, (fr4 61 (by decide)).trans s4⟩)
        simp only [s89_74, s89_77, s89_78, true_and, and_true, true_implies, Option.toList_some, Option.toList_none, List.nil_append, List.cons_append, List.map_nil, List.map_cons, List.sum_nil, List.sum_cons, Nat.zero_le, ab_nl_n, ab_nl_i, ab_nl_r, ab_nl_0, ab_cat_i, ab_cat_r, ab_cat_l, Nat.reduceAdd, Nat.reduceLeDiff, Nat.add_zero, Nat.zero_add, reduceIte, List.getElem?_cons_succ, List.getElem?_cons_zero, List.length_cons, List.length_nil, List.set_cons_zero, List.set_cons_succ, true_or, or_true, Classical.not_not, not_true_eq_false, not_false_eq_true, ab_01r, ab_01z, ab_01n, false_implies, ab_tt, Nat.reduceLT, Nat.reduceEqDiff, Int.reduceNeg, Int.reduceLT, Int.reduceLE, Int.add_zero, Int.zero_add, List.append_nil, Int.reduceEq, ab_sum1, ab_ri_0, ab_ri_1, ab_ri_2, ab_ri_3, ab_ri_4, ab_ri_5, ab_ri_6, ab_ri_7, ab_ri_8, ab_ri_12, ab_ri_30, ab_ri_60, ab_ri_100, ab_ri_101, ab_ri_127, ab_ri_m1, ab_ri_m2, ab_ri_m3, ab_ri_m4, ab_ri_m5, ab_ri_m11, ab_ri_m13, ab_ri_m14, ab_ri_10, q] <;> omega
  · rw [if_neg c1] at q
    have q := q h (fun _ _ => rfl) J
    simp (disch := omega) only [s89_0, s89_1, s89_4, s89_7, s89_8, true_and, and_true, true_implies, Option.toList_some, Option.toList_none, List.nil_append, List.cons_append, List.map_nil, List.map_cons, List.sum_nil, List.sum_cons, Nat.zero_le, ab_nl_n, ab_nl_i, ab_nl_r, ab_nl_0, ab_cat_i, ab_cat_r, ab_cat_l, Nat.reduceAdd, Nat.reduceLeDiff, Nat.add_zero, Nat.zero_add, reduceIte, List.getElem?_cons_succ, List.getElem?_cons_zero, List.length_cons, List.length_nil, List.set_cons_zero, List.set_cons_succ, true_or, or_true, Classical.not_not, not_true_eq_false, not_false_eq_true, ab_01r, ab_01z, ab_01n, false_implies, ab_tt, Nat.reduceLT, Nat.reduceEqDiff, Int.reduceNeg, Int.reduceLT, Int.reduceLE, Int.add_zero, Int.zero_add, List.append_nil, Int.reduceEq, ab_sum1, ab_ri_0, ab_ri_1, ab_ri_2, ab_ri_3, ab_ri_4, ab_ri_5, ab_ri_6, ab_ri_7, ab_ri_8, ab_ri_12, ab_ri_30, ab_ri_60, ab_ri_100, ab_ri_101, ab_ri_127, ab_ri_m1, ab_ri_m2, ab_ri_m3, ab_ri_m4, ab_ri_m5, ab_ri_m11, ab_ri_m13, ab_ri_m14, ab_ri_10, sp_isVector, ab_01n, ab_01z, c1, q]
end JE
