/-! ===== the object's cells and what they tell ===== -/
abbrev ab_X : Type := Nat → Int → Int
abbrev ab_eqf (m : Int) (f g : Int → Int) : Prop := ∀ j, 0 ≤ j → j < m → f j = g j
def ab_up (X : ab_X) (k : Nat) (f : Int → Int) : ab_X := fun i => if i = k then f else X i
abbrev ab_rok (w b : Int) : Prop := (w = 0 ∧ -5 ≤ b ∧ b ≤ 5) ∨ (w = 1 ∧ 0 ≤ b ∧ b ≤ 100) ∨ (w = 2 ∧ 0 ≤ b ∧ b ≤ 3)
def ab_VI (L hv co w b : Int → Int) (r : Int) : Prop := ab_lok L ∧ (∀ v, 0 ≤ v → v < 4 → 0 ≤ hv v ∧ hv v ≤ 5) ∧ (∀ i, 0 ≤ i → i < 28 → 0 ≤ co i ∧ co i ≤ 100) ∧ (0 ≤ r ∧ r ≤ 8) ∧ ∀ i, 0 ≤ i → i < r → ab_rok (w i) (b i)
/-- banks: 0 law, 1 levels, 2 coordinates, 3 and 4 rows, 5 rows' number, tape's, paper's, image; 6 tape, 7 paper, 8 lists' sizes; 10 .. 15 image -/
def ab_XI (X : ab_X) : Prop := ab_VI (X 0) (X 1) (X 2) (X 3) (X 4) (X 5 0) ∧ (0 ≤ X 5 1 ∧ X 5 1 ≤ 60) ∧ (∀ i, 0 ≤ i → i < X 5 1 → 1 ≤ X 6 i ∧ X 6 i ≤ 127) ∧ (0 ≤ X 5 2 ∧ X 5 2 ≤ 94) ∧ (∀ i, 0 ≤ i → i < X 5 2 → 0 ≤ X 7 i ∧ X 7 i ≤ 127) ∧ (X 5 3 = 0 ∨ X 5 3 = 1) ∧ (∀ l, 0 ≤ l → l < 4 → -1 ≤ X 8 l ∧ X 8 l ≤ 12) ∧ (X 5 3 = 1 → ab_VI (X 10) (X 11) (X 12) (X 13) (X 14) (X 15 0))
def ab_va (s : Nat) (v : Int) : Nat := s + 3 + 2 * v.toNat
def ab_vb (s : Nat) (v : Int) : Nat := s + 4 + 2 * v.toNat
theorem ab_va_r {s : Nat} {v : Int} (h : v < 4) : s + 3 ≤ ab_va s v ∧ ab_va s v ≤ s + 9 ∧ ab_vb s v = ab_va s v + 1 := by
  unfold ab_va ab_vb
  omega
theorem ab_va_ne {s : Nat} {v w : Int} (h0 : 0 ≤ v) (h1 : 0 ≤ w) (h : v ≠ w) : ab_va s v ≠ ab_va s w ∧ ab_va s v ≠ ab_vb s w ∧ ab_vb s v ≠ ab_va s w ∧ ab_vb s v ≠ ab_vb s w := by
  unfold ab_va ab_vb
  omega
/-- a State at s -/
def ab_stx (h : ab_H) (s : Nat) (l hv : Int → Int) (f : Int → Int → Int) (w b : Int → Int) (r : Int) : Prop :=
  h s = some (.inl (4, [vr (s + 1), vr (s + 2), vr (s + 11), vr (s + 12), vi r])) ∧ h (s + 1) = some (ab_ia 4 l) ∧ h (s + 2) = some (.inr (.inr (.inr (4, 4, fun i => if 0 ≤ i ∧ i < 4 then some (ab_va s i) else none)))) ∧
  (∀ v, 0 ≤ v → v < 4 → h (ab_va s v) = some (ab_vec (ab_vb s v) (hv v)) ∧ h (ab_vb s v) = some (ab_ia 7 (f v))) ∧ h (s + 11) = some (ab_ia 8 w) ∧ h (s + 12) = some (ab_ia 8 b)
def ab_sta (h : ab_H) (s : Nat) (L hv co w b : Int → Int) (r : Int) : Prop := ∃ l hv' f w' b', ab_stx h s l hv' f w' b' r ∧ ab_eqf 4 l L ∧ ab_eqf 4 hv' hv ∧ (∀ v i, 0 ≤ v → v < 4 → 0 ≤ i → i < 7 → f v i = co (7 * v + i)) ∧ ab_eqf 8 w' w ∧ ab_eqf 8 b' b
def ab_now (h : ab_H) (X : ab_X) : Prop := ab_sta h 7 (X 0) (X 1) (X 2) (X 3) (X 4) (X 5 0)
def ab_kep (h : ab_H) (X : ab_X) : Prop := ∃ l hv f w b r, ab_stx h 20 l hv f w b r ∧ (X 5 3 = 1 → ab_sta h 20 (X 10) (X 11) (X 12) (X 13) (X 14) (X 15 0))
def ab_tap (h : ab_H) (X : ab_X) : Prop := ∃ p nu mc f g, h 52 = some (ab_txt 54 (X 5 1) p nu 53 mc) ∧ h 53 = some (ab_ia 30 g) ∧ h 54 = some (ab_ba 60 f) ∧ ∀ i, 0 ≤ i → i < X 5 1 → f i = X 6 i
def ab_pag (h : ab_H) (X : ab_X) : Prop := ∃ p nu mc f g, h 55 = some (ab_txt 57 (X 5 2) p nu 56 mc) ∧ h 56 = some (ab_ia 30 g) ∧ h 57 = some (ab_ba 94 f) ∧ ∀ i, 0 ≤ i → i < X 5 2 → f i = X 7 i
def ab_scr (h : ab_H) : Prop := ∃ h1 h2 f g, h 58 = some (ab_vec 59 h1) ∧ h 59 = some (ab_ia 7 f) ∧ h 60 = some (ab_vec 61 h2) ∧ h 61 = some (ab_ia 7 g)
def ab_lis (h : ab_H) (X : ab_X) (Y : Int → Int64) : Prop := ∃ sz, ∃ c : Int → Int → Int64, h 62 = some (.inr (.inr (.inr (6, 4, fun i => if 0 ≤ i ∧ i < 4 then some (63 + i.toNat) else none)))) ∧ (∀ l, 0 ≤ l → l < 4 → h (63 + l.toNat) = some (.inr (.inr (.inl (12, c l))))) ∧ h 67 = some (ab_ia 4 sz) ∧ ab_eqf 4 sz (X 8) ∧ ∀ l i, 0 ≤ l → l < 4 → 0 ≤ i → i < 12 → c l i = Y (12 * l + i)
abbrev ab_mn (hi : Int) : ab_C := .inl (11, [vr 7, vr 20, vi hi, vr 33, vr 47, vr 52, vr 55, vr 58, vr 60, vr 62, vr 67])
def ab_JC (X : ab_X) (Y : Int → Int64) (h : ab_H) : Prop := h 6 = some (ab_mn (X 5 3)) ∧ ab_now h X ∧ ab_kep h X ∧ ab_lad h (X 0) (-1) ∧ ab_swp h ∧ ab_tap h X ∧ ab_pag h X ∧ ab_scr h ∧ ab_lis h X Y
theorem ab_stx_fr {h h' : ab_H} {s : Nat} {l hv : Int → Int} {f : Int → Int → Int} {w b : Int → Int} {r : Int} (he : ∀ a, s ≤ a → a ≤ s + 12 → h' a = h a) (k : ab_stx h s l hv f w b r) : ab_stx h' s l hv f w b r := by
  obtain ⟨k1, k2, k3, k4, k5, k6⟩ := k
  refine ⟨(he s (by omega) (by omega)).trans k1, (he _ (by omega) (by omega)).trans k2, (he _ (by omega) (by omega)).trans k3, fun v v0 v4 => ?_, (he _ (by omega) (by omega)).trans k5, (he _ (by omega) (by omega)).trans k6⟩
  have := ab_va_r (s := s) v4
  exact ⟨(he _ (by omega) (by omega)).trans (k4 v v0 v4).1, (he _ (by omega) (by omega)).trans (k4 v v0 v4).2⟩
theorem ab_sta_fr {h h' : ab_H} {s : Nat} {L hv co w b : Int → Int} {r : Int} (he : ∀ a, s ≤ a → a ≤ s + 12 → h' a = h a) (k : ab_sta h s L hv co w b r) : ab_sta h' s L hv co w b r := by
  obtain ⟨l, hv', f, w', b', k1, k2⟩ := k
  exact ⟨l, hv', f, w', b', ab_stx_fr he k1, k2⟩
theorem ab_now_fr {h h' : ab_H} {X : ab_X} (he : ∀ a, 7 ≤ a → a ≤ 19 → h' a = h a) (k : ab_now h X) : ab_now h' X := ab_sta_fr he k
theorem ab_kep_fr {h h' : ab_H} {X : ab_X} (he : ∀ a, 20 ≤ a → a ≤ 32 → h' a = h a) (k : ab_kep h X) : ab_kep h' X := by
  obtain ⟨l, hv, f, w, b, r, k1, k2⟩ := k
  exact ⟨l, hv, f, w, b, r, ab_stx_fr he k1, fun z => ab_sta_fr he (k2 z)⟩
theorem ab_tap_fr {h h' : ab_H} {X : ab_X} (he : ∀ a, 52 ≤ a → a ≤ 54 → h' a = h a) (k : ab_tap h X) : ab_tap h' X := by
  obtain ⟨p, nu, mc, f, g, k1, k2, k3, k4⟩ := k
  exact ⟨p, nu, mc, f, g, (he 52 (by decide) (by decide)).trans k1, (he 53 (by decide) (by decide)).trans k2, (he 54 (by decide) (by decide)).trans k3, k4⟩
theorem ab_pag_fr {h h' : ab_H} {X : ab_X} (he : ∀ a, 55 ≤ a → a ≤ 57 → h' a = h a) (k : ab_pag h X) : ab_pag h' X := by
  obtain ⟨p, nu, mc, f, g, k1, k2, k3, k4⟩ := k
  exact ⟨p, nu, mc, f, g, (he 55 (by decide) (by decide)).trans k1, (he 56 (by decide) (by decide)).trans k2, (he 57 (by decide) (by decide)).trans k3, k4⟩
theorem ab_scr_fr {h h' : ab_H} (he : ∀ a, 58 ≤ a → a ≤ 61 → h' a = h a) (k : ab_scr h) : ab_scr h' := by
  obtain ⟨h1, h2, f, g, k1, k2, k3, k4⟩ := k
  exact ⟨h1, h2, f, g, (he 58 (by decide) (by decide)).trans k1, (he 59 (by decide) (by decide)).trans k2, (he 60 (by decide) (by decide)).trans k3, (he 61 (by decide) (by decide)).trans k4⟩
theorem ab_lis_fr {h h' : ab_H} {X : ab_X} {Y : Int → Int64} (he : ∀ a, 62 ≤ a → a ≤ 67 → h' a = h a) (k : ab_lis h X Y) : ab_lis h' X Y := by
  obtain ⟨sz, c, k1, k2, k3, k4⟩ := k
  exact ⟨sz, c, (he 62 (by decide) (by decide)).trans k1, fun l l0 l4 => (he _ (by omega) (by omega)).trans (k2 l l0 l4), (he 67 (by decide) (by decide)).trans k3, k4⟩
/-- only tables and thoughts have changed -/
theorem ab_JC_scr {h h' : ab_H} {X : ab_X} {Y : Int → Int64} (he : ∀ a, (a < 33 ∨ (51 < a ∧ a < 58) ∨ 61 < a) → h' a = h a) (J : ab_JC X Y h) (k1 : ab_lad h' (X 0) (-1)) (k2 : ab_swp h') (k3 : ab_scr h') : ab_JC X Y h' := by
  obtain ⟨j1, j2, j3, j4, j5, j6, j7, j8, j9⟩ := J
  exact ⟨(he 6 (by decide)).trans j1, ab_now_fr (fun a _ _ => he a (by omega)) j2, ab_kep_fr (fun a _ _ => he a (by omega)) j3, k1, k2, ab_tap_fr (fun a _ _ => he a (by omega)) j6, ab_pag_fr (fun a _ _ => he a (by omega)) j7, k3, ab_lis_fr (fun a _ _ => he a (by omega)) j9⟩
/-- only the ladder has changed -/
theorem ab_JC_lad {h h' : ab_H} {X : ab_X} {Y : Int → Int64} (he : ab_eqo 33 46 h h') (J : ab_JC X Y h) {L : Int → Int} {u : Int} (k1 : ab_lad h' L u) : ab_JC X Y h' := by
  have J' := J
  obtain ⟨j1, j2, j3, j4, j5, j6, j7, j8, j9⟩ := J'
  exact ab_JC_scr (fun a ha => he a (by omega)) J (ab_lad_any k1) (ab_swp_fr (fun a _ _ => he a (by omega)) j5) (ab_scr_fr (fun a _ _ => he a (by omega)) j8)
/-- only now has changed -/
theorem ab_JC_now {h h' : ab_H} {X X' : ab_X} {Y : Int → Int64} (he : ab_eqo 7 19 h h') (J : ab_JC X Y h) (hX : ∀ i, 5 ≤ i → X' i = X i ∨ (i = 5 ∧ ∀ j, j ≠ 0 → X' 5 j = X 5 j)) (k1 : ab_now h' X') : ab_JC X' Y h' := by
  obtain ⟨j1, j2, j3, j4, j5, j6, j7, j8, j9⟩ := J
  have e5 : ∀ j, j ≠ 0 → X' 5 j = X 5 j := fun j hj => (hX 5 (by decide)).elim (fun z => by rw [z]) (fun z => z.2 j hj)
  have eX : ∀ i, 5 < i → X' i = X i := fun i hi => (hX i (by omega)).elim id (fun z => absurd z.1 (by omega))
  have e1 := e5 1 (by decide)
  have e2 := e5 2 (by decide)
  have e3 := e5 3 (by decide)
  refine ⟨?_, k1, ?_, ab_lad_any (ab_lad_fr (fun a _ _ => he a (by omega)) j4), ab_swp_fr (fun a _ _ => he a (by omega)) j5, ?_, ?_, ab_scr_fr (fun a _ _ => he a (by omega)) j8, ?_⟩
  · rw [e3]; exact (he 6 (by decide)).trans j1
  · have := ab_kep_fr (fun a _ _ => he a (by omega)) j3
    unfold ab_kep at this ⊢
    rw [e3, eX 10 (by decide), eX 11 (by decide), eX 12 (by decide), eX 13 (by decide), eX 14 (by decide), eX 15 (by decide)]
    exact this
  · have := ab_tap_fr (fun a _ _ => he a (by omega)) j6
    unfold ab_tap at this ⊢
    rw [e1, eX 6 (by decide)]
    exact this
  · have := ab_pag_fr (fun a _ _ => he a (by omega)) j7
    unfold ab_pag at this ⊢
    rw [e2, eX 7 (by decide)]
    exact this
  · have := ab_lis_fr (fun a _ _ => he a (by omega)) j9
    unfold ab_lis at this ⊢
    rw [eX 8 (by decide)]
    exact this
theorem ab_up_e {X : ab_X} {k : Nat} {f : Int → Int} : ab_up X k f k = f := if_pos rfl
theorem ab_up_n {X : ab_X} {k i : Nat} {f : Int → Int} (h : i ≠ k) : ab_up X k f i = X i := if_neg h
section JC
variable {h : ab_H} {n : Nat} {Q : ab_Q} {s s' : Nat} {l hv l' hv' : Int → Int} {f f' : Int → Int → Int} {w b w' b' : Int → Int} {r r' : Int}
theorem sp_stateCopy (hs6 : 6 ≤ s) (hs6' : 6 ≤ s') (hss : s + 12 < s' ∨ s' + 12 < s) (k : ab_stx h s l hv f w b r) (k' : ab_stx h s' l' hv' f' w' b' r')
    (q : ∀ h', ab_eqo s (s + 12) h h' → ab_stx h' s (ab_fi l' l 0 4) hv' (fun v => ab_fi (f' v) (f v) 0 7) (ab_fi w' w 0 8) (ab_fi b' b 0 8) r' → Q none h' n) : ab_G 31 0 [some (vr s), some (vr s'), none] [] h n (0, 0) Q := by
  obtain ⟨k1, k2, k3, k4, k5, k6⟩ := k
  obtain ⟨m1, m2, m3, m4, m5, m6⟩ := k'
  have g4 : (4 : Int) ≤ ((4 : Nat) : Int) := by omega
  have g8 : (8 : Int) ≤ ((8 : Nat) : Int) := by omega
  simp only [s31_0, s31_1, s31_4, s31_5, s31_6, s31_9, s31_10, true_and, and_true, true_implies, Option.toList_some, Option.toList_none, List.nil_append, List.cons_append, List.map_nil, List.map_cons, List.sum_nil, List.sum_cons, Nat.zero_le, ab_nl_n, ab_nl_i, ab_nl_r, ab_nl_0, ab_cat_i, ab_cat_r, ab_cat_l, Nat.reduceAdd, Nat.reduceLeDiff, Nat.add_zero, Nat.zero_add, reduceIte, List.getElem?_cons_succ, List.getElem?_cons_zero, List.length_cons, List.length_nil, List.set_cons_zero, List.set_cons_succ, true_or, or_true, Classical.not_not, not_true_eq_false, not_false_eq_true, ab_01r, ab_01z, ab_01n, false_implies, ab_tt, Nat.reduceLT, Nat.reduceEqDiff, Int.reduceNeg, Int.reduceLT, Int.reduceLE, Int.add_zero, Int.zero_add, List.append_nil, Int.reduceEq, ab_sum1, ab_ri_0, ab_ri_1, ab_ri_2, ab_ri_3, ab_ri_4, ab_ri_5, ab_ri_6, ab_ri_7, ab_ri_8, ab_ri_12, ab_ri_30, ab_ri_60, ab_ri_100, ab_ri_101, ab_ri_127, ab_ri_m1, ab_ri_m2, ab_ri_m3, ab_ri_m4, ab_ri_m5, ab_ri_m11, ab_ri_m13, ab_ri_m14, ab_ri_10, ab_fd, k1, m1, hs6, hs6']
  refine s31_11 ⟨by omega, by omega, by decide, ?_⟩
  simp only [ab_cp, k2, m2, true_and, and_true, true_implies, Option.toList_some, Option.toList_none, List.nil_append, List.cons_append, List.map_nil, List.map_cons, List.sum_nil, List.sum_cons, Nat.zero_le, ab_nl_n, ab_nl_i, ab_nl_r, ab_nl_0, ab_cat_i, ab_cat_r, ab_cat_l, Nat.reduceAdd, Nat.reduceLeDiff, Nat.add_zero, Nat.zero_add, reduceIte, List.getElem?_cons_succ, List.getElem?_cons_zero, List.length_cons, List.length_nil, List.set_cons_zero, List.set_cons_succ, true_or, or_true, Classical.not_not, not_true_eq_false, not_false_eq_true, ab_01r, ab_01z, ab_01n, false_implies, ab_tt, Nat.reduceLT, Nat.reduceEqDiff, Int.reduceNeg, Int.reduceLT, Int.reduceLE, Int.add_zero, Int.zero_add, List.append_nil, Int.reduceEq, ab_sum1, ab_ri_0, ab_ri_1, ab_ri_2, ab_ri_3, ab_ri_4, ab_ri_5, ab_ri_6, ab_ri_7, ab_ri_8, ab_ri_12, ab_ri_30, ab_ri_60, ab_ri_100, ab_ri_101, ab_ri_127, ab_ri_m1, ab_ri_m2, ab_ri_m3, ab_ri_m4, ab_ri_m5, ab_ri_m11, ab_ri_m13, ab_ri_m14, ab_ri_10, ab_cpy0]
  refine ⟨g4, g4, ?_⟩
  simp only [s31_14, s31_15, true_and, and_true, true_implies, Option.toList_some, Option.toList_none, List.nil_append, List.cons_append, List.map_nil, List.map_cons, List.sum_nil, List.sum_cons, Nat.zero_le, ab_nl_n, ab_nl_i, ab_nl_r, ab_nl_0, ab_cat_i, ab_cat_r, ab_cat_l, Nat.reduceAdd, Nat.reduceLeDiff, Nat.add_zero, Nat.zero_add, reduceIte, List.getElem?_cons_succ, List.getElem?_cons_zero, List.length_cons, List.length_nil, List.set_cons_zero, List.set_cons_succ, true_or, or_true, Classical.not_not, not_true_eq_false, not_false_eq_true, ab_01r, ab_01z, ab_01n, false_implies, ab_tt, Nat.reduceLT, Nat.reduceEqDiff, Int.reduceNeg, Int.reduceLT, Int.reduceLE, Int.add_zero, Int.zero_add, List.append_nil, Int.reduceEq, ab_sum1, ab_ri_0, ab_ri_1, ab_ri_2, ab_ri_3, ab_ri_4, ab_ri_5, ab_ri_6, ab_ri_7, ab_ri_8, ab_ri_12, ab_ri_30, ab_ri_60, ab_ri_100, ab_ri_101, ab_ri_127, ab_ri_m1, ab_ri_m2, ab_ri_m3, ab_ri_m4, ab_ri_m5, ab_ri_m11, ab_ri_m13, ab_ri_m14, ab_ri_10]
  have key := ab_dn (P := fun i => ∀ h', ab_eqo s (s + 12) h h' → h' s = h s → h' (s + 1) = some (ab_ia 4 (ab_fi l' l 0 4)) → h' (s + 2) = h (s + 2) → h' (s + 11) = h (s + 11) → h' (s + 12) = h (s + 12) → (∀ v, 0 ≤ v → v < i → h' (ab_va s v) = some (ab_vec (ab_vb s v) (hv' v)) ∧ h' (ab_vb s v) = some (ab_ia 7 (ab_fi (f' v) (f v) 0 7))) → (∀ v, i ≤ v → v < 4 → h' (ab_va s v) = h (ab_va s v) ∧ h' (ab_vb s v) = h (ab_vb s v)) → ab_G 31 16 [some (vr s), some (vr s'), some (vi i)] [] h' n (0, 0) Q) (a := 0) (e := 4) (by decide) ?_ ?_
  · refine key _ (fun a ha => ab_hs_ne (by omega)) (ab_hs_ne (by omega)) ab_hs_self (ab_hs_ne (by omega)) (ab_hs_ne (by omega)) (ab_hs_ne (by omega)) (fun v v0 v1 => absurd v0 (by omega)) (fun v v0 v1 => ?_)
    have := ab_va_r (s := s) v1
    exact ⟨ab_hs_ne (by omega), ab_hs_ne (by omega)⟩
  · intro h1 he e1 e2 e3 e4 e5 e6 e7
    have c1 : ¬ (4 : Int) < 4 := by omega
    have n1 : h1 s' = h s' := he s' (by omega)
    have n2 : h1 (s' + 11) = h (s' + 11) := he _ (by omega)
    have n3 : h1 (s' + 12) = h (s' + 12) := he _ (by omega)
    rw [s31_16]
    simp only [s31_17, s31_18, s31_42, s31_43, s31_46, s31_47, s31_48, s31_51, s31_52, true_and, and_true, true_implies, Option.toList_some, Option.toList_none, List.nil_append, List.cons_append, List.map_nil, List.map_cons, List.sum_nil, List.sum_cons, Nat.zero_le, ab_nl_n, ab_nl_i, ab_nl_r, ab_nl_0, ab_cat_i, ab_cat_r, ab_cat_l, Nat.reduceAdd, Nat.reduceLeDiff, Nat.add_zero, Nat.zero_add, reduceIte, List.getElem?_cons_succ, List.getElem?_cons_zero, List.length_cons, List.length_nil, List.set_cons_zero, List.set_cons_succ, true_or, or_true, Classical.not_not, not_true_eq_false, not_false_eq_true, ab_01r, ab_01z, ab_01n, false_implies, ab_tt, Nat.reduceLT, Nat.reduceEqDiff, Int.reduceNeg, Int.reduceLT, Int.reduceLE, Int.add_zero, Int.zero_add, List.append_nil, Int.reduceEq, ab_sum1, ab_ri_0, ab_ri_1, ab_ri_2, ab_ri_3, ab_ri_4, ab_ri_5, ab_ri_6, ab_ri_7, ab_ri_8, ab_ri_12, ab_ri_30, ab_ri_60, ab_ri_100, ab_ri_101, ab_ri_127, ab_ri_m1, ab_ri_m2, ab_ri_m3, ab_ri_m4, ab_ri_m5, ab_ri_m11, ab_ri_m13, ab_ri_m14, ab_ri_10, Int.le_refl, ab_fd, e1, k1, n1, m1, hs6, hs6']
    refine s31_54 ⟨by omega, by omega, by decide, ?_⟩
    simp only [ab_cp, n2, m5, e4, k5, true_and, and_true, true_implies, Option.toList_some, Option.toList_none, List.nil_append, List.cons_append, List.map_nil, List.map_cons, List.sum_nil, List.sum_cons, Nat.zero_le, ab_nl_n, ab_nl_i, ab_nl_r, ab_nl_0, ab_cat_i, ab_cat_r, ab_cat_l, Nat.reduceAdd, Nat.reduceLeDiff, Nat.add_zero, Nat.zero_add, reduceIte, List.getElem?_cons_succ, List.getElem?_cons_zero, List.length_cons, List.length_nil, List.set_cons_zero, List.set_cons_succ, true_or, or_true, Classical.not_not, not_true_eq_false, not_false_eq_true, ab_01r, ab_01z, ab_01n, false_implies, ab_tt, Nat.reduceLT, Nat.reduceEqDiff, Int.reduceNeg, Int.reduceLT, Int.reduceLE, Int.add_zero, Int.zero_add, List.append_nil, Int.reduceEq, ab_sum1, ab_ri_0, ab_ri_1, ab_ri_2, ab_ri_3, ab_ri_4, ab_ri_5, ab_ri_6, ab_ri_7, ab_ri_8, ab_ri_12, ab_ri_30, ab_ri_60, ab_ri_100, ab_ri_101, ab_ri_127, ab_ri_m1, ab_ri_m2, ab_ri_m3, ab_ri_m4, ab_ri_m5, ab_ri_m11, ab_ri_m13, ab_ri_m14, ab_ri_10, ab_cpy0]
    refine ⟨g8, g8, ?_⟩
    have o1 : ab_hs h1 (s + 11) (ab_ia 8 (ab_fi w' w 0 8)) s = h1 s := ab_hs_ne (by omega)
    have o2 : ab_hs h1 (s + 11) (ab_ia 8 (ab_fi w' w 0 8)) s' = h1 s' := ab_hs_ne (by omega)
    have o3 : ab_hs h1 (s + 11) (ab_ia 8 (ab_fi w' w 0 8)) (s' + 12) = h1 (s' + 12) := ab_hs_ne (by omega)
    have o4 : ab_hs h1 (s + 11) (ab_ia 8 (ab_fi w' w 0 8)) (s + 12) = h1 (s + 12) := ab_hs_ne (by omega)
    simp only [s31_57, s31_58, s31_61, s31_62, s31_63, s31_66, s31_67, true_and, and_true, true_implies, Option.toList_some, Option.toList_none, List.nil_append, List.cons_append, List.map_nil, List.map_cons, List.sum_nil, List.sum_cons, Nat.zero_le, ab_nl_n, ab_nl_i, ab_nl_r, ab_nl_0, ab_cat_i, ab_cat_r, ab_cat_l, Nat.reduceAdd, Nat.reduceLeDiff, Nat.add_zero, Nat.zero_add, reduceIte, List.getElem?_cons_succ, List.getElem?_cons_zero, List.length_cons, List.length_nil, List.set_cons_zero, List.set_cons_succ, true_or, or_true, Classical.not_not, not_true_eq_false, not_false_eq_true, ab_01r, ab_01z, ab_01n, false_implies, ab_tt, Nat.reduceLT, Nat.reduceEqDiff, Int.reduceNeg, Int.reduceLT, Int.reduceLE, Int.add_zero, Int.zero_add, List.append_nil, Int.reduceEq, ab_sum1, ab_ri_0, ab_ri_1, ab_ri_2, ab_ri_3, ab_ri_4, ab_ri_5, ab_ri_6, ab_ri_7, ab_ri_8, ab_ri_12, ab_ri_30, ab_ri_60, ab_ri_100, ab_ri_101, ab_ri_127, ab_ri_m1, ab_ri_m2, ab_ri_m3, ab_ri_m4, ab_ri_m5, ab_ri_m11, ab_ri_m13, ab_ri_m14, ab_ri_10, ab_fd, o1, o2, e1, k1, n1, m1, hs6, hs6']
    refine s31_69 ⟨by omega, by omega, by decide, ?_⟩
    simp only [ab_cp, o3, o4, n3, m6, e5, k6, true_and, and_true, true_implies, Option.toList_some, Option.toList_none, List.nil_append, List.cons_append, List.map_nil, List.map_cons, List.sum_nil, List.sum_cons, Nat.zero_le, ab_nl_n, ab_nl_i, ab_nl_r, ab_nl_0, ab_cat_i, ab_cat_r, ab_cat_l, Nat.reduceAdd, Nat.reduceLeDiff, Nat.add_zero, Nat.zero_add, reduceIte, List.getElem?_cons_succ, List.getElem?_cons_zero, List.length_cons, List.length_nil, List.set_cons_zero, List.set_cons_succ, true_or, or_true, Classical.not_not, not_true_eq_false, not_false_eq_true, ab_01r, ab_01z, ab_01n, false_implies, ab_tt, Nat.reduceLT, Nat.reduceEqDiff, Int.reduceNeg, Int.reduceLT, Int.reduceLE, Int.add_zero, Int.zero_add, List.append_nil, Int.reduceEq, ab_sum1, ab_ri_0, ab_ri_1, ab_ri_2, ab_ri_3, ab_ri_4, ab_ri_5, ab_ri_6, ab_ri_7, ab_ri_8, ab_ri_12, ab_ri_30, ab_ri_60, ab_ri_100, ab_ri_101, ab_ri_127, ab_ri_m1, ab_ri_m2, ab_ri_m3, ab_ri_m4, ab_ri_m5, ab_ri_m11, ab_ri_m13, ab_ri_m14, ab_ri_10, ab_cpy0]
    refine ⟨g8, g8, ?_⟩
    have p1 : ∀ a c, a ≠ s + 11 → a ≠ s + 12 → ab_hs (ab_hs h1 (s + 11) (ab_ia 8 (ab_fi w' w 0 8))) (s + 12) c a = h1 a := fun a c ha hb => (ab_hs_ne hb).trans (ab_hs_ne ha)
    have p2 := (p1 s (ab_ia 8 (ab_fi b' b 0 8)) (by omega) (by omega)).trans (e1.trans k1)
    have p3 := (p1 s' (ab_ia 8 (ab_fi b' b 0 8)) (by omega) (by omega)).trans (n1.trans m1)
    have q := q (ab_hs (ab_hs (ab_hs h1 (s + 11) (ab_ia 8 (ab_fi w' w 0 8))) (s + 12) (ab_ia 8 (ab_fi b' b 0 8))) s (.inl (4, [vr (s + 1), vr (s + 2), vr (s + 11), vr (s + 12), vi r']))) (fun a ha => (ab_hs_ne (by omega)).trans ((p1 a _ (by omega) (by omega)).trans (he a ha))) ⟨ab_hs_self, (ab_hs_ne (by omega)).trans ((p1 _ _ (by omega) (by omega)).trans e2), (ab_hs_ne (by omega)).trans ((p1 _ _ (by omega) (by omega)).trans (e3.trans k3)), fun v v0 v4 => by
        have := ab_va_r (s := s) v4
        exact ⟨(ab_hs_ne (by omega)).trans ((p1 _ _ (by omega) (by omega)).trans (e6 v v0 v4).1), (ab_hs_ne (by omega)).trans ((p1 _ _ (by omega) (by omega)).trans (e6 v v0 v4).2)⟩, (ab_hs_ne (by omega)).trans ((ab_hs_ne (by omega)).trans ab_hs_self), (ab_hs_ne (by omega)).trans ab_hs_self⟩
    simp only [s31_72, s31_73, s31_74, s31_77, s31_80, true_and, and_true, true_implies, Option.toList_some, Option.toList_none, List.nil_append, List.cons_append, List.map_nil, List.map_cons, List.sum_nil, List.sum_cons, Nat.zero_le, ab_nl_n, ab_nl_i, ab_nl_r, ab_nl_0, ab_cat_i, ab_cat_r, ab_cat_l, Nat.reduceAdd, Nat.reduceLeDiff, Nat.add_zero, Nat.zero_add, reduceIte, List.getElem?_cons_succ, List.getElem?_cons_zero, List.length_cons, List.length_nil, List.set_cons_zero, List.set_cons_succ, true_or, or_true, Classical.not_not, not_true_eq_false, not_false_eq_true, ab_01r, ab_01z, ab_01n, false_implies, ab_tt, Nat.reduceLT, Nat.reduceEqDiff, Int.reduceNeg, Int.reduceLT, Int.reduceLE, Int.add_zero, Int.zero_add, List.append_nil, Int.reduceEq, ab_sum1, ab_ri_0, ab_ri_1, ab_ri_2, ab_ri_3, ab_ri_4, ab_ri_5, ab_ri_6, ab_ri_7, ab_ri_8, ab_ri_12, ab_ri_30, ab_ri_60, ab_ri_100, ab_ri_101, ab_ri_127, ab_ri_m1, ab_ri_m2, ab_ri_m3, ab_ri_m4, ab_ri_m5, ab_ri_m11, ab_ri_m13, ab_ri_m14, ab_ri_10, ab_fd, ab_fs, ab_fit, ab_tyf, tyX4, p2, p3, hs6, hs6', q]
  · intro i i0 i9 ih h1 he e1 e2 e3 e4 e5 e6 e7
    have c1 : ¬ 4 ≤ i := by omega
    have i4 : i < ((4 : Nat) : Int) := by omega
    have i04 : 0 ≤ i ∧ i < 4 := ⟨i0, i9⟩
    have n1 : h1 s' = h s' := he s' (by omega)
    have n2 : h1 (s' + 2) = h (s' + 2) := he _ (by omega)
    have va := ab_va_r (s := s) i9
    have va' := ab_va_r (s := s') i9
    have x6 : 6 ≤ s + 2 := by omega
    have x6' : 6 ≤ s' + 2 := by omega
    have y6 : 6 ≤ ab_va s i := by omega
    have z1 : h1 (ab_va s i) = some (ab_vec (ab_vb s i) (hv i)) := (e7 i (Int.le_refl i) i9).1.trans (k4 i i0 i9).1
    have z2 : h1 (ab_vb s i) = some (ab_ia 7 (f i)) := (e7 i (Int.le_refl i) i9).2.trans (k4 i i0 i9).2
    have z3 : h1 (ab_va s' i) = some (ab_vec (ab_vb s' i) (hv' i)) := (he _ (by omega)).trans (m4 i i0 i9).1
    have z4 : h1 (ab_vb s' i) = some (ab_ia 7 (f' i)) := (he _ (by omega)).trans (m4 i i0 i9).2
    rw [s31_16]
    simp only [s31_17, s31_18, s31_21, s31_22, s31_25, s31_26, s31_27, s31_28, s31_31, s31_32, s31_33, true_and, and_true, true_implies, Option.toList_some, Option.toList_none, List.nil_append, List.cons_append, List.map_nil, List.map_cons, List.sum_nil, List.sum_cons, Nat.zero_le, ab_nl_n, ab_nl_i, ab_nl_r, ab_nl_0, ab_cat_i, ab_cat_r, ab_cat_l, Nat.reduceAdd, Nat.reduceLeDiff, Nat.add_zero, Nat.zero_add, reduceIte, List.getElem?_cons_succ, List.getElem?_cons_zero, List.length_cons, List.length_nil, List.set_cons_zero, List.set_cons_succ, true_or, or_true, Classical.not_not, not_true_eq_false, not_false_eq_true, ab_01r, ab_01z, ab_01n, false_implies, ab_tt, Nat.reduceLT, Nat.reduceEqDiff, Int.reduceNeg, Int.reduceLT, Int.reduceLE, Int.add_zero, Int.zero_add, List.append_nil, Int.reduceEq, ab_sum1, ab_ri_0, ab_ri_1, ab_ri_2, ab_ri_3, ab_ri_4, ab_ri_5, ab_ri_6, ab_ri_7, ab_ri_8, ab_ri_12, ab_ri_30, ab_ri_60, ab_ri_100, ab_ri_101, ab_ri_127, ab_ri_m1, ab_ri_m2, ab_ri_m3, ab_ri_m4, ab_ri_m5, ab_ri_m11, ab_ri_m13, ab_ri_m14, ab_ri_10, ab_fd, ab_ar, ab_vc, ab_sv_4_34, e1, k1, n1, m1, e3, k3, n2, m3, hs6, hs6', x6, x6', y6, z1, c1, i0, i4, i04]
    (repeat refine And.intro (by omega) ?_)
    refine sp_vecCopy y6 (by omega) (by omega) (by omega) (by omega) (by omega) (by omega) (by omega) (by omega) z1 z2 z3 z4 ?_
    simp only [s31_36, s31_39, true_and, and_true, true_implies, Option.toList_some, Option.toList_none, List.nil_append, List.cons_append, List.map_nil, List.map_cons, List.sum_nil, List.sum_cons, Nat.zero_le, ab_nl_n, ab_nl_i, ab_nl_r, ab_nl_0, ab_cat_i, ab_cat_r, ab_cat_l, Nat.reduceAdd, Nat.reduceLeDiff, Nat.add_zero, Nat.zero_add, reduceIte, List.getElem?_cons_succ, List.getElem?_cons_zero, List.length_cons, List.length_nil, List.set_cons_zero, List.set_cons_succ, true_or, or_true, Classical.not_not, not_true_eq_false, not_false_eq_true, ab_01r, ab_01z, ab_01n, false_implies, ab_tt, Nat.reduceLT, Nat.reduceEqDiff, Int.reduceNeg, Int.reduceLT, Int.reduceLE, Int.add_zero, Int.zero_add, List.append_nil, Int.reduceEq, ab_sum1, ab_ri_0, ab_ri_1, ab_ri_2, ab_ri_3, ab_ri_4, ab_ri_5, ab_ri_6, ab_ri_7, ab_ri_8, ab_ri_12, ab_ri_30, ab_ri_60, ab_ri_100, ab_ri_101, ab_ri_127, ab_ri_m1, ab_ri_m2, ab_ri_m3, ab_ri_m4, ab_ri_m5, ab_ri_m11, ab_ri_m13, ab_ri_m14, ab_ri_10]
    refine ih _ (fun a ha => (ab_hs_ne (by omega)).trans ((ab_hs_ne (by omega)).trans (he a ha))) ((ab_hs_ne (by omega)).trans ((ab_hs_ne (by omega)).trans e1)) ((ab_hs_ne (by omega)).trans ((ab_hs_ne (by omega)).trans e2)) ((ab_hs_ne (by omega)).trans ((ab_hs_ne (by omega)).trans e3)) ((ab_hs_ne (by omega)).trans ((ab_hs_ne (by omega)).trans e4)) ((ab_hs_ne (by omega)).trans ((ab_hs_ne (by omega)).trans e5)) (fun v v0 v1 => ?_) (fun v v0 v1 => ?_)
    · by_cases e : v = i
      · subst e
        exact ⟨(ab_hs_ne (by omega)).trans ab_hs_self, ab_hs_self⟩
      · have := ab_va_ne (s := s) v0 i0 e
        have r6 := e6 v v0 (by omega)
        exact ⟨(ab_hs_ne (by omega)).trans ((ab_hs_ne (by omega)).trans r6.1), (ab_hs_ne (by omega)).trans ((ab_hs_ne (by omega)).trans r6.2)⟩
    · have := ab_va_ne (s := s) (v := v) (w := i) (by omega) i0 (by omega)
      have r7 := e7 v (by omega) v1
      exact ⟨(ab_hs_ne (by omega)).trans ((ab_hs_ne (by omega)).trans r7.1), (ab_hs_ne (by omega)).trans ((ab_hs_ne (by omega)).trans r7.2)⟩
def ab_fn (f : Int → Int → Int) : Nat → Int
  | 0 => 0
  | k + 1 => ab_fn f k + ab_nz (f k) 7
theorem ab_fn_b (f : Int → Int → Int) : ∀ k : Nat, 0 ≤ ab_fn f k ∧ ab_fn f k ≤ 7 * k
  | 0 => by unfold ab_fn; omega
  | k + 1 => by
    have := ab_fn_b f k
    have := ab_nz_b (f k) 7
    unfold ab_fn
    omega
theorem sp_filledNumbers (hs6 : 6 ≤ s) (k : ab_stx h s l hv f w b r) (hf : ∀ v i, 0 ≤ v → v < 4 → 0 ≤ i → i < 7 → 0 ≤ f v i ∧ f v i ≤ 100) (q : Q (some (vi (ab_fn f 4))) h n) : ab_G 32 0 [some (vr s), none, none] [] h n (0, 0) Q := by
  obtain ⟨k1, k2, k3, k4, k5, k6⟩ := k
  simp only [s32_0, s32_1, s32_2, s32_3, true_and, and_true, true_implies, Option.toList_some, Option.toList_none, List.nil_append, List.cons_append, List.map_nil, List.map_cons, List.sum_nil, List.sum_cons, Nat.zero_le, ab_nl_n, ab_nl_i, ab_nl_r, ab_nl_0, ab_cat_i, ab_cat_r, ab_cat_l, Nat.reduceAdd, Nat.reduceLeDiff, Nat.add_zero, Nat.zero_add, reduceIte, List.getElem?_cons_succ, List.getElem?_cons_zero, List.length_cons, List.length_nil, List.set_cons_zero, List.set_cons_succ, true_or, or_true, Classical.not_not, not_true_eq_false, not_false_eq_true, ab_01r, ab_01z, ab_01n, false_implies, ab_tt, Nat.reduceLT, Nat.reduceEqDiff, Int.reduceNeg, Int.reduceLT, Int.reduceLE, Int.add_zero, Int.zero_add, List.append_nil, Int.reduceEq, ab_sum1, ab_ri_0, ab_ri_1, ab_ri_2, ab_ri_3, ab_ri_4, ab_ri_5, ab_ri_6, ab_ri_7, ab_ri_8, ab_ri_12, ab_ri_30, ab_ri_60, ab_ri_100, ab_ri_101, ab_ri_127, ab_ri_m1, ab_ri_m2, ab_ri_m3, ab_ri_m4, ab_ri_m5, ab_ri_m11, ab_ri_m13, ab_ri_m14, ab_ri_10]
  refine ab_lp 0 4 (fun i => [some (vr s), some (vi (ab_fn f i.toNat)), some (vi i)]) (fun _ => h) (by decide) rfl rfl ?_ ?_
  · have hb := ab_fn_b f 4
    rw [s32_4]
    simp only [s32_5, s32_6, s32_27, s32_28, true_and, and_true, true_implies, Option.toList_some, Option.toList_none, List.nil_append, List.cons_append, List.map_nil, List.map_cons, List.sum_nil, List.sum_cons, Nat.zero_le, ab_nl_n, ab_nl_i, ab_nl_r, ab_nl_0, ab_cat_i, ab_cat_r, ab_cat_l, Nat.reduceAdd, Nat.reduceLeDiff, Nat.add_zero, Nat.zero_add, reduceIte, List.getElem?_cons_succ, List.getElem?_cons_zero, List.length_cons, List.length_nil, List.set_cons_zero, List.set_cons_succ, true_or, or_true, Classical.not_not, not_true_eq_false, not_false_eq_true, ab_01r, ab_01z, ab_01n, false_implies, ab_tt, Nat.reduceLT, Nat.reduceEqDiff, Int.reduceNeg, Int.reduceLT, Int.reduceLE, Int.add_zero, Int.zero_add, List.append_nil, Int.reduceEq, ab_sum1, ab_ri_0, ab_ri_1, ab_ri_2, ab_ri_3, ab_ri_4, ab_ri_5, ab_ri_6, ab_ri_7, ab_ri_8, ab_ri_12, ab_ri_30, ab_ri_60, ab_ri_100, ab_ri_101, ab_ri_127, ab_ri_m1, ab_ri_m2, ab_ri_m3, ab_ri_m4, ab_ri_m5, ab_ri_m11, ab_ri_m13, ab_ri_m14, ab_ri_10, Int.le_refl, show (4 : Int).toNat = 4 from rfl, q] <;> omega
  · intro i i0 i9 ih
    have ei : (i + 1).toNat = i.toNat + 1 := by omega
    have ec : ((i.toNat : Nat) : Int) = i := Int.toNat_of_nonneg i0
    have c1 : ¬ 4 ≤ i := by omega
    have i4 : i < ((4 : Nat) : Int) := by omega
    have i04 : 0 ≤ i ∧ i < 4 := ⟨i0, i9⟩
    have va := ab_va_r (s := s) i9
    have x6 : 6 ≤ s + 2 := by omega
    have y6 : 6 ≤ ab_va s i := by omega
    have z1 := (k4 i i0 i9).1
    rw [ei, ab_fn, ec] at ih
    rw [s32_4]
    simp only [s32_5, s32_6, s32_9, s32_10, s32_11, s32_14, s32_15, s32_16, true_and, and_true, true_implies, Option.toList_some, Option.toList_none, List.nil_append, List.cons_append, List.map_nil, List.map_cons, List.sum_nil, List.sum_cons, Nat.zero_le, ab_nl_n, ab_nl_i, ab_nl_r, ab_nl_0, ab_cat_i, ab_cat_r, ab_cat_l, Nat.reduceAdd, Nat.reduceLeDiff, Nat.add_zero, Nat.zero_add, reduceIte, List.getElem?_cons_succ, List.getElem?_cons_zero, List.length_cons, List.length_nil, List.set_cons_zero, List.set_cons_succ, true_or, or_true, Classical.not_not, not_true_eq_false, not_false_eq_true, ab_01r, ab_01z, ab_01n, false_implies, ab_tt, Nat.reduceLT, Nat.reduceEqDiff, Int.reduceNeg, Int.reduceLT, Int.reduceLE, Int.add_zero, Int.zero_add, List.append_nil, Int.reduceEq, ab_sum1, ab_ri_0, ab_ri_1, ab_ri_2, ab_ri_3, ab_ri_4, ab_ri_5, ab_ri_6, ab_ri_7, ab_ri_8, ab_ri_12, ab_ri_30, ab_ri_60, ab_ri_100, ab_ri_101, ab_ri_127, ab_ri_m1, ab_ri_m2, ab_ri_m3, ab_ri_m4, ab_ri_m5, ab_ri_m11, ab_ri_m13, ab_ri_m14, ab_ri_10, ab_fd, ab_ar, ab_vc, ab_sv_4_42, k1, k3, hs6, x6, y6, z1, c1, i0, i4, i04]
    (repeat refine And.intro (by omega) ?_)
    refine sp_filled y6 (by omega) z1 (k4 i i0 i9).2 (fun j j0 j7 => hf i j i0 i9 j0 j7) ?_
    simp only [s32_19, s32_20, s32_21, s32_24, true_and, and_true, true_implies, Option.toList_some, Option.toList_none, List.nil_append, List.cons_append, List.map_nil, List.map_cons, List.sum_nil, List.sum_cons, Nat.zero_le, ab_nl_n, ab_nl_i, ab_nl_r, ab_nl_0, ab_cat_i, ab_cat_r, ab_cat_l, Nat.reduceAdd, Nat.reduceLeDiff, Nat.add_zero, Nat.zero_add, reduceIte, List.getElem?_cons_succ, List.getElem?_cons_zero, List.length_cons, List.length_nil, List.set_cons_zero, List.set_cons_succ, true_or, or_true, Classical.not_not, not_true_eq_false, not_false_eq_true, ab_01r, ab_01z, ab_01n, false_implies, ab_tt, Nat.reduceLT, Nat.reduceEqDiff, Int.reduceNeg, Int.reduceLT, Int.reduceLE, Int.add_zero, Int.zero_add, List.append_nil, Int.reduceEq, ab_sum1, ab_ri_0, ab_ri_1, ab_ri_2, ab_ri_3, ab_ri_4, ab_ri_5, ab_ri_6, ab_ri_7, ab_ri_8, ab_ri_12, ab_ri_30, ab_ri_60, ab_ri_100, ab_ri_101, ab_ri_127, ab_ri_m1, ab_ri_m2, ab_ri_m3, ab_ri_m4, ab_ri_m5, ab_ri_m11, ab_ri_m13, ab_ri_m14, ab_ri_10, ih]
end JC
