/-! ===== the model: its cells and what they tell; forms, determinants ===== -/
def ab_sg (σ σ' : Nat → Int) : Prop := σ' 8 = σ 8 ∧ σ' 10 = σ 10 ∧ σ' 11 = σ 11 ∧ σ' 32 = σ 32
theorem ab_sg_su {σ : Nat → Int} {k : Nat} {x : Int} (h : k ≠ 8 ∧ k ≠ 10 ∧ k ≠ 11 ∧ k ≠ 32) : ab_sg σ (ab_su σ k x) := ⟨ab_su_n (Ne.symm h.1), ab_su_n (Ne.symm h.2.1), ab_su_n (Ne.symm h.2.2.1), ab_su_n (Ne.symm h.2.2.2)⟩
theorem ab_sg_t {σ σ' σ'' : Nat → Int} (h1 : ab_sg σ σ') (h2 : ab_sg σ' σ'') : ab_sg σ σ'' := ⟨h2.1.trans h1.1, h2.2.1.trans h1.2.1, h2.2.2.1.trans h1.2.2.1, h2.2.2.2.trans h1.2.2.2⟩
theorem ab_sg_r {σ : Nat → Int} : ab_sg σ σ := ⟨rfl, rfl, rfl, rfl⟩
def ab_pml (h : ab_H) (X : ab_X) : Prop := ∃ l, h 69 = some (ab_ia 4 l) ∧ ab_eqf 4 l (X 0)
def ab_pmv (h : ab_H) (X : ab_X) : Prop := ∃ l, h 74 = some (ab_ia 4 l) ∧ ab_eqf 4 l (X 1)
def ab_pma (h : ab_H) (X : ab_X) : Prop := ∃ l, h 75 = some (ab_ia 28 l) ∧ ab_eqf 28 l (X 2)
def ab_pmt (h : ab_H) (X : ab_X) : Prop := ∃ l, h 76 = some (ab_ia 60 l) ∧ ∀ i, 0 ≤ i → i < X 5 1 → l i = X 6 i
def ab_pmp (h : ab_H) (X : ab_X) : Prop := ∃ l, h 77 = some (ab_ia 200 l) ∧ ∀ i, 0 ≤ i → i < X 5 2 → l i = X 7 i
def ab_pmw (h : ab_H) (X : ab_X) : Prop := ∃ l, h 78 = some (ab_ia 8 l) ∧ ab_eqf 8 l (X 3)
def ab_pmb (h : ab_H) (X : ab_X) : Prop := ∃ l, h 79 = some (ab_ia 8 l) ∧ ab_eqf 8 l (X 4)
def ab_pms (h : ab_H) (X : ab_X) : Prop := ∃ l, h 80 = some (ab_ia 4 l) ∧ ab_eqf 4 l (X 8)
def ab_pmc (h : ab_H) (Y : Int → Int64) : Prop := ∃ c : Int → Int64, h 81 = some (.inr (.inr (.inl (48, c)))) ∧ ∀ i, 0 ≤ i → i < 48 → c i = Y i
def ab_pmi (h : ab_H) (X : ab_X) : Prop := ∃ l, h 91 = some (ab_ia 53 l) ∧ (X 5 3 = 1 → (∀ k, 0 ≤ k → k < 4 → l k = X 10 k ∧ l (4 + k) = X 11 k) ∧ (∀ k, 0 ≤ k → k < 28 → l (8 + k) = X 12 k) ∧ (∀ k, 0 ≤ k → k < 8 → l (36 + k) = X 13 k ∧ l (44 + k) = X 14 k) ∧ l 52 = X 15 0)
def ab_per (h : ab_H) (X : ab_X) (Y : Int → Int64) : Prop := ab_pml h X ∧ ab_pmv h X ∧ ab_pma h X ∧ ab_pmt h X ∧ ab_pmp h X ∧ ab_pmw h X ∧ ab_pmb h X ∧ ab_pms h X ∧ ab_pmc h Y ∧ ab_pmi h X
theorem ab_per_fr {h h' : ab_H} {X : ab_X} {Y : Int → Int64} (he : ∀ a, (a = 69 ∨ (74 ≤ a ∧ a ≤ 81) ∨ a = 91) → h' a = h a) (k : ab_per h X Y) : ab_per h' X Y := by
  obtain ⟨⟨l1, a1, b1⟩, ⟨l2, a2, b2⟩, ⟨l3, a3, b3⟩, ⟨l4, a4, b4⟩, ⟨l5, a5, b5⟩, ⟨l6, a6, b6⟩, ⟨l7, a7, b7⟩, ⟨l8, a8, b8⟩, ⟨l9, a9, b9⟩, ⟨l10, a10, b10⟩⟩ := k
  exact ⟨⟨l1, (he _ (by decide)).trans a1, b1⟩, ⟨l2, (he _ (by decide)).trans a2, b2⟩, ⟨l3, (he _ (by decide)).trans a3, b3⟩, ⟨l4, (he _ (by decide)).trans a4, b4⟩, ⟨l5, (he _ (by decide)).trans a5, b5⟩, ⟨l6, (he _ (by decide)).trans a6, b6⟩, ⟨l7, (he _ (by decide)).trans a7, b7⟩, ⟨l8, (he _ (by decide)).trans a8, b8⟩, ⟨l9, (he _ (by decide)).trans a9, b9⟩, ⟨l10, (he _ (by decide)).trans a10, b10⟩⟩
/-- cells that hold nothing between the calls -/
def ab_wrk (h : ab_H) : Prop := (∃ T, h 82 = some (ab_ia 1463 T)) ∧ (∃ f, h 83 = some (ab_ia 7 f)) ∧ (∃ f, h 84 = some (ab_ia 7 f)) ∧ (∃ M, h 85 = some (ab_ia 84 (ab_flt M)) ∧ ab_v2 M) ∧ (∃ f, h 86 = some (ab_ia 7 f)) ∧ (∃ f, h 87 = some (ab_ia 30 f)) ∧ (∃ f, h 88 = some (ab_ia 31 f)) ∧ (∃ f, h 89 = some (ab_ia 60 f)) ∧ ∃ f, h 90 = some (ab_ia 7 f)
theorem ab_wrk_fr {h h' : ab_H} (he : ∀ a, 82 ≤ a → a ≤ 90 → h' a = h a) (k : ab_wrk h) : ab_wrk h' := by
  obtain ⟨⟨l1, a1⟩, ⟨l2, a2⟩, ⟨l3, a3⟩, ⟨l4, a4, b4⟩, ⟨l5, a5⟩, ⟨l6, a6⟩, ⟨l7, a7⟩, ⟨l8, a8⟩, ⟨l9, a9⟩⟩ := k
  exact ⟨⟨l1, (he _ (by decide) (by decide)).trans a1⟩, ⟨l2, (he _ (by decide) (by decide)).trans a2⟩, ⟨l3, (he _ (by decide) (by decide)).trans a3⟩, ⟨l4, (he _ (by decide) (by decide)).trans a4, b4⟩, ⟨l5, (he _ (by decide) (by decide)).trans a5⟩, ⟨l6, (he _ (by decide) (by decide)).trans a6⟩, ⟨l7, (he _ (by decide) (by decide)).trans a7⟩, ⟨l8, (he _ (by decide) (by decide)).trans a8⟩, ⟨l9, (he _ (by decide) (by decide)).trans a9⟩⟩
def ab_scl (σ : Nat → Int) (X : ab_X) : Prop := σ 8 = X 5 1 ∧ σ 10 = X 5 2 ∧ σ 11 = X 5 0 ∧ σ 32 = X 5 3
def ab_JM (X : ab_X) (Y : Int → Int64) (h : ab_H) : Prop := ∃ σ, h 68 = some (ab_mo σ) ∧ ab_scl σ X ∧ ab_mst h ∧ ab_per h X Y ∧ ab_wrk h
abbrev ab_frw (h h' : ab_H) : Prop := ∀ a, (a < 68 ∨ (68 < a ∧ a < 82) ∨ 90 < a) → h' a = h a
theorem ab_JM_w {h h' : ab_H} {X : ab_X} {Y : Int → Int64} {σ σ' : Nat → Int} (he : ab_frw h h') (hs : ab_scl σ X) (hst : ab_mst h) (hp : ab_per h X Y) (h68 : h' 68 = some (ab_mo σ')) (hsg : ab_sg σ σ') (hw : ab_wrk h') : ab_JM X Y h' :=
  ⟨σ', h68, ⟨hsg.1.trans hs.1, hsg.2.1.trans hs.2.1, hsg.2.2.1.trans hs.2.2.1, hsg.2.2.2.trans hs.2.2.2⟩, ab_mst_fr (fun a _ _ => he a (by omega)) hst, ab_per_fr (fun a ha => he a (by omega)) hp, hw⟩
/-- with numbers alike, forms alike: the whole table -/
theorem ab_fr_7 {L : Int → Int} {M : Int → Int → Int} {l : Int} (hl : 0 ≤ l ∧ l ≤ 5) (hv : ab_v2 M) (h : ab_sm2 M (ab_fm L l) (ab_wd l) (ab_wd l)) : (ab_rd (ab_wd l) 7 M (fun _ => 0) (ab_wd l).toNat).2.2 = (ab_fr L l).2.2 := by
  have hw := ab_wd_eq hl.1 (by omega)
  unfold ab_fr
  exact (ab_rd_C (g := fun _ => 0) (g' := fun _ => 0) (by omega) (by omega) hv h _ (by omega)).2.1
section ME
variable {h : ab_H} {n : Nat} {Q : ab_Q} {σ : Nat → Int} {L : Int → Int} {X : ab_X} {Y : Int → Int64}
theorem mp_layForms {x : Int} (hmo : h 68 = some (ab_mo σ)) (hst : ab_mst h) (h69 : h 69 = some (ab_ia 4 L)) (hL : ab_lok L) (hw : ab_wrk h) (hx : 0 ≤ x ∧ x ≤ 5)
    (q : ∀ h' σ', ab_frw h h' → h' 68 = some (ab_mo σ') → ab_sg σ σ' → σ' 24 = ab_DT L x → σ' 22 = (ab_fr L x).2.2.1 → ab_wrk h' → Q none h' n) : ab_G 148 0 [some (vr 68), some (vi x), none, none] [] h n (0, 0) Q := by
  obtain ⟨⟨T, w1⟩, ⟨f2, w2⟩, ⟨f3, w3⟩, ⟨M, w4, w4'⟩, ⟨f5, w5⟩, w6, w7, w8, w9⟩ := id hw
  have h7 : ab_inR 7 = True := eq_true (by omega)
  have hwx := ab_wd_eq hx.1 (by omega)
  simp only [s148_0, s148_1, true_and, and_true, true_implies, Option.toList_some, Option.toList_none, List.nil_append, List.cons_append, List.map_nil, List.map_cons, List.sum_nil, List.sum_cons, Nat.zero_le, ab_nl_n, ab_nl_i, ab_nl_r, ab_nl_0, ab_cat_i, ab_cat_r, ab_cat_l, Nat.reduceAdd, Nat.reduceLeDiff, Nat.add_zero, Nat.zero_add, reduceIte, List.getElem?_cons_succ, List.getElem?_cons_zero, List.length_cons, List.length_nil, List.set_cons_zero, List.set_cons_succ, true_or, or_true, Classical.not_not, not_true_eq_false, not_false_eq_true, ab_01r, ab_01z, ab_01n, false_implies, ab_tt, Nat.reduceLT, Nat.reduceEqDiff, Int.reduceNeg, Int.reduceLT, Int.reduceLE, Int.add_zero, Int.zero_add, List.append_nil, Int.reduceEq, ab_sum1, ab_ri_0, ab_ri_1, ab_ri_2, ab_ri_3, ab_ri_4, ab_ri_5, ab_ri_6, ab_ri_7, ab_ri_8, ab_ri_12, ab_ri_30, ab_ri_60, ab_ri_100, ab_ri_101, ab_ri_127, ab_ri_m1, ab_ri_m2, ab_ri_m3, ab_ri_m4, ab_ri_m5, ab_ri_m11, ab_ri_m13, ab_ri_m14, ab_ri_10, ab_vc, hmo, ab_sv_12_139, ab_sv_12_100, ab_sv_12_148, ab_sv_12_170, Nat.reduceLeDiff]
  refine mp_layAll hmo hst h69 hL w1 fun h1 e1 mad1 => ?_
  have hmo1 := (e1 68 (by decide)).trans hmo
  have hst1 := ab_mst_fr (fun a _ _ => e1 a (by omega)) hst
  simp only [s148_4, s148_5, s148_6, s148_7, s148_10, s148_13, s148_14, true_and, and_true, true_implies, Option.toList_some, Option.toList_none, List.nil_append, List.cons_append, List.map_nil, List.map_cons, List.sum_nil, List.sum_cons, Nat.zero_le, ab_nl_n, ab_nl_i, ab_nl_r, ab_nl_0, ab_cat_i, ab_cat_r, ab_cat_l, Nat.reduceAdd, Nat.reduceLeDiff, Nat.add_zero, Nat.zero_add, reduceIte, List.getElem?_cons_succ, List.getElem?_cons_zero, List.length_cons, List.length_nil, List.set_cons_zero, List.set_cons_succ, true_or, or_true, Classical.not_not, not_true_eq_false, not_false_eq_true, ab_01r, ab_01z, ab_01n, false_implies, ab_tt, Nat.reduceLT, Nat.reduceEqDiff, Int.reduceNeg, Int.reduceLT, Int.reduceLE, Int.add_zero, Int.zero_add, List.append_nil, Int.reduceEq, ab_sum1, ab_ri_0, ab_ri_1, ab_ri_2, ab_ri_3, ab_ri_4, ab_ri_5, ab_ri_6, ab_ri_7, ab_ri_8, ab_ri_12, ab_ri_30, ab_ri_60, ab_ri_100, ab_ri_101, ab_ri_127, ab_ri_m1, ab_ri_m2, ab_ri_m3, ab_ri_m4, ab_ri_m5, ab_ri_m11, ab_ri_m13, ab_ri_m14, ab_ri_10, ab_fd, ab_fs, ab_ai, ab_as, ab_fit, ab_tyf, tyX12, ab_mg_0, ab_mg_1, ab_mg_2, ab_mg_3, ab_mg_4, ab_mg_5, ab_mg_6, ab_mg_7, ab_mg_8, ab_mg_9, ab_mg_10, ab_mg_11, ab_mg_12, ab_mg_13, ab_mg_14, ab_mg_15, ab_mg_16, ab_mg_17, ab_mg_18, ab_mg_19, ab_mg_20, ab_mg_21, ab_mg_22, ab_mg_23, ab_mg_24, ab_mg_25, ab_mg_26, ab_mg_27, ab_mg_28, ab_mg_29, ab_mg_30, ab_mg_31, ab_mg_32, ab_mg_33, ab_ms_8, ab_ms_10, ab_ms_11, ab_ms_17, ab_ms_21, ab_ms_22, ab_ms_24, ab_ms_25, ab_ms_26, ab_ms_29, ab_ms_32, ab_mol_l, Nat.reduceLT, Nat.reduceLeDiff, ab_vc, hmo1, ab_sv_12_139, ab_sv_12_100, ab_sv_12_148, ab_sv_12_170, mp_many hmo1 hst1 hx]
  have hwr : ab_inR (ab_wd x) = True := eq_true (by omega)
  have key := ab_dn (P := fun i => ∀ h' tl l3, ab_nl [l3] = true → (∀ a, a ≠ 68 → a ≠ 83 → a ≠ 84 → a ≠ 85 → h' a = h1 a) → h' 68 = some (ab_mo (ab_su (ab_su σ 21 (ab_wd x)) 17 tl)) → (∃ f, h' 83 = some (ab_ia 7 f)) → (∃ f, h' 84 = some (ab_ia 7 f)) → h' 85 = some (ab_ia 84 (ab_flt (ab_gb (fun r c => if c < ab_wd x then ab_fm L x r c else 0) M 7 i 0))) → ab_G 148 15 [some (vr 68), some (vi x), some (vi i), l3] [] h' n (0, 0) Q) (a := 0) (e := ab_wd x) (by omega) ?_ ?_
  · have e0 : ab_su σ 21 (ab_wd x) = ab_su (ab_su σ 21 (ab_wd x)) 17 (σ 17) := by
      funext i
      unfold ab_su
      by_cases e : i = 17
      · rw [if_pos e, e, if_neg (by decide)]
      · rw [if_neg e]
    refine key _ (σ 17) none rfl (fun a a1 a2 a3 a4 => ab_hs_ne a1) (by rw [← e0]; exact ab_hs_self) ⟨f2, (ab_hs_ne (by decide)).trans ((e1 83 (by decide)).trans w2)⟩ ⟨f3, (ab_hs_ne (by decide)).trans ((e1 84 (by decide)).trans w3)⟩ ?_
    rw [ab_gb_0]
    exact (ab_hs_ne (by decide)).trans ((e1 85 (by decide)).trans w4)
  · intro h2 tl l3 z3 e2 m1 m2 m3 m4
    have st2 := ab_mst_fr (fun a _ _ => e2 a (by omega) (by omega) (by omega) (by omega)) hst1
    have e21 : ab_su (ab_su σ 21 (ab_wd x)) 17 tl 21 = ab_wd x := (ab_su_n (by decide)).trans ab_su_e
    have hv : ab_v2 (ab_gb (fun r c => if c < ab_wd x then ab_fm L x r c else 0) M 7 (ab_wd x) 0) := ab_gb_v (fun r c => by
      show 0 ≤ (if c < ab_wd x then ab_fm L x r c else 0) ∧ (if c < ab_wd x then ab_fm L x r c else 0) ≤ 100
      split
      · exact ab_FT_r _
      · omega) w4'
    have hsm : ab_sm2 (ab_gb (fun r c => if c < ab_wd x then ab_fm L x r c else 0) M 7 (ab_wd x) 0) (ab_fm L x) (ab_wd x) (ab_wd x) := by
      intro r c r0 r1 c0 c1
      unfold ab_gb
      rw [if_pos (Or.inl ⟨r0, r1, c0, by omega⟩)]
      show (if c < ab_wd x then ab_fm L x r c else 0) = _
      rw [if_pos c1]
    have efr := ab_fr_7 hx hv hsm
    have ok := ab_rd_ok (R := ab_wd x) (C := 7) (g := fun _ => 0) (by omega) (by omega) hv (ab_wd x).toNat
    rw [s148_15]
    simp only [s148_16, s148_17, s148_20, s148_73, s148_74, s148_75, s148_78, true_and, and_true, true_implies, Option.toList_some, Option.toList_none, List.nil_append, List.cons_append, List.map_nil, List.map_cons, List.sum_nil, List.sum_cons, Nat.zero_le, ab_nl_n, ab_nl_i, ab_nl_r, ab_nl_0, ab_cat_i, ab_cat_r, ab_cat_l, Nat.reduceAdd, Nat.reduceLeDiff, Nat.add_zero, Nat.zero_add, reduceIte, List.getElem?_cons_succ, List.getElem?_cons_zero, List.length_cons, List.length_nil, List.set_cons_zero, List.set_cons_succ, true_or, or_true, Classical.not_not, not_true_eq_false, not_false_eq_true, ab_01r, ab_01z, ab_01n, false_implies, ab_tt, Nat.reduceLT, Nat.reduceEqDiff, Int.reduceNeg, Int.reduceLT, Int.reduceLE, Int.add_zero, Int.zero_add, List.append_nil, Int.reduceEq, ab_sum1, ab_ri_0, ab_ri_1, ab_ri_2, ab_ri_3, ab_ri_4, ab_ri_5, ab_ri_6, ab_ri_7, ab_ri_8, ab_ri_12, ab_ri_30, ab_ri_60, ab_ri_100, ab_ri_101, ab_ri_127, ab_ri_m1, ab_ri_m2, ab_ri_m3, ab_ri_m4, ab_ri_m5, ab_ri_m11, ab_ri_m13, ab_ri_m14, ab_ri_10, ab_fd, ab_fs, ab_ai, ab_as, ab_fit, ab_tyf, tyX12, ab_mg_0, ab_mg_1, ab_mg_2, ab_mg_3, ab_mg_4, ab_mg_5, ab_mg_6, ab_mg_7, ab_mg_8, ab_mg_9, ab_mg_10, ab_mg_11, ab_mg_12, ab_mg_13, ab_mg_14, ab_mg_15, ab_mg_16, ab_mg_17, ab_mg_18, ab_mg_19, ab_mg_20, ab_mg_21, ab_mg_22, ab_mg_23, ab_mg_24, ab_mg_25, ab_mg_26, ab_mg_27, ab_mg_28, ab_mg_29, ab_mg_30, ab_mg_31, ab_mg_32, ab_mg_33, ab_ms_8, ab_ms_10, ab_ms_11, ab_ms_17, ab_ms_21, ab_ms_22, ab_ms_24, ab_ms_25, ab_ms_26, ab_ms_29, ab_ms_32, ab_mol_l, Nat.reduceLT, Nat.reduceLeDiff, m1, e21, hwr, Int.le_refl, ab_vc, ab_sv_12_139, ab_sv_12_100, ab_sv_12_148, ab_sv_12_170, z3]
    refine mp_steps m1 e21 m4 hv ((e2 86 (by decide) (by decide) (by decide) (by decide)).trans ((e1 86 (by decide)).trans w5)) (by omega) (by omega) fun pa' hpa => ?_
    refine s148_81.mpr ?_
    refine q _ _ (fun a ha => (ab_sth_o (by omega) (by omega) (by omega)).trans ((e2 a (by omega) (by omega) (by omega) (by omega)).trans (e1 a (by omega)))) ab_sth_68 ?_ ?_ ?_ ?_
    · exact ab_sg_t (ab_sg_su (by decide)) (ab_sg_t (ab_sg_su (by decide)) (ab_sg_t (ab_sg_su (by decide)) (ab_sg_su (by decide))))
    · rw [ab_s3_24, efr]; rfl
    · rw [ab_s3_22, efr]
    · obtain ⟨g2, m2⟩ := m2
      obtain ⟨g3, m3⟩ := m3
      have o := fun a (ha : a ≠ 68) (hb : a ≠ 85) (hc : a ≠ 86) => ab_sth_o (h := h2) (σ := ab_su (ab_su σ 21 (ab_wd x)) 17 tl) (M := (ab_rd (ab_wd x) 7 (ab_gb (fun r c => if c < ab_wd x then ab_fm L x r c else 0) M 7 (ab_wd x) 0) (fun _ => 0) (ab_wd x).toNat).1) (F := (ab_rd (ab_wd x) 7 (ab_gb (fun r c => if c < ab_wd x then ab_fm L x r c else 0) M 7 (ab_wd x) 0) (fun _ => 0) (ab_wd x).toNat).2.2.1) (P := (ab_rd (ab_wd x) 7 (ab_gb (fun r c => if c < ab_wd x then ab_fm L x r c else 0) M 7 (ab_wd x) 0) (fun _ => 0) (ab_wd x).toNat).2.2.2) (pa := pa') (a := a) ha hb hc
      obtain ⟨T1, mad1, -⟩ := mad1
      have e12 : ∀ a, 86 < a → h2 a = h a := fun a ha => (e2 a (by omega) (by omega) (by omega) (by omega)).trans (e1 a (by omega))
      obtain ⟨f6, w6⟩ := w6
      obtain ⟨f7, w7⟩ := w7
      obtain ⟨f8, w8⟩ := w8
      obtain ⟨f9, w9⟩ := w9
      exact ⟨⟨T1, (o 82 (by decide) (by decide) (by decide)).trans ((e2 82 (by decide) (by decide) (by decide) (by decide)).trans mad1)⟩, ⟨g2, (o 83 (by decide) (by decide) (by decide)).trans m2⟩, ⟨g3, (o 84 (by decide) (by decide) (by decide)).trans m3⟩, ⟨_, ab_sth_85, ok.1⟩, ⟨_, ab_sth_86⟩, ⟨f6, (o 87 (by decide) (by decide) (by decide)).trans ((e12 87 (by decide)).trans w6)⟩, ⟨f7, (o 88 (by decide) (by decide) (by decide)).trans ((e12 88 (by decide)).trans w7)⟩, ⟨f8, (o 89 (by decide) (by decide) (by decide)).trans ((e12 89 (by decide)).trans w8)⟩, ⟨f9, (o 90 (by decide) (by decide) (by decide)).trans ((e12 90 (by decide)).trans w9)⟩⟩
  · intro i i0 i9 ih h2 tl l3 z3 e2 m1 m2 m3 m4
    have ci : ¬ ab_wd x ≤ i := by omega
    have hir : ab_inR i = True := eq_true (by omega)
    have e21 : ∀ tl, ab_su (ab_su σ 21 (ab_wd x)) 17 tl 21 = ab_wd x := fun tl => (ab_su_n (by decide)).trans ab_su_e
    rw [s148_15]
    simp only [s148_16, s148_17, s148_20, s148_23, s148_24, true_and, and_true, true_implies, Option.toList_some, Option.toList_none, List.nil_append, List.cons_append, List.map_nil, List.map_cons, List.sum_nil, List.sum_cons, Nat.zero_le, ab_nl_n, ab_nl_i, ab_nl_r, ab_nl_0, ab_cat_i, ab_cat_r, ab_cat_l, Nat.reduceAdd, Nat.reduceLeDiff, Nat.add_zero, Nat.zero_add, reduceIte, List.getElem?_cons_succ, List.getElem?_cons_zero, List.length_cons, List.length_nil, List.set_cons_zero, List.set_cons_succ, true_or, or_true, Classical.not_not, not_true_eq_false, not_false_eq_true, ab_01r, ab_01z, ab_01n, false_implies, ab_tt, Nat.reduceLT, Nat.reduceEqDiff, Int.reduceNeg, Int.reduceLT, Int.reduceLE, Int.add_zero, Int.zero_add, List.append_nil, Int.reduceEq, ab_sum1, ab_ri_0, ab_ri_1, ab_ri_2, ab_ri_3, ab_ri_4, ab_ri_5, ab_ri_6, ab_ri_7, ab_ri_8, ab_ri_12, ab_ri_30, ab_ri_60, ab_ri_100, ab_ri_101, ab_ri_127, ab_ri_m1, ab_ri_m2, ab_ri_m3, ab_ri_m4, ab_ri_m5, ab_ri_m11, ab_ri_m13, ab_ri_m14, ab_ri_10, ab_fd, ab_fs, ab_ai, ab_as, ab_fit, ab_tyf, tyX12, ab_mg_0, ab_mg_1, ab_mg_2, ab_mg_3, ab_mg_4, ab_mg_5, ab_mg_6, ab_mg_7, ab_mg_8, ab_mg_9, ab_mg_10, ab_mg_11, ab_mg_12, ab_mg_13, ab_mg_14, ab_mg_15, ab_mg_16, ab_mg_17, ab_mg_18, ab_mg_19, ab_mg_20, ab_mg_21, ab_mg_22, ab_mg_23, ab_mg_24, ab_mg_25, ab_mg_26, ab_mg_27, ab_mg_28, ab_mg_29, ab_mg_30, ab_mg_31, ab_mg_32, ab_mg_33, ab_ms_8, ab_ms_10, ab_ms_11, ab_ms_17, ab_ms_21, ab_ms_22, ab_ms_24, ab_ms_25, ab_ms_26, ab_ms_29, ab_ms_32, ab_mol_l, Nat.reduceLT, Nat.reduceLeDiff, m1, e21, hwr, hir, ci, z3]
    have key := ab_dn (P := fun j => ∀ h' tl, (∀ a, a ≠ 68 → a ≠ 83 → a ≠ 84 → a ≠ 85 → h' a = h1 a) → h' 68 = some (ab_mo (ab_su (ab_su σ 21 (ab_wd x)) 17 tl)) → (∃ f, h' 83 = some (ab_ia 7 f)) → (∃ f, h' 84 = some (ab_ia 7 f)) → h' 85 = some (ab_ia 84 (ab_flt (ab_gb (fun r c => if c < ab_wd x then ab_fm L x r c else 0) M 7 i j))) → ab_G 148 25 [some (vr 68), some (vi x), some (vi i), some (vi j)] [] h' n (0, 0) Q) (a := 0) (e := 7) (by decide) ?_ ?_
    · exact key h2 tl e2 m1 m2 m3 m4
    · intro h3 tl e3 m1 m2 m3 m4
      rw [ab_gb_n i0] at m4
      have ih := ih h3 tl (some (vi 7)) rfl e3 m1 m2 m3 m4
      rw [s148_25]
      simp only [s148_26, s148_28, s148_67, s148_70, true_and, and_true, true_implies, Option.toList_some, Option.toList_none, List.nil_append, List.cons_append, List.map_nil, List.map_cons, List.sum_nil, List.sum_cons, Nat.zero_le, ab_nl_n, ab_nl_i, ab_nl_r, ab_nl_0, ab_cat_i, ab_cat_r, ab_cat_l, Nat.reduceAdd, Nat.reduceLeDiff, Nat.add_zero, Nat.zero_add, reduceIte, List.getElem?_cons_succ, List.getElem?_cons_zero, List.length_cons, List.length_nil, List.set_cons_zero, List.set_cons_succ, true_or, or_true, Classical.not_not, not_true_eq_false, not_false_eq_true, ab_01r, ab_01z, ab_01n, false_implies, ab_tt, Nat.reduceLT, Nat.reduceEqDiff, Int.reduceNeg, Int.reduceLT, Int.reduceLE, Int.add_zero, Int.zero_add, List.append_nil, Int.reduceEq, ab_sum1, ab_ri_0, ab_ri_1, ab_ri_2, ab_ri_3, ab_ri_4, ab_ri_5, ab_ri_6, ab_ri_7, ab_ri_8, ab_ri_12, ab_ri_30, ab_ri_60, ab_ri_100, ab_ri_101, ab_ri_127, ab_ri_m1, ab_ri_m2, ab_ri_m3, ab_ri_m4, ab_ri_m5, ab_ri_m11, ab_ri_m13, ab_ri_m14, ab_ri_10, h7, Int.le_refl, ih]
    · intro j j0 j9 jh h3 tl e3 m1 m2 m3 m4
      have cj : ¬ 7 ≤ j := by omega
      have hjr : ab_inR j = True := eq_true (by omega)
      have x0 : 0 ≤ 7 * i + j := by omega
      have x1 : 7 * i + j < ((84 : Nat) : Int) := by omega
      have ui1 : ∀ (N : Int → Int → Int) y, ab_ui (ab_flt N) (7 * i + j) y = ab_flt (ab_u2 N i j y) := fun N y => by rw [show 7 * i + j = i * 7 + j by omega]; exact ab_flt_ui j0 j9
      have es := ab_gb_s (G := fun r c => if c < ab_wd x then ab_fm L x r c else 0) (M := M) (C := 7) (i := i) (k := j) j0
      rw [s148_25]
      by_cases cw : j < ab_wd x
      · have cwn : ¬ ab_wd x ≤ j := by omega
        obtain ⟨g2, m2⟩ := m2
        obtain ⟨g3, m3⟩ := m3
        have st3 := ab_mst_fr (fun a _ _ => e3 a (by omega) (by omega) (by omega) (by omega)) hst1
        simp only [s148_26, s148_28, s148_31, s148_32, s148_35, s148_37, s148_38, s148_39, s148_40, s148_41, s148_42, s148_43, s148_46, s148_49, s148_50, s148_51, s148_52, s148_53, true_and, and_true, true_implies, Option.toList_some, Option.toList_none, List.nil_append, List.cons_append, List.map_nil, List.map_cons, List.sum_nil, List.sum_cons, Nat.zero_le, ab_nl_n, ab_nl_i, ab_nl_r, ab_nl_0, ab_cat_i, ab_cat_r, ab_cat_l, Nat.reduceAdd, Nat.reduceLeDiff, Nat.add_zero, Nat.zero_add, reduceIte, List.getElem?_cons_succ, List.getElem?_cons_zero, List.length_cons, List.length_nil, List.set_cons_zero, List.set_cons_succ, true_or, or_true, Classical.not_not, not_true_eq_false, not_false_eq_true, ab_01r, ab_01z, ab_01n, false_implies, ab_tt, Nat.reduceLT, Nat.reduceEqDiff, Int.reduceNeg, Int.reduceLT, Int.reduceLE, Int.add_zero, Int.zero_add, List.append_nil, Int.reduceEq, ab_sum1, ab_ri_0, ab_ri_1, ab_ri_2, ab_ri_3, ab_ri_4, ab_ri_5, ab_ri_6, ab_ri_7, ab_ri_8, ab_ri_12, ab_ri_30, ab_ri_60, ab_ri_100, ab_ri_101, ab_ri_127, ab_ri_m1, ab_ri_m2, ab_ri_m3, ab_ri_m4, ab_ri_m5, ab_ri_m11, ab_ri_m13, ab_ri_m14, ab_ri_10, ab_fd, ab_fs, ab_ai, ab_as, ab_fit, ab_tyf, tyX12, ab_mg_0, ab_mg_1, ab_mg_2, ab_mg_3, ab_mg_4, ab_mg_5, ab_mg_6, ab_mg_7, ab_mg_8, ab_mg_9, ab_mg_10, ab_mg_11, ab_mg_12, ab_mg_13, ab_mg_14, ab_mg_15, ab_mg_16, ab_mg_17, ab_mg_18, ab_mg_19, ab_mg_20, ab_mg_21, ab_mg_22, ab_mg_23, ab_mg_24, ab_mg_25, ab_mg_26, ab_mg_27, ab_mg_28, ab_mg_29, ab_mg_30, ab_mg_31, ab_mg_32, ab_mg_33, ab_ms_8, ab_ms_10, ab_ms_11, ab_ms_17, ab_ms_21, ab_ms_22, ab_ms_24, ab_ms_25, ab_ms_26, ab_ms_29, ab_ms_32, ab_mol_l, Nat.reduceLT, Nat.reduceLeDiff, ab_vc, ab_sv_12_139, ab_sv_12_100, ab_sv_12_148, ab_sv_12_170, m1, e21, h7, hwr, hjr, cj, cwn]
        refine mp_formOf m1 st3 hL (ab_mad_fr (e3 82 (by decide) (by decide) (by decide) (by decide)) mad1) m2 m3 hx ⟨i0, by omega⟩ ⟨j0, cw⟩ fun h4 tl4 e4 n1 n2 n3 => ?_
        have n4 := (e4 85 (by decide) (by decide) (by decide)).trans m4
        rw [ab_su_su] at n1
        have ev : ab_FT L ((ab_START x + i) * 19 + (ab_START x + j)) = (fun r c => if c < ab_wd x then ab_fm L x r c else 0) i j := by
          show _ = if j < ab_wd x then ab_fm L x i j else 0
          rw [if_pos cw]
          rfl
        rw [ev]
        obtain ⟨g2', n2⟩ := n2
        obtain ⟨g3', n3⟩ := n3
        have jh := jh (ab_hs h4 85 (ab_ia 84 (ab_flt (ab_gb (fun r c => if c < ab_wd x then ab_fm L x r c else 0) M 7 i (j + 1))))) tl4 (fun a a1 a2 a3 a4 => (ab_hs_ne a4).trans ((e4 a a1 a2 a3).trans (e3 a a1 a2 a3 a4))) ((ab_hs_ne (by decide)).trans n1) ⟨g2', (ab_hs_ne (by decide)).trans n2⟩ ⟨g3', (ab_hs_ne (by decide)).trans n3⟩ ab_hs_self
        simp only [s148_56, s148_60, s148_61, s148_64, true_and, and_true, true_implies, Option.toList_some, Option.toList_none, List.nil_append, List.cons_append, List.map_nil, List.map_cons, List.sum_nil, List.sum_cons, Nat.zero_le, ab_nl_n, ab_nl_i, ab_nl_r, ab_nl_0, ab_cat_i, ab_cat_r, ab_cat_l, Nat.reduceAdd, Nat.reduceLeDiff, Nat.add_zero, Nat.zero_add, reduceIte, List.getElem?_cons_succ, List.getElem?_cons_zero, List.length_cons, List.length_nil, List.set_cons_zero, List.set_cons_succ, true_or, or_true, Classical.not_not, not_true_eq_false, not_false_eq_true, ab_01r, ab_01z, ab_01n, false_implies, ab_tt, Nat.reduceLT, Nat.reduceEqDiff, Int.reduceNeg, Int.reduceLT, Int.reduceLE, Int.add_zero, Int.zero_add, List.append_nil, Int.reduceEq, ab_sum1, ab_ri_0, ab_ri_1, ab_ri_2, ab_ri_3, ab_ri_4, ab_ri_5, ab_ri_6, ab_ri_7, ab_ri_8, ab_ri_12, ab_ri_30, ab_ri_60, ab_ri_100, ab_ri_101, ab_ri_127, ab_ri_m1, ab_ri_m2, ab_ri_m3, ab_ri_m4, ab_ri_m5, ab_ri_m11, ab_ri_m13, ab_ri_m14, ab_ri_10, ab_fd, ab_fs, ab_ai, ab_as, ab_fit, ab_tyf, tyX12, ab_mg_0, ab_mg_1, ab_mg_2, ab_mg_3, ab_mg_4, ab_mg_5, ab_mg_6, ab_mg_7, ab_mg_8, ab_mg_9, ab_mg_10, ab_mg_11, ab_mg_12, ab_mg_13, ab_mg_14, ab_mg_15, ab_mg_16, ab_mg_17, ab_mg_18, ab_mg_19, ab_mg_20, ab_mg_21, ab_mg_22, ab_mg_23, ab_mg_24, ab_mg_25, ab_mg_26, ab_mg_27, ab_mg_28, ab_mg_29, ab_mg_30, ab_mg_31, ab_mg_32, ab_mg_33, ab_ms_8, ab_ms_10, ab_ms_11, ab_ms_17, ab_ms_21, ab_ms_22, ab_ms_24, ab_ms_25, ab_ms_26, ab_ms_29, ab_ms_32, ab_mol_l, Nat.reduceLT, Nat.reduceLeDiff, n4, x0, x1, ui1, es, jh]
      · have cwn : ab_wd x ≤ j := by omega
        have es2 : ab_u2 (ab_gb (fun r c => if c < ab_wd x then ab_fm L x r c else 0) M 7 i j) i j 0 = ab_gb (fun r c => if c < ab_wd x then ab_fm L x r c else 0) M 7 i (j + 1) := by
          have e := es
          rw [if_neg cw] at e
          exact e
        obtain ⟨g2, m2⟩ := m2
        obtain ⟨g3, m3⟩ := m3
        have jh := jh (ab_hs h3 85 (ab_ia 84 (ab_flt (ab_gb (fun r c => if c < ab_wd x then ab_fm L x r c else 0) M 7 i (j + 1))))) tl (fun a a1 a2 a3 a4 => (ab_hs_ne a4).trans (e3 a a1 a2 a3 a4)) ((ab_hs_ne (by decide)).trans m1) ⟨g2, (ab_hs_ne (by decide)).trans m2⟩ ⟨g3, (ab_hs_ne (by decide)).trans m3⟩ ab_hs_self
        simp only [s148_26, s148_28, s148_31, s148_32, s148_35, s148_37, s148_38, s148_39, s148_40, s148_41, s148_42, s148_43, s148_46, s148_59, s148_60, s148_61, s148_64, true_and, and_true, true_implies, Option.toList_some, Option.toList_none, List.nil_append, List.cons_append, List.map_nil, List.map_cons, List.sum_nil, List.sum_cons, Nat.zero_le, ab_nl_n, ab_nl_i, ab_nl_r, ab_nl_0, ab_cat_i, ab_cat_r, ab_cat_l, Nat.reduceAdd, Nat.reduceLeDiff, Nat.add_zero, Nat.zero_add, reduceIte, List.getElem?_cons_succ, List.getElem?_cons_zero, List.length_cons, List.length_nil, List.set_cons_zero, List.set_cons_succ, true_or, or_true, Classical.not_not, not_true_eq_false, not_false_eq_true, ab_01r, ab_01z, ab_01n, false_implies, ab_tt, Nat.reduceLT, Nat.reduceEqDiff, Int.reduceNeg, Int.reduceLT, Int.reduceLE, Int.add_zero, Int.zero_add, List.append_nil, Int.reduceEq, ab_sum1, ab_ri_0, ab_ri_1, ab_ri_2, ab_ri_3, ab_ri_4, ab_ri_5, ab_ri_6, ab_ri_7, ab_ri_8, ab_ri_12, ab_ri_30, ab_ri_60, ab_ri_100, ab_ri_101, ab_ri_127, ab_ri_m1, ab_ri_m2, ab_ri_m3, ab_ri_m4, ab_ri_m5, ab_ri_m11, ab_ri_m13, ab_ri_m14, ab_ri_10, ab_fd, ab_fs, ab_ai, ab_as, ab_fit, ab_tyf, tyX12, ab_mg_0, ab_mg_1, ab_mg_2, ab_mg_3, ab_mg_4, ab_mg_5, ab_mg_6, ab_mg_7, ab_mg_8, ab_mg_9, ab_mg_10, ab_mg_11, ab_mg_12, ab_mg_13, ab_mg_14, ab_mg_15, ab_mg_16, ab_mg_17, ab_mg_18, ab_mg_19, ab_mg_20, ab_mg_21, ab_mg_22, ab_mg_23, ab_mg_24, ab_mg_25, ab_mg_26, ab_mg_27, ab_mg_28, ab_mg_29, ab_mg_30, ab_mg_31, ab_mg_32, ab_mg_33, ab_ms_8, ab_ms_10, ab_ms_11, ab_ms_17, ab_ms_21, ab_ms_22, ab_ms_24, ab_ms_25, ab_ms_26, ab_ms_29, ab_ms_32, ab_mol_l, Nat.reduceLT, Nat.reduceLeDiff, m1, m4, e21, h7, hwr, hjr, cj, cwn, x0, x1, ui1, es2, jh]
theorem xm_det {lv : Int} (J : ab_JM X Y h) (I : ab_XI X) (hlv : ab_inR lv) (q : ∀ h', ab_eqo 68 91 h h' → ab_JM X Y h' → Q (some (vi (ab_s_det X lv))) h' n) : ab_G 149 0 [some (vr 68), some (vi lv)] [] h n (0, 0) Q := by
  have J' := J
  obtain ⟨σ, hmo, hsc, hst, hp, hw⟩ := J'
  obtain ⟨l, k1, k2⟩ := hp.1
  unfold ab_s_det at q
  by_cases c : 0 ≤ lv ∧ lv ≤ 5
  · rw [if_pos c, ← ab_DT_cg k2] at q
    simp only [s149_0, s149_1, s149_4, s149_7, s149_8, s149_9, s149_10, s149_11, true_and, and_true, true_implies, Option.toList_some, Option.toList_none, List.nil_append, List.cons_append, List.map_nil, List.map_cons, List.sum_nil, List.sum_cons, Nat.zero_le, ab_nl_n, ab_nl_i, ab_nl_r, ab_nl_0, ab_cat_i, ab_cat_r, ab_cat_l, Nat.reduceAdd, Nat.reduceLeDiff, Nat.add_zero, Nat.zero_add, reduceIte, List.getElem?_cons_succ, List.getElem?_cons_zero, List.length_cons, List.length_nil, List.set_cons_zero, List.set_cons_succ, true_or, or_true, Classical.not_not, not_true_eq_false, not_false_eq_true, ab_01r, ab_01z, ab_01n, false_implies, ab_tt, Nat.reduceLT, Nat.reduceEqDiff, Int.reduceNeg, Int.reduceLT, Int.reduceLE, Int.add_zero, Int.zero_add, List.append_nil, Int.reduceEq, ab_sum1, ab_ri_0, ab_ri_1, ab_ri_2, ab_ri_3, ab_ri_4, ab_ri_5, ab_ri_6, ab_ri_7, ab_ri_8, ab_ri_12, ab_ri_30, ab_ri_60, ab_ri_100, ab_ri_101, ab_ri_127, ab_ri_m1, ab_ri_m2, ab_ri_m3, ab_ri_m4, ab_ri_m5, ab_ri_m11, ab_ri_m13, ab_ri_m14, ab_ri_10, mp_isLevel hlv, ab_01n, ab_01z, c, ab_vc, hmo, ab_sv_12_173, Nat.reduceLeDiff]
    refine mp_layForms hmo hst k1 (ab_lok_cg k2 I.1.1) hw c fun h' σ' he m1 m2 m3 m4 m5 => ?_
    rw [← m3] at q
    have q := q h' (fun a ha => he a (by omega)) (ab_JM_w he hsc hst hp m1 m2 m5)
    simp only [s149_14, s149_15, s149_18, true_and, and_true, true_implies, Option.toList_some, Option.toList_none, List.nil_append, List.cons_append, List.map_nil, List.map_cons, List.sum_nil, List.sum_cons, Nat.zero_le, ab_nl_n, ab_nl_i, ab_nl_r, ab_nl_0, ab_cat_i, ab_cat_r, ab_cat_l, Nat.reduceAdd, Nat.reduceLeDiff, Nat.add_zero, Nat.zero_add, reduceIte, List.getElem?_cons_succ, List.getElem?_cons_zero, List.length_cons, List.length_nil, List.set_cons_zero, List.set_cons_succ, true_or, or_true, Classical.not_not, not_true_eq_false, not_false_eq_true, ab_01r, ab_01z, ab_01n, false_implies, ab_tt, Nat.reduceLT, Nat.reduceEqDiff, Int.reduceNeg, Int.reduceLT, Int.reduceLE, Int.add_zero, Int.zero_add, List.append_nil, Int.reduceEq, ab_sum1, ab_ri_0, ab_ri_1, ab_ri_2, ab_ri_3, ab_ri_4, ab_ri_5, ab_ri_6, ab_ri_7, ab_ri_8, ab_ri_12, ab_ri_30, ab_ri_60, ab_ri_100, ab_ri_101, ab_ri_127, ab_ri_m1, ab_ri_m2, ab_ri_m3, ab_ri_m4, ab_ri_m5, ab_ri_m11, ab_ri_m13, ab_ri_m14, ab_ri_10, ab_fd, ab_fs, ab_ai, ab_as, ab_fit, ab_tyf, tyX12, ab_mg_0, ab_mg_1, ab_mg_2, ab_mg_3, ab_mg_4, ab_mg_5, ab_mg_6, ab_mg_7, ab_mg_8, ab_mg_9, ab_mg_10, ab_mg_11, ab_mg_12, ab_mg_13, ab_mg_14, ab_mg_15, ab_mg_16, ab_mg_17, ab_mg_18, ab_mg_19, ab_mg_20, ab_mg_21, ab_mg_22, ab_mg_23, ab_mg_24, ab_mg_25, ab_mg_26, ab_mg_27, ab_mg_28, ab_mg_29, ab_mg_30, ab_mg_31, ab_mg_32, ab_mg_33, ab_ms_8, ab_ms_10, ab_ms_11, ab_ms_17, ab_ms_21, ab_ms_22, ab_ms_24, ab_ms_25, ab_ms_26, ab_ms_29, ab_ms_32, ab_mol_l, Nat.reduceLT, Nat.reduceLeDiff, m1, q]
  · rw [if_neg c] at q
    have q := q h (fun _ _ => rfl) J
    simp only [s149_0, s149_1, s149_4, s149_7, s149_8, s149_9, s149_10, s149_11, true_and, and_true, true_implies, Option.toList_some, Option.toList_none, List.nil_append, List.cons_append, List.map_nil, List.map_cons, List.sum_nil, List.sum_cons, Nat.zero_le, ab_nl_n, ab_nl_i, ab_nl_r, ab_nl_0, ab_cat_i, ab_cat_r, ab_cat_l, Nat.reduceAdd, Nat.reduceLeDiff, Nat.add_zero, Nat.zero_add, reduceIte, List.getElem?_cons_succ, List.getElem?_cons_zero, List.length_cons, List.length_nil, List.set_cons_zero, List.set_cons_succ, true_or, or_true, Classical.not_not, not_true_eq_false, not_false_eq_true, ab_01r, ab_01z, ab_01n, false_implies, ab_tt, Nat.reduceLT, Nat.reduceEqDiff, Int.reduceNeg, Int.reduceLT, Int.reduceLE, Int.add_zero, Int.zero_add, List.append_nil, Int.reduceEq, ab_sum1, ab_ri_0, ab_ri_1, ab_ri_2, ab_ri_3, ab_ri_4, ab_ri_5, ab_ri_6, ab_ri_7, ab_ri_8, ab_ri_12, ab_ri_30, ab_ri_60, ab_ri_100, ab_ri_101, ab_ri_127, ab_ri_m1, ab_ri_m2, ab_ri_m3, ab_ri_m4, ab_ri_m5, ab_ri_m11, ab_ri_m13, ab_ri_m14, ab_ri_10, mp_isLevel hlv, ab_01n, ab_01z, c, q]
theorem xm_rank {lv : Int} (J : ab_JM X Y h) (I : ab_XI X) (hlv : ab_inR lv) (q : ∀ h', ab_eqo 68 91 h h' → ab_JM X Y h' → Q (some (vi (ab_s_rank X lv))) h' n) : ab_G 150 0 [some (vr 68), some (vi lv)] [] h n (0, 0) Q := by
  have J' := J
  obtain ⟨σ, hmo, hsc, hst, hp, hw⟩ := J'
  obtain ⟨l, k1, k2⟩ := hp.1
  unfold ab_s_rank at q
  by_cases c : 0 ≤ lv ∧ lv ≤ 5
  · rw [if_pos c, ← ab_fr_cg k2] at q
    simp only [s150_0, s150_1, s150_4, s150_7, s150_8, s150_9, s150_10, s150_11, true_and, and_true, true_implies, Option.toList_some, Option.toList_none, List.nil_append, List.cons_append, List.map_nil, List.map_cons, List.sum_nil, List.sum_cons, Nat.zero_le, ab_nl_n, ab_nl_i, ab_nl_r, ab_nl_0, ab_cat_i, ab_cat_r, ab_cat_l, Nat.reduceAdd, Nat.reduceLeDiff, Nat.add_zero, Nat.zero_add, reduceIte, List.getElem?_cons_succ, List.getElem?_cons_zero, List.length_cons, List.length_nil, List.set_cons_zero, List.set_cons_succ, true_or, or_true, Classical.not_not, not_true_eq_false, not_false_eq_true, ab_01r, ab_01z, ab_01n, false_implies, ab_tt, Nat.reduceLT, Nat.reduceEqDiff, Int.reduceNeg, Int.reduceLT, Int.reduceLE, Int.add_zero, Int.zero_add, List.append_nil, Int.reduceEq, ab_sum1, ab_ri_0, ab_ri_1, ab_ri_2, ab_ri_3, ab_ri_4, ab_ri_5, ab_ri_6, ab_ri_7, ab_ri_8, ab_ri_12, ab_ri_30, ab_ri_60, ab_ri_100, ab_ri_101, ab_ri_127, ab_ri_m1, ab_ri_m2, ab_ri_m3, ab_ri_m4, ab_ri_m5, ab_ri_m11, ab_ri_m13, ab_ri_m14, ab_ri_10, mp_isLevel hlv, ab_01n, ab_01z, c, ab_vc, hmo, ab_sv_12_173, Nat.reduceLeDiff]
    refine mp_layForms hmo hst k1 (ab_lok_cg k2 I.1.1) hw c fun h' σ' he m1 m2 m3 m4 m5 => ?_
    rw [← m4] at q
    have q := q h' (fun a ha => he a (by omega)) (ab_JM_w he hsc hst hp m1 m2 m5)
    simp only [s150_14, s150_15, s150_18, true_and, and_true, true_implies, Option.toList_some, Option.toList_none, List.nil_append, List.cons_append, List.map_nil, List.map_cons, List.sum_nil, List.sum_cons, Nat.zero_le, ab_nl_n, ab_nl_i, ab_nl_r, ab_nl_0, ab_cat_i, ab_cat_r, ab_cat_l, Nat.reduceAdd, Nat.reduceLeDiff, Nat.add_zero, Nat.zero_add, reduceIte, List.getElem?_cons_succ, List.getElem?_cons_zero, List.length_cons, List.length_nil, List.set_cons_zero, List.set_cons_succ, true_or, or_true, Classical.not_not, not_true_eq_false, not_false_eq_true, ab_01r, ab_01z, ab_01n, false_implies, ab_tt, Nat.reduceLT, Nat.reduceEqDiff, Int.reduceNeg, Int.reduceLT, Int.reduceLE, Int.add_zero, Int.zero_add, List.append_nil, Int.reduceEq, ab_sum1, ab_ri_0, ab_ri_1, ab_ri_2, ab_ri_3, ab_ri_4, ab_ri_5, ab_ri_6, ab_ri_7, ab_ri_8, ab_ri_12, ab_ri_30, ab_ri_60, ab_ri_100, ab_ri_101, ab_ri_127, ab_ri_m1, ab_ri_m2, ab_ri_m3, ab_ri_m4, ab_ri_m5, ab_ri_m11, ab_ri_m13, ab_ri_m14, ab_ri_10, ab_fd, ab_fs, ab_ai, ab_as, ab_fit, ab_tyf, tyX12, ab_mg_0, ab_mg_1, ab_mg_2, ab_mg_3, ab_mg_4, ab_mg_5, ab_mg_6, ab_mg_7, ab_mg_8, ab_mg_9, ab_mg_10, ab_mg_11, ab_mg_12, ab_mg_13, ab_mg_14, ab_mg_15, ab_mg_16, ab_mg_17, ab_mg_18, ab_mg_19, ab_mg_20, ab_mg_21, ab_mg_22, ab_mg_23, ab_mg_24, ab_mg_25, ab_mg_26, ab_mg_27, ab_mg_28, ab_mg_29, ab_mg_30, ab_mg_31, ab_mg_32, ab_mg_33, ab_ms_8, ab_ms_10, ab_ms_11, ab_ms_17, ab_ms_21, ab_ms_22, ab_ms_24, ab_ms_25, ab_ms_26, ab_ms_29, ab_ms_32, ab_mol_l, Nat.reduceLT, Nat.reduceLeDiff, m1, q]
  · rw [if_neg c] at q
    have q := q h (fun _ _ => rfl) J
    simp only [s150_0, s150_1, s150_4, s150_7, s150_8, s150_9, s150_10, s150_11, true_and, and_true, true_implies, Option.toList_some, Option.toList_none, List.nil_append, List.cons_append, List.map_nil, List.map_cons, List.sum_nil, List.sum_cons, Nat.zero_le, ab_nl_n, ab_nl_i, ab_nl_r, ab_nl_0, ab_cat_i, ab_cat_r, ab_cat_l, Nat.reduceAdd, Nat.reduceLeDiff, Nat.add_zero, Nat.zero_add, reduceIte, List.getElem?_cons_succ, List.getElem?_cons_zero, List.length_cons, List.length_nil, List.set_cons_zero, List.set_cons_succ, true_or, or_true, Classical.not_not, not_true_eq_false, not_false_eq_true, ab_01r, ab_01z, ab_01n, false_implies, ab_tt, Nat.reduceLT, Nat.reduceEqDiff, Int.reduceNeg, Int.reduceLT, Int.reduceLE, Int.add_zero, Int.zero_add, List.append_nil, Int.reduceEq, ab_sum1, ab_ri_0, ab_ri_1, ab_ri_2, ab_ri_3, ab_ri_4, ab_ri_5, ab_ri_6, ab_ri_7, ab_ri_8, ab_ri_12, ab_ri_30, ab_ri_60, ab_ri_100, ab_ri_101, ab_ri_127, ab_ri_m1, ab_ri_m2, ab_ri_m3, ab_ri_m4, ab_ri_m5, ab_ri_m11, ab_ri_m13, ab_ri_m14, ab_ri_10, mp_isLevel hlv, ab_01n, ab_01z, c, q]
end ME
