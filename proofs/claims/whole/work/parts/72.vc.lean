/-! ===== the model: lowerings, the vanishing vector ===== -/
def ab_PM : Int → Int := ab_tb [7, 8, 9, 10, 11, 4, 5, 6, 2, 3, 1, 0]
theorem ab_pm_at {v r : Int} (v0 : 0 ≤ v) (v4 : v ≤ 4) (r0 : 0 ≤ r) (r1 : r < ab_wd v) : ab_PM (12 - ab_START (v + 1) + r) = ab_START v + r := by
  have hw := ab_wd_eq v0 (by omega)
  have := ab_tb_all (P := fun v => ∀ k : Fin 7, (k.val : Int) < ab_wd v → ab_PM (12 - ab_START (v + 1) + k.val) = ab_START v + k.val) (m := 5) (by decide +kernel) v0 (by omega) ⟨r.toNat, by omega⟩
  simp only [Int.toNat_of_nonneg r0] at this
  exact this r1
theorem ab_st12 {x : Int} (x0 : 0 ≤ x) (x5 : x ≤ 5) : 0 ≤ ab_START x ∧ ab_START x ≤ 12 :=
  ab_tb_all (P := fun x => 0 ≤ ab_START x ∧ ab_START x ≤ 12) (m := 6) (by decide +kernel) x0 (by omega)
theorem ab_pm_r {x t : Int} (x0 : 0 ≤ x) (x5 : x ≤ 5) (t0 : 0 ≤ t) (t1 : t < ab_START x) : 0 ≤ ab_PM (12 - ab_START x + t) ∧ ab_PM (12 - ab_START x + t) < ab_START x := by
  have hs := ab_st12 x0 x5
  have := ab_tb_all (P := fun x => ∀ k : Fin 12, (k.val : Int) < ab_START x → 0 ≤ ab_PM (12 - ab_START x + k.val) ∧ ab_PM (12 - ab_START x + k.val) < ab_START x) (m := 6) (by decide +kernel) x0 (by omega) ⟨t.toNat, by omega⟩
  simp only [Int.toNat_of_nonneg t0] at this
  exact this t1
theorem ab_pm_on {x b : Int} (x0 : 0 ≤ x) (x5 : x ≤ 5) (b0 : 0 ≤ b) (b1 : b < ab_START x) : ∃ t : Int, 0 ≤ t ∧ t < ab_START x ∧ ab_PM (12 - ab_START x + t) = b := by
  have hs := ab_st12 x0 x5
  have := ab_tb_all (P := fun x => ∀ k : Fin 12, (k.val : Int) < ab_START x → ∃ t : Fin 12, (t.val : Int) < ab_START x ∧ ab_PM (12 - ab_START x + t.val) = k.val) (m := 6) (by decide +kernel) x0 (by omega) ⟨b.toNat, by omega⟩
  simp only [Int.toNat_of_nonneg b0] at this
  obtain ⟨t, t1, t2⟩ := this b1
  exact ⟨t.val, by omega, t1, t2⟩
/-- the rows in the model's order -/
def ab_lwm (L : Int → Int) (l : Int) : Int → Int → Int := fun t c => ab_AT L ((ab_START l + c) * 19 + ab_PM (12 - ab_START l + t))
theorem ab_ker_lw {L : Int → Int} {l : Int} {C : Nat} (l0 : 0 ≤ l) (l5 : l ≤ 5) (x : Int → Int) : ab_ker (ab_lw L l) (ab_START l) C x ↔ ab_ker (ab_lwm L l) (ab_START l) C x := by
  constructor
  · intro h t t0 t1
    have := ab_pm_r l0 l5 t0 t1
    exact h _ this.1 this.2
  · intro h b b0 b1
    obtain ⟨t, t0, t1, t2⟩ := ab_pm_on l0 l5 b0 b1
    have := h t t0 t1
    have e : ab_lwm L l t = ab_lw L l b := by
      funext c
      unfold ab_lwm ab_lw
      rw [t2]
    rw [e] at this
    exact this
theorem ab_rf_cg {R : Int} {C : Nat} {M N N' : Int → Int → Int} {g g' : Int → Int} {F : Int} (hs : ab_sm2 N' N R C) (hg : ∀ j : Int, 0 ≤ j → j < C → g' j = g j) (h : ab_rf R C M C N g F) : ab_rf R C M C N' g' F := by
  obtain ⟨h1, h2, h3, h4, h5⟩ := h
  have e : ∀ k : Nat, k ≤ C → ab_pcn g' k = ab_pcn g k := fun k hk => ab_pcn_cg k fun j hj => by rw [hg j (by omega) (by omega)]
  refine ⟨fun x => Iff.trans ⟨fun z r r0 r1 => ?_, fun z r r0 r1 => ?_⟩ (h1 x), ?_, fun j hj => ?_, fun j hj gj r r0 r1 => ?_, fun j hj gj r r0 r1 => ?_⟩
  · rw [← ab_dt_cg (f := N' r) C (fun c c0 c1 => hs r c r0 r1 c0 c1)]
    exact z r r0 r1
  · rw [ab_dt_cg (f := N' r) C (fun c c0 c1 => hs r c r0 r1 c0 c1)]
    exact z r r0 r1
  · rw [e C (Nat.le_refl C)]
    exact h2
  · rw [e j (by omega), hg j (by omega) (by omega)]
    exact h3 j hj
  · rw [hg j (by omega) (by omega)] at gj ⊢
    rw [hs r j r0 r1 (by omega) (by omega)]
    exact h4 j hj gj r r0 r1
  · rw [hg j (by omega) (by omega)] at gj
    rw [e j (by omega)] at r0
    have := ab_pcn_b (g := g) j
    rw [hs r j (by omega) r1 (by omega) (by omega)]
    exact h5 j hj gj r r0 r1
theorem ab_nn_rw {N N' : Int → Int → Int} {g g' : Int → Int} {f i : Int} {C : Int} (h : ∀ c, 0 ≤ c → c < C → ab_raw N g c f = ab_raw N' g' c f) (hi : 0 ≤ i ∧ i < C) : ∀ (k : Nat) (c : Int), 0 ≤ c → c + k ≤ C → ab_nn N g f i c k = ab_nn N' g' f i c k
  | 0, _, _, _ => rfl
  | k + 1, c, c0, c1 => by
    unfold ab_nn
    rw [ab_nn_rw h hi k (c + 1) (by omega) (by omega), h c c0 (by omega), h i hi.1 hi.2]
section VC
variable {h : ab_H} {n : Nat} {Q : ab_Q} {σ : Nat → Int} {L : Int → Int} {X : ab_X} {Y : Int → Int64}
theorem mp_layLowering {x : Int} (hmo : h 68 = some (ab_mo σ)) (hst : ab_mst h) (h69 : h 69 = some (ab_ia 4 L)) (hL : ab_lok L) (hw : ab_wrk h) (hx : 0 ≤ x ∧ x ≤ 5)
    (q : ∀ h' σ' pa N g, ab_frw h h' → h' 68 = some (ab_mo σ') → ab_sg σ σ' → h' 85 = some (ab_ia 84 (ab_flt N)) → ab_v2 N → h' 86 = some (ab_ia 7 pa) → ab_rf (ab_START x) (ab_wd x).toNat (ab_lwm L x) (ab_wd x).toNat N g (σ' 22) → σ' 22 ≤ ab_START x → (∀ c, 0 ≤ c → c < ab_wd x → 0 ≤ g c → pa (g c) = c) → ab_wrk h' → Q none h' n) : ab_G 154 0 [some (vr 68), some (vi x), none, none, none] [] h n (0, 0) Q := by
  obtain ⟨⟨T, w1⟩, ⟨f2, w2⟩, ⟨f3, w3⟩, ⟨M, w4, w4'⟩, ⟨f5, w5⟩, ⟨f6, w6⟩, ⟨f7, w7⟩, ⟨f8, w8⟩, ⟨f9, w9⟩⟩ := id hw
  have h7 : ab_inR 7 = True := eq_true (by omega)
  have hwx := ab_wd_eq hx.1 (by omega)
  have hs12 := ab_st12 hx.1 hx.2
  have hxr : ab_inR x = True := eq_true (by omega)
  have x0 := hx.1
  have x7 : x < ((7 : Nat) : Int) := by omega
  simp only [s154_0, s154_1, true_and, and_true, true_implies, Option.toList_some, Option.toList_none, List.nil_append, List.cons_append, List.map_nil, List.map_cons, List.sum_nil, List.sum_cons, Nat.zero_le, ab_nl_n, ab_nl_i, ab_nl_r, ab_nl_0, ab_cat_i, ab_cat_r, ab_cat_l, Nat.reduceAdd, Nat.reduceLeDiff, Nat.add_zero, Nat.zero_add, reduceIte, List.getElem?_cons_succ, List.getElem?_cons_zero, List.length_cons, List.length_nil, List.set_cons_zero, List.set_cons_succ, true_or, or_true, Classical.not_not, not_true_eq_false, not_false_eq_true, ab_01r, ab_01z, ab_01n, false_implies, ab_tt, Nat.reduceLT, Nat.reduceEqDiff, Int.reduceNeg, Int.reduceLT, Int.reduceLE, Int.add_zero, Int.zero_add, List.append_nil, Int.reduceEq, ab_sum1, ab_ri_0, ab_ri_1, ab_ri_2, ab_ri_3, ab_ri_4, ab_ri_5, ab_ri_6, ab_ri_7, ab_ri_8, ab_ri_12, ab_ri_30, ab_ri_60, ab_ri_100, ab_ri_101, ab_ri_127, ab_ri_m1, ab_ri_m2, ab_ri_m3, ab_ri_m4, ab_ri_m5, ab_ri_m11, ab_ri_m13, ab_ri_m14, ab_ri_10, ab_vc, hmo, ab_sv_12_139, ab_sv_12_100, ab_sv_12_100, ab_sv_12_100, ab_sv_12_170, Nat.reduceLeDiff]
  refine mp_layAll hmo hst h69 hL w1 fun h1 e1 mad1 => ?_
  have hmo1 := (e1 68 (by decide)).trans hmo
  have hst1 := ab_mst_fr (fun a _ _ => e1 a (by omega)) hst
  simp only [s154_4, s154_5, s154_6, s154_9, s154_10, true_and, and_true, true_implies, Option.toList_some, Option.toList_none, List.nil_append, List.cons_append, List.map_nil, List.map_cons, List.sum_nil, List.sum_cons, Nat.zero_le, ab_nl_n, ab_nl_i, ab_nl_r, ab_nl_0, ab_cat_i, ab_cat_r, ab_cat_l, Nat.reduceAdd, Nat.reduceLeDiff, Nat.add_zero, Nat.zero_add, reduceIte, List.getElem?_cons_succ, List.getElem?_cons_zero, List.length_cons, List.length_nil, List.set_cons_zero, List.set_cons_succ, true_or, or_true, Classical.not_not, not_true_eq_false, not_false_eq_true, ab_01r, ab_01z, ab_01n, false_implies, ab_tt, Nat.reduceLT, Nat.reduceEqDiff, Int.reduceNeg, Int.reduceLT, Int.reduceLE, Int.add_zero, Int.zero_add, List.append_nil, Int.reduceEq, ab_sum1, ab_ri_0, ab_ri_1, ab_ri_2, ab_ri_3, ab_ri_4, ab_ri_5, ab_ri_6, ab_ri_7, ab_ri_8, ab_ri_12, ab_ri_30, ab_ri_60, ab_ri_100, ab_ri_101, ab_ri_127, ab_ri_m1, ab_ri_m2, ab_ri_m3, ab_ri_m4, ab_ri_m5, ab_ri_m11, ab_ri_m13, ab_ri_m14, ab_ri_10, ab_fd, ab_fs, ab_ai, ab_as, ab_fit, ab_tyf, tyX12, ab_mg_0, ab_mg_1, ab_mg_2, ab_mg_3, ab_mg_4, ab_mg_5, ab_mg_6, ab_mg_7, ab_mg_8, ab_mg_9, ab_mg_10, ab_mg_11, ab_mg_12, ab_mg_13, ab_mg_14, ab_mg_15, ab_mg_16, ab_mg_17, ab_mg_18, ab_mg_19, ab_mg_20, ab_mg_21, ab_mg_22, ab_mg_23, ab_mg_24, ab_mg_25, ab_mg_26, ab_mg_27, ab_mg_28, ab_mg_29, ab_mg_30, ab_mg_31, ab_mg_32, ab_mg_33, ab_ms_8, ab_ms_10, ab_ms_11, ab_ms_17, ab_ms_21, ab_ms_22, ab_ms_24, ab_ms_25, ab_ms_26, ab_ms_29, ab_ms_32, ab_mol_l, Nat.reduceLT, Nat.reduceLeDiff, hmo1]
  have hwr : ab_inR (ab_wd x) = True := eq_true (by omega)
  have key := ab_dn (P := fun m => ∀ h' l3 l4, ab_nl [l3, l4] = true → ab_nl [l4] = true → (∀ a, a ≠ 68 → a ≠ 85 → h' a = h1 a) → h' 68 = some (ab_mo (ab_su σ 21 (ab_START x - ab_START (x - m + 1)))) → h' 85 = some (ab_ia 84 (ab_flt (ab_gb (fun r c => if c < ab_wd x then ab_lwm L x r c else 0) M 7 (ab_START x - ab_START (x - m + 1)) 0))) → ab_G 154 11 [some (vr 68), some (vi x), some (vi m), l3, l4] [] h' n (0, 0) Q) (a := 1) (e := x + 1) (by omega) ?_ ?_
  · refine key _ none none rfl rfl (fun a a1 a2 => ab_hs_ne a1) ?_ ?_
    · rw [show ab_START x - ab_START (x - 1 + 1) = 0 by rw [show x - 1 + 1 = x by omega]; omega]
      exact ab_hs_self
    · rw [show ab_START x - ab_START (x - 1 + 1) = 0 by rw [show x - 1 + 1 = x by omega]; omega, ab_gb_0]
      exact (ab_hs_ne (by decide)).trans ((e1 85 (by decide)).trans w4)
  · intro h2 l3 l4 z3 z4 e2 m1 m4
    have s0 : ab_START (x - (x + 1) + 1) = 0 := by rw [show x - (x + 1) + 1 = 0 by omega]; rfl
    rw [s0, Int.sub_zero] at m1 m4
    have st2 := ab_mst_fr (fun a _ _ => e2 a (by omega) (by omega)) hst1
    have e21 : ab_su σ 21 (ab_START x) 21 = ab_START x := ab_su_e
    have hG : ∀ r c, 0 ≤ (fun r c => if c < ab_wd x then ab_lwm L x r c else 0) r c ∧ (fun r c => if c < ab_wd x then ab_lwm L x r c else 0) r c ≤ 100 := fun r c => by
      show 0 ≤ (if c < ab_wd x then ab_lwm L x r c else 0) ∧ (if c < ab_wd x then ab_lwm L x r c else 0) ≤ 100
      split
      · exact ab_AT_r hL _
      · omega
    have hv : ab_v2 (ab_gb (fun r c => if c < ab_wd x then ab_lwm L x r c else 0) M 7 (ab_START x) 0) := ab_gb_v hG w4'
    have hvl : ab_v2 (ab_lwm L x) := fun r c _ _ _ _ => ab_AT_r hL _
    have hsm : ab_sm2 (ab_gb (fun r c => if c < ab_wd x then ab_lwm L x r c else 0) M 7 (ab_START x) 0) (ab_lwm L x) (ab_START x) (ab_wd x) := by
      intro r c r0 r1 c0 c1
      unfold ab_gb
      rw [if_pos (Or.inl ⟨r0, r1, c0, by omega⟩)]
      show (if c < ab_wd x then ab_lwm L x r c else 0) = _
      rw [if_pos c1]
    have cg := ab_rd_C (D := 7) (g := fun _ => 0) (g' := fun _ => 0) (by omega) ⟨hs12.1, hs12.2⟩ hv hsm (ab_wd x).toNat (by omega)
    have ec : (((ab_wd x).toNat : Nat) : Int) = ab_wd x := Int.toNat_of_nonneg (by omega)
    have ok := ab_rd_ok (R := ab_START x) (C := 7) (g := fun _ => 0) hs12.1 hs12.2 hv (ab_wd x).toNat
    have rf := ab_rf_rd (R := ab_START x) (C := (ab_wd x).toNat) (M := ab_lwm L x) (g := fun _ => 0) hs12 (by omega) hvl (ab_wd x).toNat (Nat.le_refl _)
    rw [ec] at rf
    rw [s154_11]
    have cx : x < x + 1 := by omega
    have hmr : ab_inR (x + 1) = True := eq_true (by omega)
    simp only [s154_12, s154_13, s154_116, s154_117, s154_118, s154_119, s154_122, true_and, and_true, true_implies, Option.toList_some, Option.toList_none, List.nil_append, List.cons_append, List.map_nil, List.map_cons, List.sum_nil, List.sum_cons, Nat.zero_le, ab_nl_n, ab_nl_i, ab_nl_r, ab_nl_0, ab_cat_i, ab_cat_r, ab_cat_l, Nat.reduceAdd, Nat.reduceLeDiff, Nat.add_zero, Nat.zero_add, reduceIte, List.getElem?_cons_succ, List.getElem?_cons_zero, List.length_cons, List.length_nil, List.set_cons_zero, List.set_cons_succ, true_or, or_true, Classical.not_not, not_true_eq_false, not_false_eq_true, ab_01r, ab_01z, ab_01n, false_implies, ab_tt, Nat.reduceLT, Nat.reduceEqDiff, Int.reduceNeg, Int.reduceLT, Int.reduceLE, Int.add_zero, Int.zero_add, List.append_nil, Int.reduceEq, ab_sum1, ab_ri_0, ab_ri_1, ab_ri_2, ab_ri_3, ab_ri_4, ab_ri_5, ab_ri_6, ab_ri_7, ab_ri_8, ab_ri_12, ab_ri_30, ab_ri_60, ab_ri_100, ab_ri_101, ab_ri_127, ab_ri_m1, ab_ri_m2, ab_ri_m3, ab_ri_m4, ab_ri_m5, ab_ri_m11, ab_ri_m13, ab_ri_m14, ab_ri_10, ab_fd, ab_fs, ab_ai, ab_as, ab_fit, ab_tyf, tyX12, ab_mg_0, ab_mg_1, ab_mg_2, ab_mg_3, ab_mg_4, ab_mg_5, ab_mg_6, ab_mg_7, ab_mg_8, ab_mg_9, ab_mg_10, ab_mg_11, ab_mg_12, ab_mg_13, ab_mg_14, ab_mg_15, ab_mg_16, ab_mg_17, ab_mg_18, ab_mg_19, ab_mg_20, ab_mg_21, ab_mg_22, ab_mg_23, ab_mg_24, ab_mg_25, ab_mg_26, ab_mg_27, ab_mg_28, ab_mg_29, ab_mg_30, ab_mg_31, ab_mg_32, ab_mg_33, ab_ms_8, ab_ms_10, ab_ms_11, ab_ms_17, ab_ms_21, ab_ms_22, ab_ms_24, ab_ms_25, ab_ms_26, ab_ms_29, ab_ms_32, ab_mol_l, Nat.reduceLT, Nat.reduceLeDiff, ab_vc, m1, hxr, hmr, cx, ab_sv_12_139, ab_sv_12_100, ab_sv_12_100, ab_sv_12_100, ab_sv_12_170, mp_many m1 st2 hx, z3]
    refine mp_steps (R := ab_START x) (C := ab_wd x) m1 e21 m4 hv ((e2 86 (by decide) (by decide)).trans ((e1 86 (by decide)).trans w5)) hs12 (by omega) fun pa' hpa => ?_
    refine s154_125.mpr ?_
    obtain ⟨T1, mad1, -⟩ := mad1
    have o := fun a (ha : a ≠ 68) (hb : a ≠ 85) (hc : a ≠ 86) => (ab_sth_o (h := h2) (σ := ab_su σ 21 (ab_START x)) (M := (ab_rd (ab_START x) 7 (ab_gb (fun r c => if c < ab_wd x then ab_lwm L x r c else 0) M 7 (ab_START x) 0) (fun _ => 0) (ab_wd x).toNat).1) (F := (ab_rd (ab_START x) 7 (ab_gb (fun r c => if c < ab_wd x then ab_lwm L x r c else 0) M 7 (ab_START x) 0) (fun _ => 0) (ab_wd x).toNat).2.2.1) (P := (ab_rd (ab_START x) 7 (ab_gb (fun r c => if c < ab_wd x then ab_lwm L x r c else 0) M 7 (ab_START x) 0) (fun _ => 0) (ab_wd x).toNat).2.2.2) (pa := pa') (a := a) ha hb hc).trans (e2 a ha hb)
    refine q _ _ pa' (ab_rd (ab_START x) 7 (ab_gb (fun r c => if c < ab_wd x then ab_lwm L x r c else 0) M 7 (ab_START x) 0) (fun _ => 0) (ab_wd x).toNat).1 (ab_rd (ab_START x) 7 (ab_gb (fun r c => if c < ab_wd x then ab_lwm L x r c else 0) M 7 (ab_START x) 0) (fun _ => 0) (ab_wd x).toNat).2.1 (fun a ha => (o a (by omega) (by omega) (by omega)).trans (e1 a (by omega))) ab_sth_68 (ab_sg_t (ab_sg_su (by decide)) (ab_sg_t (ab_sg_su (by decide)) (ab_sg_su (by decide)))) ab_sth_85 ok.1 ab_sth_86 ?_ ?_ hpa ?_
    · rw [ab_s3_22, cg.2.1]
      exact ab_rf_cg (by rw [ec]; exact cg.1) (fun j j0 j1 => cg.2.2 j j0 j1) rf
    · rw [ab_s3_22]
      exact ok.2.2.1
    · exact ⟨⟨T1, (o 82 (by decide) (by decide) (by decide)).trans mad1⟩, ⟨f2, (o 83 (by decide) (by decide) (by decide)).trans ((e1 83 (by decide)).trans w2)⟩, ⟨f3, (o 84 (by decide) (by decide) (by decide)).trans ((e1 84 (by decide)).trans w3)⟩, ⟨_, ab_sth_85, ok.1⟩, ⟨_, ab_sth_86⟩, ⟨f6, (o 87 (by decide) (by decide) (by decide)).trans ((e1 87 (by decide)).trans w6)⟩, ⟨f7, (o 88 (by decide) (by decide) (by decide)).trans ((e1 88 (by decide)).trans w7)⟩, ⟨f8, (o 89 (by decide) (by decide) (by decide)).trans ((e1 89 (by decide)).trans w8)⟩, ⟨f9, (o 90 (by decide) (by decide) (by decide)).trans ((e1 90 (by decide)).trans w9)⟩⟩
  · intro m m0 m9 mh h2 l3 l4 z3 z4 e2 m1 m4
    have hwm := ab_wd_eq (lv := x - m) (by omega) (by omega)
    have sm := ab_st12 (x := x - m) (by omega) (by omega)
    have sm1 := ab_st12 (x := x - m + 1) (by omega) (by omega)
    have cm : ¬ x < m := by omega
    have hmr : ab_inR m = True := eq_true (by omega)
    have hwmr : ab_inR (ab_wd (x - m)) = True := eq_true (by omega)
    have es : ab_START x - ab_START (x - m + 1) + ab_wd (x - m) = ab_START x - ab_START (x - (m + 1) + 1) := by
      rw [show x - (m + 1) + 1 = x - m by omega]
      omega
    have mono : ab_START (x - m + 1) ≤ ab_START x := by
      have := ab_tb_all (P := fun x => ∀ k : Fin 6, (k.val : Int) ≤ x → ab_START k.val ≤ ab_START x) (m := 6) (by decide +kernel) hx.1 (by omega) ⟨(x - m + 1).toNat, by omega⟩
      simp only [Int.toNat_of_nonneg (show 0 ≤ x - m + 1 by omega)] at this
      exact this (by omega)
    rw [s154_11]
    simp only [s154_12, s154_13, s154_16, s154_17, true_and, and_true, true_implies, Option.toList_some, Option.toList_none, List.nil_append, List.cons_append, List.map_nil, List.map_cons, List.sum_nil, List.sum_cons, Nat.zero_le, ab_nl_n, ab_nl_i, ab_nl_r, ab_nl_0, ab_cat_i, ab_cat_r, ab_cat_l, Nat.reduceAdd, Nat.reduceLeDiff, Nat.add_zero, Nat.zero_add, reduceIte, List.getElem?_cons_succ, List.getElem?_cons_zero, List.length_cons, List.length_nil, List.set_cons_zero, List.set_cons_succ, true_or, or_true, Classical.not_not, not_true_eq_false, not_false_eq_true, ab_01r, ab_01z, ab_01n, false_implies, ab_tt, Nat.reduceLT, Nat.reduceEqDiff, Int.reduceNeg, Int.reduceLT, Int.reduceLE, Int.add_zero, Int.zero_add, List.append_nil, Int.reduceEq, ab_sum1, ab_ri_0, ab_ri_1, ab_ri_2, ab_ri_3, ab_ri_4, ab_ri_5, ab_ri_6, ab_ri_7, ab_ri_8, ab_ri_12, ab_ri_30, ab_ri_60, ab_ri_100, ab_ri_101, ab_ri_127, ab_ri_m1, ab_ri_m2, ab_ri_m3, ab_ri_m4, ab_ri_m5, ab_ri_m11, ab_ri_m13, ab_ri_m14, ab_ri_10, hxr, hmr, cm, z3]
    have key := ab_dn (P := fun r => ∀ h' l4, ab_nl [l4] = true → (∀ a, a ≠ 68 → a ≠ 85 → h' a = h1 a) → h' 68 = some (ab_mo (ab_su σ 21 (ab_START x - ab_START (x - m + 1) + r))) → h' 85 = some (ab_ia 84 (ab_flt (ab_gb (fun r c => if c < ab_wd x then ab_lwm L x r c else 0) M 7 (ab_START x - ab_START (x - m + 1) + r) 0))) → ab_G 154 18 [some (vr 68), some (vi x), some (vi m), some (vi r), l4] [] h' n (0, 0) Q) (a := 0) (e := ab_wd (x - m)) (by omega) ?_ ?_
    · exact key h2 l4 z4 e2 (by rw [Int.add_zero]; exact m1) (by rw [Int.add_zero]; exact m4)
    · intro h3 l4 z4 e3 m1 m4
      rw [es] at m1 m4
      have mh := mh h3 (some (vi (ab_wd (x - m)))) l4 z4 z4 e3 m1 m4
      have st3 := ab_mst_fr (fun a _ _ => e3 a (by omega) (by omega)) hst1
      rw [s154_18]
      simp only [s154_19, s154_20, s154_21, s154_22, s154_23, s154_26, s154_110, s154_113, true_and, and_true, true_implies, Option.toList_some, Option.toList_none, List.nil_append, List.cons_append, List.map_nil, List.map_cons, List.sum_nil, List.sum_cons, Nat.zero_le, ab_nl_n, ab_nl_i, ab_nl_r, ab_nl_0, ab_cat_i, ab_cat_r, ab_cat_l, Nat.reduceAdd, Nat.reduceLeDiff, Nat.add_zero, Nat.zero_add, reduceIte, List.getElem?_cons_succ, List.getElem?_cons_zero, List.length_cons, List.length_nil, List.set_cons_zero, List.set_cons_succ, true_or, or_true, Classical.not_not, not_true_eq_false, not_false_eq_true, ab_01r, ab_01z, ab_01n, false_implies, ab_tt, Nat.reduceLT, Nat.reduceEqDiff, Int.reduceNeg, Int.reduceLT, Int.reduceLE, Int.add_zero, Int.zero_add, List.append_nil, Int.reduceEq, ab_sum1, ab_ri_0, ab_ri_1, ab_ri_2, ab_ri_3, ab_ri_4, ab_ri_5, ab_ri_6, ab_ri_7, ab_ri_8, ab_ri_12, ab_ri_30, ab_ri_60, ab_ri_100, ab_ri_101, ab_ri_127, ab_ri_m1, ab_ri_m2, ab_ri_m3, ab_ri_m4, ab_ri_m5, ab_ri_m11, ab_ri_m13, ab_ri_m14, ab_ri_10, ab_vc, ab_sv_12_139, ab_sv_12_100, ab_sv_12_100, ab_sv_12_100, ab_sv_12_170, m1, mp_many m1 st3 (show 0 ≤ x - m ∧ x - m ≤ 5 by omega), hwmr, Int.le_refl, z4, mh]
    · intro r r0 r9 rh h3 l4 z4 e3 m1 m4
      have cr : ¬ ab_wd (x - m) ≤ r := by omega
      have hrr : ab_inR r = True := eq_true (by omega)
      have st3 := ab_mst_fr (fun a _ _ => e3 a (by omega) (by omega)) hst1
      rw [s154_18]
      simp only [s154_19, s154_20, s154_21, s154_22, s154_23, s154_26, s154_29, s154_30, true_and, and_true, true_implies, Option.toList_some, Option.toList_none, List.nil_append, List.cons_append, List.map_nil, List.map_cons, List.sum_nil, List.sum_cons, Nat.zero_le, ab_nl_n, ab_nl_i, ab_nl_r, ab_nl_0, ab_cat_i, ab_cat_r, ab_cat_l, Nat.reduceAdd, Nat.reduceLeDiff, Nat.add_zero, Nat.zero_add, reduceIte, List.getElem?_cons_succ, List.getElem?_cons_zero, List.length_cons, List.length_nil, List.set_cons_zero, List.set_cons_succ, true_or, or_true, Classical.not_not, not_true_eq_false, not_false_eq_true, ab_01r, ab_01z, ab_01n, false_implies, ab_tt, Nat.reduceLT, Nat.reduceEqDiff, Int.reduceNeg, Int.reduceLT, Int.reduceLE, Int.add_zero, Int.zero_add, List.append_nil, Int.reduceEq, ab_sum1, ab_ri_0, ab_ri_1, ab_ri_2, ab_ri_3, ab_ri_4, ab_ri_5, ab_ri_6, ab_ri_7, ab_ri_8, ab_ri_12, ab_ri_30, ab_ri_60, ab_ri_100, ab_ri_101, ab_ri_127, ab_ri_m1, ab_ri_m2, ab_ri_m3, ab_ri_m4, ab_ri_m5, ab_ri_m11, ab_ri_m13, ab_ri_m14, ab_ri_10, ab_vc, ab_sv_12_139, ab_sv_12_100, ab_sv_12_100, ab_sv_12_100, ab_sv_12_170, m1, mp_many m1 st3 (show 0 ≤ x - m ∧ x - m ≤ 5 by omega), hwmr, hrr, cr, z4]
      have t0 : 0 ≤ ab_START x - ab_START (x - m + 1) + r := by omega
      have t12 : ab_START x - ab_START (x - m + 1) + r < 12 := by omega
      have et : ab_PM (12 - ab_START x + (ab_START x - ab_START (x - m + 1) + r)) = ab_START (x - m) + r := by
        rw [show 12 - ab_START x + (ab_START x - ab_START (x - m + 1) + r) = 12 - ab_START (x - m + 1) + r by omega]
        exact ab_pm_at (by omega) (by omega) r0 r9
      have er1 : ab_START x - ab_START (x - m + 1) + (r + 1) = ab_START x - ab_START (x - m + 1) + r + 1 := by omega
      revert rh m1 m4 t0 t12 et er1
      generalize ab_START x - ab_START (x - m + 1) + r = t
      intro rh m1 m4 t0 t12 et er1
      rw [er1] at rh
      have e21 : ab_su σ 21 t 21 = t := ab_su_e
      have key := ab_dn (P := fun j => ∀ h', (∀ a, a ≠ 85 → h' a = h3 a) → h' 85 = some (ab_ia 84 (ab_flt (ab_gb (fun r c => if c < ab_wd x then ab_lwm L x r c else 0) M 7 t j))) → ab_G 154 32 [some (vr 68), some (vi x), some (vi m), some (vi r), some (vi j)] [] h' n (0, 0) Q) (a := 0) (e := 7) (by decide) ?_ ?_
      · exact key h3 (fun a _ => rfl) m4
      · intro h4 e4 m4
        rw [ab_gb_n t0] at m4
        have n1 := (e4 68 (by decide)).trans m1
        have rh := rh (ab_hs h4 68 (ab_mo (ab_su σ 21 (t + 1)))) (some (vi 7)) rfl (fun a a1 a2 => (ab_hs_ne a1).trans ((e4 a a2).trans (e3 a a1 a2))) ab_hs_self ((ab_hs_ne (by decide)).trans m4)
        rw [s154_32]
        simp only [s154_34, s154_36, s154_94, s154_95, s154_96, s154_99, s154_100, s154_101, s154_104, s154_107, true_and, and_true, true_implies, Option.toList_some, Option.toList_none, List.nil_append, List.cons_append, List.map_nil, List.map_cons, List.sum_nil, List.sum_cons, Nat.zero_le, ab_nl_n, ab_nl_i, ab_nl_r, ab_nl_0, ab_cat_i, ab_cat_r, ab_cat_l, Nat.reduceAdd, Nat.reduceLeDiff, Nat.add_zero, Nat.zero_add, reduceIte, List.getElem?_cons_succ, List.getElem?_cons_zero, List.length_cons, List.length_nil, List.set_cons_zero, List.set_cons_succ, true_or, or_true, Classical.not_not, not_true_eq_false, not_false_eq_true, ab_01r, ab_01z, ab_01n, false_implies, ab_tt, Nat.reduceLT, Nat.reduceEqDiff, Int.reduceNeg, Int.reduceLT, Int.reduceLE, Int.add_zero, Int.zero_add, List.append_nil, Int.reduceEq, ab_sum1, ab_ri_0, ab_ri_1, ab_ri_2, ab_ri_3, ab_ri_4, ab_ri_5, ab_ri_6, ab_ri_7, ab_ri_8, ab_ri_12, ab_ri_30, ab_ri_60, ab_ri_100, ab_ri_101, ab_ri_127, ab_ri_m1, ab_ri_m2, ab_ri_m3, ab_ri_m4, ab_ri_m5, ab_ri_m11, ab_ri_m13, ab_ri_m14, ab_ri_10, ab_fd, ab_fs, ab_ai, ab_as, ab_fit, ab_tyf, tyX12, ab_mg_0, ab_mg_1, ab_mg_2, ab_mg_3, ab_mg_4, ab_mg_5, ab_mg_6, ab_mg_7, ab_mg_8, ab_mg_9, ab_mg_10, ab_mg_11, ab_mg_12, ab_mg_13, ab_mg_14, ab_mg_15, ab_mg_16, ab_mg_17, ab_mg_18, ab_mg_19, ab_mg_20, ab_mg_21, ab_mg_22, ab_mg_23, ab_mg_24, ab_mg_25, ab_mg_26, ab_mg_27, ab_mg_28, ab_mg_29, ab_mg_30, ab_mg_31, ab_mg_32, ab_mg_33, ab_ms_8, ab_ms_10, ab_ms_11, ab_ms_17, ab_ms_21, ab_ms_22, ab_ms_24, ab_ms_25, ab_ms_26, ab_ms_29, ab_ms_32, ab_mol_l, Nat.reduceLT, Nat.reduceLeDiff, n1, e21, ab_su_su, h7, Int.le_refl, rh]
      · intro j j0 j9 jh h4 e4 m4
        have cj : ¬ 7 ≤ j := by omega
        have hjr : ab_inR j = True := eq_true (by omega)
        have n1 := (e4 68 (by decide)).trans m1
        have st4 := ab_mst_fr (fun a _ _ => e4 a (by omega)) st3
        have y0 : 0 ≤ 7 * t + j := by omega
        have y1 : 7 * t + j < ((84 : Nat) : Int) := by omega
        have ui1 : ∀ (N : Int → Int → Int) y, ab_ui (ab_flt N) (7 * t + j) y = ab_flt (ab_u2 N t j y) := fun N y => by rw [show 7 * t + j = t * 7 + j by omega]; exact ab_flt_ui j0 j9
        have es := ab_gb_s (G := fun r c => if c < ab_wd x then ab_lwm L x r c else 0) (M := M) (C := 7) (i := t) (k := j) j0
        have jh := jh (ab_hs h4 85 (ab_ia 84 (ab_flt (ab_gb (fun r c => if c < ab_wd x then ab_lwm L x r c else 0) M 7 t (j + 1))))) (fun a a1 => (ab_hs_ne a1).trans (e4 a a1)) ab_hs_self
        rw [s154_32]
        by_cases cw : j < ab_wd x
        · have cwn : ¬ ab_wd x ≤ j := by omega
          obtain ⟨T1, mad1, mad2⟩ := mad1
          have n82 := (e4 82 (by decide)).trans ((e3 82 (by decide) (by decide)).trans mad1)
          have n70 := st4.1
          have lj := ab_lv_at hx.1 hx.2 j0 cw
          have rj : 0 ≤ ab_row m (ab_START x + j) + r ∧ ab_row m (ab_START x + j) + r < ((1463 : Nat) : Int) := by
            unfold ab_row
            omega
          have et1 : T1 (ab_row m (ab_START x + j) + r) = (fun r c => if c < ab_wd x then ab_lwm L x r c else 0) t j := by
            rw [mad2 m (ab_START x + j) r (by omega) (by omega) ⟨by omega, by omega⟩ r0 (by omega)]
            show _ = if j < ab_wd x then ab_lwm L x t j else 0
            unfold ab_mte ab_lwm
            rw [if_pos cw, lj, if_pos ⟨⟨by omega, by omega⟩, r9⟩, et]
          simp only [s154_34, s154_36, s154_39, s154_40, s154_43, s154_45, s154_46, s154_49, s154_50, s154_52, s154_53, s154_55, s154_56, s154_57, s154_60, s154_63, s154_64, s154_67, s154_68, s154_69, s154_72, s154_73, s154_74, s154_76, s154_77, s154_80, s154_81, s154_82, s154_83, s154_87, s154_88, s154_91, true_and, and_true, true_implies, Option.toList_some, Option.toList_none, List.nil_append, List.cons_append, List.map_nil, List.map_cons, List.sum_nil, List.sum_cons, Nat.zero_le, ab_nl_n, ab_nl_i, ab_nl_r, ab_nl_0, ab_cat_i, ab_cat_r, ab_cat_l, Nat.reduceAdd, Nat.reduceLeDiff, Nat.add_zero, Nat.zero_add, reduceIte, List.getElem?_cons_succ, List.getElem?_cons_zero, List.length_cons, List.length_nil, List.set_cons_zero, List.set_cons_succ, true_or, or_true, Classical.not_not, not_true_eq_false, not_false_eq_true, ab_01r, ab_01z, ab_01n, false_implies, ab_tt, Nat.reduceLT, Nat.reduceEqDiff, Int.reduceNeg, Int.reduceLT, Int.reduceLE, Int.add_zero, Int.zero_add, List.append_nil, Int.reduceEq, ab_sum1, ab_ri_0, ab_ri_1, ab_ri_2, ab_ri_3, ab_ri_4, ab_ri_5, ab_ri_6, ab_ri_7, ab_ri_8, ab_ri_12, ab_ri_30, ab_ri_60, ab_ri_100, ab_ri_101, ab_ri_127, ab_ri_m1, ab_ri_m2, ab_ri_m3, ab_ri_m4, ab_ri_m5, ab_ri_m11, ab_ri_m13, ab_ri_m14, ab_ri_10, ab_fd, ab_fs, ab_ai, ab_as, ab_fit, ab_tyf, tyX12, ab_mg_0, ab_mg_1, ab_mg_2, ab_mg_3, ab_mg_4, ab_mg_5, ab_mg_6, ab_mg_7, ab_mg_8, ab_mg_9, ab_mg_10, ab_mg_11, ab_mg_12, ab_mg_13, ab_mg_14, ab_mg_15, ab_mg_16, ab_mg_17, ab_mg_18, ab_mg_19, ab_mg_20, ab_mg_21, ab_mg_22, ab_mg_23, ab_mg_24, ab_mg_25, ab_mg_26, ab_mg_27, ab_mg_28, ab_mg_29, ab_mg_30, ab_mg_31, ab_mg_32, ab_mg_33, ab_ms_8, ab_ms_10, ab_ms_11, ab_ms_17, ab_ms_21, ab_ms_22, ab_ms_24, ab_ms_25, ab_ms_26, ab_ms_29, ab_ms_32, ab_mol_l, Nat.reduceLT, Nat.reduceLeDiff, ab_vc, ab_sv_12_139, ab_sv_12_100, ab_sv_12_100, ab_sv_12_100, ab_sv_12_170, n1, n70, n82, m4, e21, mp_many n1 st4 hx, mp_row, h7, hwr, hjr, cj, cwn, x0, x7, y0, y1, rj, et1, ui1, es, jh]
        · have cwn : ab_wd x ≤ j := by omega
          have es2 : ab_u2 (ab_gb (fun r c => if c < ab_wd x then ab_lwm L x r c else 0) M 7 t j) t j 0 = ab_gb (fun r c => if c < ab_wd x then ab_lwm L x r c else 0) M 7 t (j + 1) := by
            have e := es
            rw [if_neg cw] at e
            exact e
          simp only [s154_34, s154_36, s154_39, s154_40, s154_43, s154_45, s154_46, s154_49, s154_50, s154_52, s154_53, s154_55, s154_56, s154_57, s154_60, s154_86, s154_87, s154_88, s154_91, true_and, and_true, true_implies, Option.toList_some, Option.toList_none, List.nil_append, List.cons_append, List.map_nil, List.map_cons, List.sum_nil, List.sum_cons, Nat.zero_le, ab_nl_n, ab_nl_i, ab_nl_r, ab_nl_0, ab_cat_i, ab_cat_r, ab_cat_l, Nat.reduceAdd, Nat.reduceLeDiff, Nat.add_zero, Nat.zero_add, reduceIte, List.getElem?_cons_succ, List.getElem?_cons_zero, List.length_cons, List.length_nil, List.set_cons_zero, List.set_cons_succ, true_or, or_true, Classical.not_not, not_true_eq_false, not_false_eq_true, ab_01r, ab_01z, ab_01n, false_implies, ab_tt, Nat.reduceLT, Nat.reduceEqDiff, Int.reduceNeg, Int.reduceLT, Int.reduceLE, Int.add_zero, Int.zero_add, List.append_nil, Int.reduceEq, ab_sum1, ab_ri_0, ab_ri_1, ab_ri_2, ab_ri_3, ab_ri_4, ab_ri_5, ab_ri_6, ab_ri_7, ab_ri_8, ab_ri_12, ab_ri_30, ab_ri_60, ab_ri_100, ab_ri_101, ab_ri_127, ab_ri_m1, ab_ri_m2, ab_ri_m3, ab_ri_m4, ab_ri_m5, ab_ri_m11, ab_ri_m13, ab_ri_m14, ab_ri_10, ab_fd, ab_fs, ab_ai, ab_as, ab_fit, ab_tyf, tyX12, ab_mg_0, ab_mg_1, ab_mg_2, ab_mg_3, ab_mg_4, ab_mg_5, ab_mg_6, ab_mg_7, ab_mg_8, ab_mg_9, ab_mg_10, ab_mg_11, ab_mg_12, ab_mg_13, ab_mg_14, ab_mg_15, ab_mg_16, ab_mg_17, ab_mg_18, ab_mg_19, ab_mg_20, ab_mg_21, ab_mg_22, ab_mg_23, ab_mg_24, ab_mg_25, ab_mg_26, ab_mg_27, ab_mg_28, ab_mg_29, ab_mg_30, ab_mg_31, ab_mg_32, ab_mg_33, ab_ms_8, ab_ms_10, ab_ms_11, ab_ms_17, ab_ms_21, ab_ms_22, ab_ms_24, ab_ms_25, ab_ms_26, ab_ms_29, ab_ms_32, ab_mol_l, Nat.reduceLT, Nat.reduceLeDiff, ab_vc, ab_sv_12_139, ab_sv_12_100, ab_sv_12_100, ab_sv_12_100, ab_sv_12_170, n1, m4, e21, mp_many n1 st4 hx, h7, hwr, hjr, cj, cwn, y0, y1, ui1, es2, jh]
theorem xm_van {lv i : Int} (J : ab_JM X Y h) (I : ab_XI X) (hlv : ab_inR lv) (hi : ab_inR i) (q : ∀ h', ab_eqo 68 91 h h' → ab_JM X Y h' → Q (some (vi (ab_s_van X lv i))) h' n) : ab_G 155 0 [some (vr 68), some (vi lv), some (vi i), none, none, none] [] h n (0, 0) Q := by
  have J' := J
  obtain ⟨σ, hmo, hsc, hst, hp, hw⟩ := J'
  obtain ⟨l, k1, k2⟩ := hp.1
  unfold ab_s_van at q
  by_cases c : 0 ≤ lv ∧ lv ≤ 5
  · rw [if_pos c, ← ab_lr_cg k2] at q
    have hl := ab_lok_cg k2 I.1.1
    simp only [s155_0, s155_1, s155_4, s155_7, s155_8, s155_9, s155_10, s155_11, true_and, and_true, true_implies, Option.toList_some, Option.toList_none, List.nil_append, List.cons_append, List.map_nil, List.map_cons, List.sum_nil, List.sum_cons, Nat.zero_le, ab_nl_n, ab_nl_i, ab_nl_r, ab_nl_0, ab_cat_i, ab_cat_r, ab_cat_l, Nat.reduceAdd, Nat.reduceLeDiff, Nat.add_zero, Nat.zero_add, reduceIte, List.getElem?_cons_succ, List.getElem?_cons_zero, List.length_cons, List.length_nil, List.set_cons_zero, List.set_cons_succ, true_or, or_true, Classical.not_not, not_true_eq_false, not_false_eq_true, ab_01r, ab_01z, ab_01n, false_implies, ab_tt, Nat.reduceLT, Nat.reduceEqDiff, Int.reduceNeg, Int.reduceLT, Int.reduceLE, Int.add_zero, Int.zero_add, List.append_nil, Int.reduceEq, ab_sum1, ab_ri_0, ab_ri_1, ab_ri_2, ab_ri_3, ab_ri_4, ab_ri_5, ab_ri_6, ab_ri_7, ab_ri_8, ab_ri_12, ab_ri_30, ab_ri_60, ab_ri_100, ab_ri_101, ab_ri_127, ab_ri_m1, ab_ri_m2, ab_ri_m3, ab_ri_m4, ab_ri_m5, ab_ri_m11, ab_ri_m13, ab_ri_m14, ab_ri_10, mp_isLevel hlv, ab_01n, ab_01z, c, ab_vc, hmo, ab_sv_12_179, ab_sv_12_100, ab_sv_12_100, ab_sv_12_142, Nat.reduceLeDiff]
    refine mp_layLowering hmo hst k1 hl hw c fun h1 σ1 pa N g e1 m1 m2 m3 m4 m5 m6 m7 m8 m9 => ?_
    have hwx := ab_wd_eq c.1 (by omega)
    have hs12 := ab_st12 c.1 c.2
    have ec : (((ab_wd lv).toNat : Nat) : Int) = ab_wd lv := Int.toNat_of_nonneg (by omega)
    have st1 := ab_mst_fr (fun a _ _ => e1 a (by omega)) hst
    have JM : ab_JM X Y h1 := ab_JM_w e1 hsc hst hp m1 m2 m9
    -- the class's rows and these
    have hvl : ab_v2 (ab_lw l lv) := fun r c _ _ _ _ => ab_AT_r hl _
    have rf := ab_rf_rd (R := ab_START lv) (C := (ab_wd lv).toNat) (M := ab_lw l lv) (g := fun _ => 0) hs12 (by omega) hvl (ab_wd lv).toNat (Nat.le_refl _)
    have ok := ab_rd_ok (R := ab_START lv) (C := ab_wd lv) (g := fun _ => 0) hs12.1 hs12.2 hvl (ab_wd lv).toNat
    rw [ec] at rf
    have same := ab_rf_same ok.2.2.1 m7 rf m6 (fun x => ab_ker_lw c.1 c.2 x)
    have rs := fun (f : Nat) a1 a2 a3 (c' : Nat) hc => ab_raw_same (f := f) (c := c') ok.2.2.1 m7 rf m6 (fun x => ab_ker_lw c.1 c.2 x) a1 a2 a3 hc
    unfold ab_lr at q
    revert q rf ok same rs
    generalize ab_rd (ab_START lv) (ab_wd lv) (ab_lw l lv) (fun _ => 0) (ab_wd lv).toNat = z
    obtain ⟨N0, g0, F0, P0⟩ := z
    intro q rf ok same rs
    simp only at q rf ok same rs
    obtain ⟨sF, sg⟩ := same
    subst sF
    have hir : ab_inR i = True := eq_true hi
    have hF0 := ok.2.1
    have hFC := ab_pcn_b (g := g0) (ab_wd lv).toNat
    have rf2 := rf.2.1
    have hfr : ab_inR (ab_wd lv - σ1 22) = True := eq_true (by omega)
    have r1 : ab_inR 1 = True := eq_true (by omega)
    simp only [s155_14, s155_15, s155_16, s155_19, s155_20, s155_23, s155_24, s155_25, s155_26, s155_27, true_and, and_true, true_implies, Option.toList_some, Option.toList_none, List.nil_append, List.cons_append, List.map_nil, List.map_cons, List.sum_nil, List.sum_cons, Nat.zero_le, ab_nl_n, ab_nl_i, ab_nl_r, ab_nl_0, ab_cat_i, ab_cat_r, ab_cat_l, Nat.reduceAdd, Nat.reduceLeDiff, Nat.add_zero, Nat.zero_add, reduceIte, List.getElem?_cons_succ, List.getElem?_cons_zero, List.length_cons, List.length_nil, List.set_cons_zero, List.set_cons_succ, true_or, or_true, Classical.not_not, not_true_eq_false, not_false_eq_true, ab_01r, ab_01z, ab_01n, false_implies, ab_tt, Nat.reduceLT, Nat.reduceEqDiff, Int.reduceNeg, Int.reduceLT, Int.reduceLE, Int.add_zero, Int.zero_add, List.append_nil, Int.reduceEq, ab_sum1, ab_ri_0, ab_ri_1, ab_ri_2, ab_ri_3, ab_ri_4, ab_ri_5, ab_ri_6, ab_ri_7, ab_ri_8, ab_ri_12, ab_ri_30, ab_ri_60, ab_ri_100, ab_ri_101, ab_ri_127, ab_ri_m1, ab_ri_m2, ab_ri_m3, ab_ri_m4, ab_ri_m5, ab_ri_m11, ab_ri_m13, ab_ri_m14, ab_ri_10, ab_fd, ab_fs, ab_ai, ab_as, ab_fit, ab_tyf, tyX12, ab_mg_0, ab_mg_1, ab_mg_2, ab_mg_3, ab_mg_4, ab_mg_5, ab_mg_6, ab_mg_7, ab_mg_8, ab_mg_9, ab_mg_10, ab_mg_11, ab_mg_12, ab_mg_13, ab_mg_14, ab_mg_15, ab_mg_16, ab_mg_17, ab_mg_18, ab_mg_19, ab_mg_20, ab_mg_21, ab_mg_22, ab_mg_23, ab_mg_24, ab_mg_25, ab_mg_26, ab_mg_27, ab_mg_28, ab_mg_29, ab_mg_30, ab_mg_31, ab_mg_32, ab_mg_33, ab_ms_8, ab_ms_10, ab_ms_11, ab_ms_17, ab_ms_21, ab_ms_22, ab_ms_24, ab_ms_25, ab_ms_26, ab_ms_29, ab_ms_32, ab_mol_l, Nat.reduceLT, Nat.reduceLeDiff, ab_vc, ab_sv_12_179, ab_sv_12_100, ab_sv_12_100, ab_sv_12_142, m1, mp_many m1 st1 c, hir]
    by_cases c2 : i = -1
    · rw [if_pos c2] at q
      have q := q h1 (fun a ha => e1 a (by omega)) JM
      simp only [s155_30, s155_31, true_and, and_true, true_implies, Option.toList_some, Option.toList_none, List.nil_append, List.cons_append, List.map_nil, List.map_cons, List.sum_nil, List.sum_cons, Nat.zero_le, ab_nl_n, ab_nl_i, ab_nl_r, ab_nl_0, ab_cat_i, ab_cat_r, ab_cat_l, Nat.reduceAdd, Nat.reduceLeDiff, Nat.add_zero, Nat.zero_add, reduceIte, List.getElem?_cons_succ, List.getElem?_cons_zero, List.length_cons, List.length_nil, List.set_cons_zero, List.set_cons_succ, true_or, or_true, Classical.not_not, not_true_eq_false, not_false_eq_true, ab_01r, ab_01z, ab_01n, false_implies, ab_tt, Nat.reduceLT, Nat.reduceEqDiff, Int.reduceNeg, Int.reduceLT, Int.reduceLE, Int.add_zero, Int.zero_add, List.append_nil, Int.reduceEq, ab_sum1, ab_ri_0, ab_ri_1, ab_ri_2, ab_ri_3, ab_ri_4, ab_ri_5, ab_ri_6, ab_ri_7, ab_ri_8, ab_ri_12, ab_ri_30, ab_ri_60, ab_ri_100, ab_ri_101, ab_ri_127, ab_ri_m1, ab_ri_m2, ab_ri_m3, ab_ri_m4, ab_ri_m5, ab_ri_m11, ab_ri_m13, ab_ri_m14, ab_ri_10, eq_true c2, q]
    · rw [if_neg c2] at q
      by_cases c3 : ab_wd lv - σ1 22 = 1
      · by_cases c4 : 0 ≤ i ∧ i ≤ ab_wd lv - 1
        · have isB : ab_isB lv i := ⟨c, c4.1, by omega⟩
          rw [if_pos ⟨c3, isB⟩] at q
          simp only [s155_32, s155_33, s155_34, s155_37, s155_38, s155_39, s155_40, s155_41, s155_44, s155_45, s155_46, s155_49, true_and, and_true, true_implies, Option.toList_some, Option.toList_none, List.nil_append, List.cons_append, List.map_nil, List.map_cons, List.sum_nil, List.sum_cons, Nat.zero_le, ab_nl_n, ab_nl_i, ab_nl_r, ab_nl_0, ab_cat_i, ab_cat_r, ab_cat_l, Nat.reduceAdd, Nat.reduceLeDiff, Nat.add_zero, Nat.zero_add, reduceIte, List.getElem?_cons_succ, List.getElem?_cons_zero, List.length_cons, List.length_nil, List.set_cons_zero, List.set_cons_succ, true_or, or_true, Classical.not_not, not_true_eq_false, not_false_eq_true, ab_01r, ab_01z, ab_01n, false_implies, ab_tt, Nat.reduceLT, Nat.reduceEqDiff, Int.reduceNeg, Int.reduceLT, Int.reduceLE, Int.add_zero, Int.zero_add, List.append_nil, Int.reduceEq, ab_sum1, ab_ri_0, ab_ri_1, ab_ri_2, ab_ri_3, ab_ri_4, ab_ri_5, ab_ri_6, ab_ri_7, ab_ri_8, ab_ri_12, ab_ri_30, ab_ri_60, ab_ri_100, ab_ri_101, ab_ri_127, ab_ri_m1, ab_ri_m2, ab_ri_m3, ab_ri_m4, ab_ri_m5, ab_ri_m11, ab_ri_m13, ab_ri_m14, ab_ri_10, ab_fd, ab_fs, ab_ai, ab_as, ab_fit, ab_tyf, tyX12, ab_mg_0, ab_mg_1, ab_mg_2, ab_mg_3, ab_mg_4, ab_mg_5, ab_mg_6, ab_mg_7, ab_mg_8, ab_mg_9, ab_mg_10, ab_mg_11, ab_mg_12, ab_mg_13, ab_mg_14, ab_mg_15, ab_mg_16, ab_mg_17, ab_mg_18, ab_mg_19, ab_mg_20, ab_mg_21, ab_mg_22, ab_mg_23, ab_mg_24, ab_mg_25, ab_mg_26, ab_mg_27, ab_mg_28, ab_mg_29, ab_mg_30, ab_mg_31, ab_mg_32, ab_mg_33, ab_ms_8, ab_ms_10, ab_ms_11, ab_ms_17, ab_ms_21, ab_ms_22, ab_ms_24, ab_ms_25, ab_ms_26, ab_ms_29, ab_ms_32, ab_mol_l, Nat.reduceLT, Nat.reduceLeDiff, ab_vc, ab_sv_12_179, ab_sv_12_100, ab_sv_12_100, ab_sv_12_142, m1, mp_many m1 st1 c, c2, eq_true c3, hfr, r1, mp_in hi (show ab_inR 0 by omega) (show ab_inR (ab_wd lv - 1) by omega), ab_01n, ab_01z, c4]
          have fc : ab_pcn g (ab_wd lv).toNat = ((ab_wd lv).toNat : Int) - 1 := by
            rw [← m6.2.1]
            omega
          have f22 : σ1 22 = ab_wd lv - 1 := by omega
          obtain ⟨f, f1, f2, f3, f4, f5⟩ := ab_one_free (g := g) fc (by omega)
          have hg0 : g0 f < 0 := by
            rw [sg f f2]
            exact f3
          have ho0 : ∀ j : Nat, j < (ab_wd lv).toNat → j ≠ f → 0 ≤ g0 j := fun j j1 j2 => by
            rw [sg j j1]
            exact f4 j j1 j2
          have efc : ab_fc g0 0 (ab_wd lv).toNat = f := by
            obtain ⟨f', a1, a2, a3, -⟩ := ab_one_free (g := g0) (by rw [← rf2]; omega) (by omega)
            rw [a1]
            by_cases e : f' = f
            · rw [e]
            · have := ho0 f' a2 e
              omega
          have rsf : ∀ c', 0 ≤ c' → c' < ab_wd lv → ab_raw N0 g0 c' f = ab_raw N g c' f := fun c' a b => by
            have := rs f f2 hg0 ho0 c'.toNat (by omega)
            rw [Int.toNat_of_nonneg a] at this
            exact this
          rw [efc, ab_nn_rw rsf ⟨c4.1, by omega⟩ _ 0 (Int.le_refl 0) (by omega)] at q
          have piv : ∀ p, 0 ≤ p → p < ab_wd lv → p ≠ f → 0 ≤ g p ∧ g p = if p ≤ f then p else p - 1 := by
            intro p p0 p1 pf
            have a := f4 p.toNat (by omega) (by omega)
            have b := m6.2.2.1 p.toNat (by omega)
            have c := f5 p.toNat (by omega)
            have e : ((p.toNat : Nat) : Int) = p := Int.toNat_of_nonneg p0
            rw [e] at a b c
            refine ⟨a, ?_⟩
            by_cases d : p ≤ f
            · rw [if_pos d]
              rw [if_pos (by omega)] at c
              omega
            · rw [if_neg d]
              rw [if_neg (by omega)] at c
              omega
          have pav : ∀ p, 0 ≤ p → p < ab_wd lv - 1 → pa p = if p < f then p else p + 1 := by
            intro p p0 p1
            by_cases d : p < f
            · have a := piv p p0 (by omega) (by omega)
              have b := m8 p p0 (by omega) a.1
              rw [if_pos (by omega)] at a
              rw [a.2] at b
              rw [if_pos d, b]
            · have a := piv (p + 1) (by omega) (by omega) (by omega)
              have b := m8 (p + 1) (by omega) (by omega) a.1
              rw [if_neg (by omega), show p + 1 - 1 = p by omega] at a
              rw [a.2] at b
              rw [if_neg d, b]
          obtain ⟨⟨T', u1⟩, ⟨th, u2⟩, ⟨f3', u3⟩, ⟨M', u4, u4'⟩, ⟨f5', u5⟩, ⟨f6', u6⟩, ⟨f7', u7⟩, ⟨f8', u8⟩, ⟨f9', u9⟩⟩ := id m9
          have i0 := c4.1
          have i7 : i < ((7 : Nat) : Int) := by omega
          have h22r : ab_inR (σ1 22) = True := eq_true (by omega)
          simp only [s155_55, s155_56, s155_59, s155_61, s155_62, s155_65, s155_66, s155_67, true_and, and_true, true_implies, Option.toList_some, Option.toList_none, List.nil_append, List.cons_append, List.map_nil, List.map_cons, List.sum_nil, List.sum_cons, Nat.zero_le, ab_nl_n, ab_nl_i, ab_nl_r, ab_nl_0, ab_cat_i, ab_cat_r, ab_cat_l, Nat.reduceAdd, Nat.reduceLeDiff, Nat.add_zero, Nat.zero_add, reduceIte, List.getElem?_cons_succ, List.getElem?_cons_zero, List.length_cons, List.length_nil, List.set_cons_zero, List.set_cons_succ, true_or, or_true, Classical.not_not, not_true_eq_false, not_false_eq_true, ab_01r, ab_01z, ab_01n, false_implies, ab_tt, Nat.reduceLT, Nat.reduceEqDiff, Int.reduceNeg, Int.reduceLT, Int.reduceLE, Int.add_zero, Int.zero_add, List.append_nil, Int.reduceEq, ab_sum1, ab_ri_0, ab_ri_1, ab_ri_2, ab_ri_3, ab_ri_4, ab_ri_5, ab_ri_6, ab_ri_7, ab_ri_8, ab_ri_12, ab_ri_30, ab_ri_60, ab_ri_100, ab_ri_101, ab_ri_127, ab_ri_m1, ab_ri_m2, ab_ri_m3, ab_ri_m4, ab_ri_m5, ab_ri_m11, ab_ri_m13, ab_ri_m14, ab_ri_10, ab_fd, ab_fs, ab_ai, ab_as, ab_fit, ab_tyf, tyX12, ab_mg_0, ab_mg_1, ab_mg_2, ab_mg_3, ab_mg_4, ab_mg_5, ab_mg_6, ab_mg_7, ab_mg_8, ab_mg_9, ab_mg_10, ab_mg_11, ab_mg_12, ab_mg_13, ab_mg_14, ab_mg_15, ab_mg_16, ab_mg_17, ab_mg_18, ab_mg_19, ab_mg_20, ab_mg_21, ab_mg_22, ab_mg_23, ab_mg_24, ab_mg_25, ab_mg_26, ab_mg_27, ab_mg_28, ab_mg_29, ab_mg_30, ab_mg_31, ab_mg_32, ab_mg_33, ab_ms_8, ab_ms_10, ab_ms_11, ab_ms_17, ab_ms_21, ab_ms_22, ab_ms_24, ab_ms_25, ab_ms_26, ab_ms_29, ab_ms_32, ab_mol_l, Nat.reduceLT, Nat.reduceLeDiff, m1]
          have g101 : ab_G 155 101 [some (vr 68), some (vi lv), some (vi i), some (vi (ab_wd lv - σ1 22)), some (vi f), some (vi (-1))] [] h1 n (0, 0) Q := by
            simp only [s155_101, s155_102, s155_103, s155_105, true_and, and_true, true_implies, Option.toList_some, Option.toList_none, List.nil_append, List.cons_append, List.map_nil, List.map_cons, List.sum_nil, List.sum_cons, Nat.zero_le, ab_nl_n, ab_nl_i, ab_nl_r, ab_nl_0, ab_cat_i, ab_cat_r, ab_cat_l, Nat.reduceAdd, Nat.reduceLeDiff, Nat.add_zero, Nat.zero_add, reduceIte, List.getElem?_cons_succ, List.getElem?_cons_zero, List.length_cons, List.length_nil, List.set_cons_zero, List.set_cons_succ, true_or, or_true, Classical.not_not, not_true_eq_false, not_false_eq_true, ab_01r, ab_01z, ab_01n, false_implies, ab_tt, Nat.reduceLT, Nat.reduceEqDiff, Int.reduceNeg, Int.reduceLT, Int.reduceLE, Int.add_zero, Int.zero_add, List.append_nil, Int.reduceEq, ab_sum1, ab_ri_0, ab_ri_1, ab_ri_2, ab_ri_3, ab_ri_4, ab_ri_5, ab_ri_6, ab_ri_7, ab_ri_8, ab_ri_12, ab_ri_30, ab_ri_60, ab_ri_100, ab_ri_101, ab_ri_127, ab_ri_m1, ab_ri_m2, ab_ri_m3, ab_ri_m4, ab_ri_m5, ab_ri_m11, ab_ri_m13, ab_ri_m14, ab_ri_10, ab_vc, m1, ab_sv_12_179, ab_sv_12_100, ab_sv_12_100, ab_sv_12_142, Nat.reduceLeDiff]
            refine mp_thinks m1 u2 (by omega) ?_
            have fr2 : ∀ c d a, a ≠ 68 → a ≠ 83 → ab_hs (ab_hs h1 68 c) 83 d a = h1 a := fun c d a a1 a2 => (ab_hs_ne a2).trans (ab_hs_ne a1)
            simp only [s155_108, s155_109, true_and, and_true, true_implies, Option.toList_some, Option.toList_none, List.nil_append, List.cons_append, List.map_nil, List.map_cons, List.sum_nil, List.sum_cons, Nat.zero_le, ab_nl_n, ab_nl_i, ab_nl_r, ab_nl_0, ab_cat_i, ab_cat_r, ab_cat_l, Nat.reduceAdd, Nat.reduceLeDiff, Nat.add_zero, Nat.zero_add, reduceIte, List.getElem?_cons_succ, List.getElem?_cons_zero, List.length_cons, List.length_nil, List.set_cons_zero, List.set_cons_succ, true_or, or_true, Classical.not_not, not_true_eq_false, not_false_eq_true, ab_01r, ab_01z, ab_01n, false_implies, ab_tt, Nat.reduceLT, Nat.reduceEqDiff, Int.reduceNeg, Int.reduceLT, Int.reduceLE, Int.add_zero, Int.zero_add, List.append_nil, Int.reduceEq, ab_sum1, ab_ri_0, ab_ri_1, ab_ri_2, ab_ri_3, ab_ri_4, ab_ri_5, ab_ri_6, ab_ri_7, ab_ri_8, ab_ri_12, ab_ri_30, ab_ri_60, ab_ri_100, ab_ri_101, ab_ri_127, ab_ri_m1, ab_ri_m2, ab_ri_m3, ab_ri_m4, ab_ri_m5, ab_ri_m11, ab_ri_m13, ab_ri_m14, ab_ri_10]
            have key2 := ab_dn (P := fun p => ∀ h' t, (∀ a, a ≠ 68 → a ≠ 83 → h' a = h1 a) → h' 68 = some (ab_mo (ab_su σ1 17 lv)) → h' 83 = some (ab_ia 7 t) → (∀ c, 0 ≤ c → c < ab_wd lv → t c = if 0 ≤ g c ∧ g c < p then ab_raw N g c f else ab_un1 f c) → ab_G 155 111 [some (vr 68), some (vi lv), some (vi i), some (vi (ab_wd lv - σ1 22)), some (vi f), some (vi p)] [] h' n (0, 0) Q) (a := 0) (e := σ1 22) (by omega) ?_ ?_
            · refine key2 _ _ (fun a a1 a2 => fr2 _ _ a a1 a2) ((ab_hs_ne (by decide)).trans ab_hs_self) ab_hs_self (fun c' c0 c1 => ?_)
              rw [ab_fi_lo ⟨c0, by omega⟩, if_neg (by omega)]
            · intro h2 t e2 n1 n2 ht
              have ht' : ∀ c, 0 ≤ c → c < ab_wd lv → t c = ab_raw N g c f := by
                intro c' c0 c1
                rw [ht c' c0 c1]
                by_cases e : c' = f
                · rw [e, if_neg (fun z => by omega)]
                  unfold ab_un1 ab_raw
                  rw [if_pos rfl, if_pos f3]
                · have a := piv c' c0 c1 e
                  rw [if_pos]
                  refine ⟨a.1, ?_⟩
                  by_cases d : c' ≤ f
                  · rw [if_pos d] at a
                    omega
                  · rw [if_neg d] at a
                    omega
              have q := q h2 (fun a ha => (e2 a (by omega) (by omega)).trans (e1 a (by omega))) (ab_JM_w (fun a ha => (e2 a (by omega) (by omega)).trans (e1 a ha)) hsc hst hp n1 (ab_sg_t m2 (ab_sg_su (by decide))) ⟨⟨T', (e2 82 (by decide) (by decide)).trans u1⟩, ⟨t, n2⟩, ⟨f3', (e2 84 (by decide) (by decide)).trans u3⟩, ⟨M', (e2 85 (by decide) (by decide)).trans u4, u4'⟩, ⟨f5', (e2 86 (by decide) (by decide)).trans u5⟩, ⟨f6', (e2 87 (by decide) (by decide)).trans u6⟩, ⟨f7', (e2 88 (by decide) (by decide)).trans u7⟩, ⟨f8', (e2 89 (by decide) (by decide)).trans u8⟩, ⟨f9', (e2 90 (by decide) (by decide)).trans u9⟩⟩)
              rw [s155_111]
              have s22 : ab_su σ1 17 lv 22 = σ1 22 := ab_su_n (by decide)
              simp only [s155_113, s155_114, s155_117, s155_155, s155_156, true_and, and_true, true_implies, Option.toList_some, Option.toList_none, List.nil_append, List.cons_append, List.map_nil, List.map_cons, List.sum_nil, List.sum_cons, Nat.zero_le, ab_nl_n, ab_nl_i, ab_nl_r, ab_nl_0, ab_cat_i, ab_cat_r, ab_cat_l, Nat.reduceAdd, Nat.reduceLeDiff, Nat.add_zero, Nat.zero_add, reduceIte, List.getElem?_cons_succ, List.getElem?_cons_zero, List.length_cons, List.length_nil, List.set_cons_zero, List.set_cons_succ, true_or, or_true, Classical.not_not, not_true_eq_false, not_false_eq_true, ab_01r, ab_01z, ab_01n, false_implies, ab_tt, Nat.reduceLT, Nat.reduceEqDiff, Int.reduceNeg, Int.reduceLT, Int.reduceLE, Int.add_zero, Int.zero_add, List.append_nil, Int.reduceEq, ab_sum1, ab_ri_0, ab_ri_1, ab_ri_2, ab_ri_3, ab_ri_4, ab_ri_5, ab_ri_6, ab_ri_7, ab_ri_8, ab_ri_12, ab_ri_30, ab_ri_60, ab_ri_100, ab_ri_101, ab_ri_127, ab_ri_m1, ab_ri_m2, ab_ri_m3, ab_ri_m4, ab_ri_m5, ab_ri_m11, ab_ri_m13, ab_ri_m14, ab_ri_10, ab_fd, ab_fs, ab_ai, ab_as, ab_fit, ab_tyf, tyX12, ab_mg_0, ab_mg_1, ab_mg_2, ab_mg_3, ab_mg_4, ab_mg_5, ab_mg_6, ab_mg_7, ab_mg_8, ab_mg_9, ab_mg_10, ab_mg_11, ab_mg_12, ab_mg_13, ab_mg_14, ab_mg_15, ab_mg_16, ab_mg_17, ab_mg_18, ab_mg_19, ab_mg_20, ab_mg_21, ab_mg_22, ab_mg_23, ab_mg_24, ab_mg_25, ab_mg_26, ab_mg_27, ab_mg_28, ab_mg_29, ab_mg_30, ab_mg_31, ab_mg_32, ab_mg_33, ab_ms_8, ab_ms_10, ab_ms_11, ab_ms_17, ab_ms_21, ab_ms_22, ab_ms_24, ab_ms_25, ab_ms_26, ab_ms_29, ab_ms_32, ab_mol_l, Nat.reduceLT, Nat.reduceLeDiff, n1, s22, h22r, Int.le_refl]
              have key3 := ab_dn (P := fun c => Q (some (vi (ab_nn N g f i c (ab_wd lv - c).toNat))) h2 n → (∀ j, 0 ≤ j → j < c → ab_raw N g j f = 0) → ab_G 155 158 [some (vr 68), some (vi lv), some (vi i), some (vi (ab_wd lv - σ1 22)), some (vi f), some (vi c)] [] h2 n (0, 0) Q) (a := 0) (e := ab_wd lv) (by omega) ?_ ?_
              · exact key3 (by rw [Int.sub_zero]; exact q) (fun j j0 j1 => absurd j0 (by omega))
              · intro _ hz
                have z := hz f (by omega) (by omega)
                unfold ab_raw at z
                rw [if_pos f3] at z
                exact absurd z (by decide)
              · intro c' c0 c1 ch q hz
                rw [show (ab_wd lv - c').toNat = (ab_wd lv - (c' + 1)).toNat + 1 by omega, ab_nn] at q
                have tc := ht' c' c0 c1
                have ti := ht' i i0 (by omega)
                have rr := ab_raw_r (M := N) (g := g) (c := c') (free := f)
                have rr2 := ab_raw_r (M := N) (g := g) (c := i) (free := f)
                have rrr : ab_inR (ab_raw N g c' f) = True := eq_true (by omega)
                have c7 : c' < ((7 : Nat) : Int) := by omega
                rw [s155_158]
                by_cases z : ab_raw N g c' f = 0
                · rw [if_pos z] at q
                  have ch := ch q (fun j j0 j1 => by
                    by_cases e : j = c'
                    · rw [e]; exact z
                    · exact hz j j0 (by omega))
                  simp only [s155_159, s155_162, s155_164, s155_165, s155_168, s155_171, true_and, and_true, true_implies, Option.toList_some, Option.toList_none, List.nil_append, List.cons_append, List.map_nil, List.map_cons, List.sum_nil, List.sum_cons, Nat.zero_le, ab_nl_n, ab_nl_i, ab_nl_r, ab_nl_0, ab_cat_i, ab_cat_r, ab_cat_l, Nat.reduceAdd, Nat.reduceLeDiff, Nat.add_zero, Nat.zero_add, reduceIte, List.getElem?_cons_succ, List.getElem?_cons_zero, List.length_cons, List.length_nil, List.set_cons_zero, List.set_cons_succ, true_or, or_true, Classical.not_not, not_true_eq_false, not_false_eq_true, ab_01r, ab_01z, ab_01n, false_implies, ab_tt, Nat.reduceLT, Nat.reduceEqDiff, Int.reduceNeg, Int.reduceLT, Int.reduceLE, Int.add_zero, Int.zero_add, List.append_nil, Int.reduceEq, ab_sum1, ab_ri_0, ab_ri_1, ab_ri_2, ab_ri_3, ab_ri_4, ab_ri_5, ab_ri_6, ab_ri_7, ab_ri_8, ab_ri_12, ab_ri_30, ab_ri_60, ab_ri_100, ab_ri_101, ab_ri_127, ab_ri_m1, ab_ri_m2, ab_ri_m3, ab_ri_m4, ab_ri_m5, ab_ri_m11, ab_ri_m13, ab_ri_m14, ab_ri_10, ab_fd, ab_fs, ab_ai, ab_as, ab_fit, ab_tyf, tyX12, ab_mg_0, ab_mg_1, ab_mg_2, ab_mg_3, ab_mg_4, ab_mg_5, ab_mg_6, ab_mg_7, ab_mg_8, ab_mg_9, ab_mg_10, ab_mg_11, ab_mg_12, ab_mg_13, ab_mg_14, ab_mg_15, ab_mg_16, ab_mg_17, ab_mg_18, ab_mg_19, ab_mg_20, ab_mg_21, ab_mg_22, ab_mg_23, ab_mg_24, ab_mg_25, ab_mg_26, ab_mg_27, ab_mg_28, ab_mg_29, ab_mg_30, ab_mg_31, ab_mg_32, ab_mg_33, ab_ms_8, ab_ms_10, ab_ms_11, ab_ms_17, ab_ms_21, ab_ms_22, ab_ms_24, ab_ms_25, ab_ms_26, ab_ms_29, ab_ms_32, ab_mol_l, Nat.reduceLT, Nat.reduceLeDiff, n1, n2, tc, z, c0, c7, ch]
                · rw [if_neg z] at q
                  have iv := ab_inv_r rr.1 (by omega)
                  have m3 : 0 ≤ ab_raw N g i f * ab_inv (ab_raw N g c' f) := Int.mul_nonneg rr2.1 iv.1
                  have m4' : ab_raw N g i f * ab_inv (ab_raw N g c' f) ≤ 100 * 100 := Int.mul_le_mul rr2.2 iv.2 iv.1 (by omega)
                  simp only [s155_159, s155_162, s155_164, s155_165, s155_168, s155_171, s155_174, s155_175, s155_178, s155_179, s155_180, s155_181, s155_184, s155_186, s155_187, true_and, and_true, true_implies, Option.toList_some, Option.toList_none, List.nil_append, List.cons_append, List.map_nil, List.map_cons, List.sum_nil, List.sum_cons, Nat.zero_le, ab_nl_n, ab_nl_i, ab_nl_r, ab_nl_0, ab_cat_i, ab_cat_r, ab_cat_l, Nat.reduceAdd, Nat.reduceLeDiff, Nat.add_zero, Nat.zero_add, reduceIte, List.getElem?_cons_succ, List.getElem?_cons_zero, List.length_cons, List.length_nil, List.set_cons_zero, List.set_cons_succ, true_or, or_true, Classical.not_not, not_true_eq_false, not_false_eq_true, ab_01r, ab_01z, ab_01n, false_implies, ab_tt, Nat.reduceLT, Nat.reduceEqDiff, Int.reduceNeg, Int.reduceLT, Int.reduceLE, Int.add_zero, Int.zero_add, List.append_nil, Int.reduceEq, ab_sum1, ab_ri_0, ab_ri_1, ab_ri_2, ab_ri_3, ab_ri_4, ab_ri_5, ab_ri_6, ab_ri_7, ab_ri_8, ab_ri_12, ab_ri_30, ab_ri_60, ab_ri_100, ab_ri_101, ab_ri_127, ab_ri_m1, ab_ri_m2, ab_ri_m3, ab_ri_m4, ab_ri_m5, ab_ri_m11, ab_ri_m13, ab_ri_m14, ab_ri_10, ab_fd, ab_fs, ab_ai, ab_as, ab_fit, ab_tyf, tyX12, ab_mg_0, ab_mg_1, ab_mg_2, ab_mg_3, ab_mg_4, ab_mg_5, ab_mg_6, ab_mg_7, ab_mg_8, ab_mg_9, ab_mg_10, ab_mg_11, ab_mg_12, ab_mg_13, ab_mg_14, ab_mg_15, ab_mg_16, ab_mg_17, ab_mg_18, ab_mg_19, ab_mg_20, ab_mg_21, ab_mg_22, ab_mg_23, ab_mg_24, ab_mg_25, ab_mg_26, ab_mg_27, ab_mg_28, ab_mg_29, ab_mg_30, ab_mg_31, ab_mg_32, ab_mg_33, ab_ms_8, ab_ms_10, ab_ms_11, ab_ms_17, ab_ms_21, ab_ms_22, ab_ms_24, ab_ms_25, ab_ms_26, ab_ms_29, ab_ms_32, ab_mol_l, Nat.reduceLT, Nat.reduceLeDiff, n1, n2, tc, ti, z, c0, c7, i0, i7, rrr]
                  refine mp_inverse rr ?_
                  simp only [s155_190, s155_191, s155_193, s155_194, true_and, and_true, true_implies, Option.toList_some, Option.toList_none, List.nil_append, List.cons_append, List.map_nil, List.map_cons, List.sum_nil, List.sum_cons, Nat.zero_le, ab_nl_n, ab_nl_i, ab_nl_r, ab_nl_0, ab_cat_i, ab_cat_r, ab_cat_l, Nat.reduceAdd, Nat.reduceLeDiff, Nat.add_zero, Nat.zero_add, reduceIte, List.getElem?_cons_succ, List.getElem?_cons_zero, List.length_cons, List.length_nil, List.set_cons_zero, List.set_cons_succ, true_or, or_true, Classical.not_not, not_true_eq_false, not_false_eq_true, ab_01r, ab_01z, ab_01n, false_implies, ab_tt, Nat.reduceLT, Nat.reduceEqDiff, Int.reduceNeg, Int.reduceLT, Int.reduceLE, Int.add_zero, Int.zero_add, List.append_nil, Int.reduceEq, ab_sum1, ab_ri_0, ab_ri_1, ab_ri_2, ab_ri_3, ab_ri_4, ab_ri_5, ab_ri_6, ab_ri_7, ab_ri_8, ab_ri_12, ab_ri_30, ab_ri_60, ab_ri_100, ab_ri_101, ab_ri_127, ab_ri_m1, ab_ri_m2, ab_ri_m3, ab_ri_m4, ab_ri_m5, ab_ri_m11, ab_ri_m13, ab_ri_m14, ab_ri_10, ab_md m3, q] <;> omega
            · intro p p0 p9 ph h2 t e2 n1 n2 ht
              have s22 : ab_su σ1 17 lv 22 = σ1 22 := ab_su_n (by decide)
              have cp : ¬ σ1 22 ≤ p := by omega
              have hpr : ab_inR p = True := eq_true (by omega)
              have p7 : p < ((7 : Nat) : Int) := by omega
              have pv := pav p p0 (by omega)
              have px : 0 ≤ pa p ∧ pa p < ((7 : Nat) : Int) := by
                rw [pv]
                split <;> omega
              have x0 : 0 ≤ 7 * p + (f : Int) := by omega
              have x1 : 7 * p + (f : Int) < ((84 : Nat) : Int) := by omega
              have at1 : ab_flt N (7 * p + (f : Int)) = N p f := by
                rw [show 7 * p + (f : Int) = p * 7 + f by omega]
                exact ab_flt_at (by omega) (by omega)
              have vr := m4 p f p0 (by omega) (by omega) (by omega)
              have nr : ab_inR (-N p f) := by omega
              have n85 := (e2 85 (by decide) (by decide)).trans m3
              have n86 := (e2 86 (by decide) (by decide)).trans m5
              have ph := ph (ab_hs h2 83 (ab_ia 7 (ab_ui t (pa p) (-N p f % 101)))) _ (fun a a1 a2 => (ab_hs_ne a2).trans (e2 a a1 a2)) ((ab_hs_ne (by decide)).trans n1) ab_hs_self (fun c' c0 c1 => by
                by_cases e : c' = pa p
                · have cf : c' ≠ f := by
                    rw [e, pv]
                    split <;> omega
                  have a := piv c' c0 c1 cf
                  have gp : g c' = p := by
                    rw [a.2, e, pv]
                    by_cases d : p < f
                    · rw [if_pos d, if_pos (by omega)]
                    · rw [if_neg d, if_neg (by omega)]
                      omega
                  rw [← e, ab_ui_at, if_pos ⟨a.1, by omega⟩]
                  unfold ab_raw
                  rw [if_neg (by omega), gp]
                · rw [ab_ui_ne e, ht c' c0 c1]
                  by_cases d : 0 ≤ g c' ∧ g c' < p
                  · rw [if_pos d, if_pos ⟨d.1, by omega⟩]
                  · rw [if_neg d, if_neg]
                    intro z
                    have b := m8 c' c0 c1 z.1
                    rw [show g c' = p by omega] at b
                    exact e b.symm)
              rw [s155_111]
              simp only [s155_113, s155_114, s155_117, s155_120, s155_121, s155_124, s155_125, s155_128, s155_130, s155_131, s155_132, s155_135, s155_137, s155_139, s155_140, s155_142, s155_143, s155_144, s155_145, s155_148, s155_149, s155_152, true_and, and_true, true_implies, Option.toList_some, Option.toList_none, List.nil_append, List.cons_append, List.map_nil, List.map_cons, List.sum_nil, List.sum_cons, Nat.zero_le, ab_nl_n, ab_nl_i, ab_nl_r, ab_nl_0, ab_cat_i, ab_cat_r, ab_cat_l, Nat.reduceAdd, Nat.reduceLeDiff, Nat.add_zero, Nat.zero_add, reduceIte, List.getElem?_cons_succ, List.getElem?_cons_zero, List.length_cons, List.length_nil, List.set_cons_zero, List.set_cons_succ, true_or, or_true, Classical.not_not, not_true_eq_false, not_false_eq_true, ab_01r, ab_01z, ab_01n, false_implies, ab_tt, Nat.reduceLT, Nat.reduceEqDiff, Int.reduceNeg, Int.reduceLT, Int.reduceLE, Int.add_zero, Int.zero_add, List.append_nil, Int.reduceEq, ab_sum1, ab_ri_0, ab_ri_1, ab_ri_2, ab_ri_3, ab_ri_4, ab_ri_5, ab_ri_6, ab_ri_7, ab_ri_8, ab_ri_12, ab_ri_30, ab_ri_60, ab_ri_100, ab_ri_101, ab_ri_127, ab_ri_m1, ab_ri_m2, ab_ri_m3, ab_ri_m4, ab_ri_m5, ab_ri_m11, ab_ri_m13, ab_ri_m14, ab_ri_10, ab_fd, ab_fs, ab_ai, ab_as, ab_fit, ab_tyf, tyX12, ab_mg_0, ab_mg_1, ab_mg_2, ab_mg_3, ab_mg_4, ab_mg_5, ab_mg_6, ab_mg_7, ab_mg_8, ab_mg_9, ab_mg_10, ab_mg_11, ab_mg_12, ab_mg_13, ab_mg_14, ab_mg_15, ab_mg_16, ab_mg_17, ab_mg_18, ab_mg_19, ab_mg_20, ab_mg_21, ab_mg_22, ab_mg_23, ab_mg_24, ab_mg_25, ab_mg_26, ab_mg_27, ab_mg_28, ab_mg_29, ab_mg_30, ab_mg_31, ab_mg_32, ab_mg_33, ab_ms_8, ab_ms_10, ab_ms_11, ab_ms_17, ab_ms_21, ab_ms_22, ab_ms_24, ab_ms_25, ab_ms_26, ab_ms_29, ab_ms_32, ab_mol_l, Nat.reduceLT, Nat.reduceLeDiff, n1, n2, n85, n86, s22, h22r, hpr, cp, p0, p7, x0, x1, at1, mp_mod nr, px, ph]
          have key1 : ∀ k : Nat, (k : Int) ≤ σ1 22 → ab_G 155 69 [some (vr 68), some (vi lv), some (vi i), some (vi (ab_wd lv - σ1 22)), some (vi (if (f : Int) ≤ k then (k : Int) else f)), some (vi ((k : Int) - 1))] [] h1 n (0, 0) Q := by
            intro k
            induction k with
            | zero =>
              intro _
              have e0 : (if (f : Int) ≤ ((0 : Nat) : Int) then ((0 : Nat) : Int) else (f : Int)) = f := by
                split <;> omega
              have c5 : ((0 : Nat) : Int) - 1 = -1 := rfl
              have rm : ab_inR (-1) = True := eq_true (by omega)
              rw [e0, c5, s155_69]
              simp only [s155_71, true_and, and_true, true_implies, Option.toList_some, Option.toList_none, List.nil_append, List.cons_append, List.map_nil, List.map_cons, List.sum_nil, List.sum_cons, Nat.zero_le, ab_nl_n, ab_nl_i, ab_nl_r, ab_nl_0, ab_cat_i, ab_cat_r, ab_cat_l, Nat.reduceAdd, Nat.reduceLeDiff, Nat.add_zero, Nat.zero_add, reduceIte, List.getElem?_cons_succ, List.getElem?_cons_zero, List.length_cons, List.length_nil, List.set_cons_zero, List.set_cons_succ, true_or, or_true, Classical.not_not, not_true_eq_false, not_false_eq_true, ab_01r, ab_01z, ab_01n, false_implies, ab_tt, Nat.reduceLT, Nat.reduceEqDiff, Int.reduceNeg, Int.reduceLT, Int.reduceLE, Int.add_zero, Int.zero_add, List.append_nil, Int.reduceEq, ab_sum1, ab_ri_0, ab_ri_1, ab_ri_2, ab_ri_3, ab_ri_4, ab_ri_5, ab_ri_6, ab_ri_7, ab_ri_8, ab_ri_12, ab_ri_30, ab_ri_60, ab_ri_100, ab_ri_101, ab_ri_127, ab_ri_m1, ab_ri_m2, ab_ri_m3, ab_ri_m4, ab_ri_m5, ab_ri_m11, ab_ri_m13, ab_ri_m14, ab_ri_10, rm, g101]
            | succ k ih =>
              intro hk
              have ih := ih (by omega)
              have ek : ((k + 1 : Nat) : Int) - 1 = k := by omega
              have kr : ab_inR (k : Int) = True := eq_true (by omega)
              have kn : ¬ (k : Int) < 0 := by omega
              have k0 : (0 : Int) ≤ k := by omega
              have k7 : (k : Int) < ((7 : Nat) : Int) := by omega
              have em : (k : Int) + -1 = k - 1 := rfl
              have pv := pav k k0 (by omega)
              have u86 := m5
              rw [ek, s155_69]
              by_cases d : (k : Int) < f
              · rw [if_pos d] at pv
                rw [if_neg (show ¬ (f : Int) ≤ k by omega)] at ih
                have e1 : (if (f : Int) ≤ ((k + 1 : Nat) : Int) then ((k + 1 : Nat) : Int) else (f : Int)) = f := by
                  split <;> omega
                simp only [s155_71, s155_74, s155_75, s155_78, s155_80, s155_81, s155_83, s155_86, s155_88, s155_91, s155_93, s155_95, s155_98, true_and, and_true, true_implies, Option.toList_some, Option.toList_none, List.nil_append, List.cons_append, List.map_nil, List.map_cons, List.sum_nil, List.sum_cons, Nat.zero_le, ab_nl_n, ab_nl_i, ab_nl_r, ab_nl_0, ab_cat_i, ab_cat_r, ab_cat_l, Nat.reduceAdd, Nat.reduceLeDiff, Nat.add_zero, Nat.zero_add, reduceIte, List.getElem?_cons_succ, List.getElem?_cons_zero, List.length_cons, List.length_nil, List.set_cons_zero, List.set_cons_succ, true_or, or_true, Classical.not_not, not_true_eq_false, not_false_eq_true, ab_01r, ab_01z, ab_01n, false_implies, ab_tt, Nat.reduceLT, Nat.reduceEqDiff, Int.reduceNeg, Int.reduceLT, Int.reduceLE, Int.add_zero, Int.zero_add, List.append_nil, Int.reduceEq, ab_sum1, ab_ri_0, ab_ri_1, ab_ri_2, ab_ri_3, ab_ri_4, ab_ri_5, ab_ri_6, ab_ri_7, ab_ri_8, ab_ri_12, ab_ri_30, ab_ri_60, ab_ri_100, ab_ri_101, ab_ri_127, ab_ri_m1, ab_ri_m2, ab_ri_m3, ab_ri_m4, ab_ri_m5, ab_ri_m11, ab_ri_m13, ab_ri_m14, ab_ri_10, ab_fd, ab_fs, ab_ai, ab_as, ab_fit, ab_tyf, tyX12, ab_mg_0, ab_mg_1, ab_mg_2, ab_mg_3, ab_mg_4, ab_mg_5, ab_mg_6, ab_mg_7, ab_mg_8, ab_mg_9, ab_mg_10, ab_mg_11, ab_mg_12, ab_mg_13, ab_mg_14, ab_mg_15, ab_mg_16, ab_mg_17, ab_mg_18, ab_mg_19, ab_mg_20, ab_mg_21, ab_mg_22, ab_mg_23, ab_mg_24, ab_mg_25, ab_mg_26, ab_mg_27, ab_mg_28, ab_mg_29, ab_mg_30, ab_mg_31, ab_mg_32, ab_mg_33, ab_ms_8, ab_ms_10, ab_ms_11, ab_ms_17, ab_ms_21, ab_ms_22, ab_ms_24, ab_ms_25, ab_ms_26, ab_ms_29, ab_ms_32, ab_mol_l, Nat.reduceLT, Nat.reduceLeDiff, m1, u86, pv, kr, kn, k0, k7, Int.le_refl, e1, em, ih]
              · rw [if_neg d] at pv
                rw [if_pos (show (f : Int) ≤ k by omega)] at ih
                have c6 : ¬ (k : Int) + 1 ≤ k := by omega
                have kr1 : ab_inR ((k : Int) + 1) = True := eq_true (by omega)
                simp only [s155_71, s155_74, s155_75, s155_78, s155_80, s155_81, s155_83, s155_86, s155_88, s155_91, s155_93, s155_95, s155_98, true_and, and_true, true_implies, Option.toList_some, Option.toList_none, List.nil_append, List.cons_append, List.map_nil, List.map_cons, List.sum_nil, List.sum_cons, Nat.zero_le, ab_nl_n, ab_nl_i, ab_nl_r, ab_nl_0, ab_cat_i, ab_cat_r, ab_cat_l, Nat.reduceAdd, Nat.reduceLeDiff, Nat.add_zero, Nat.zero_add, reduceIte, List.getElem?_cons_succ, List.getElem?_cons_zero, List.length_cons, List.length_nil, List.set_cons_zero, List.set_cons_succ, true_or, or_true, Classical.not_not, not_true_eq_false, not_false_eq_true, ab_01r, ab_01z, ab_01n, false_implies, ab_tt, Nat.reduceLT, Nat.reduceEqDiff, Int.reduceNeg, Int.reduceLT, Int.reduceLE, Int.add_zero, Int.zero_add, List.append_nil, Int.reduceEq, ab_sum1, ab_ri_0, ab_ri_1, ab_ri_2, ab_ri_3, ab_ri_4, ab_ri_5, ab_ri_6, ab_ri_7, ab_ri_8, ab_ri_12, ab_ri_30, ab_ri_60, ab_ri_100, ab_ri_101, ab_ri_127, ab_ri_m1, ab_ri_m2, ab_ri_m3, ab_ri_m4, ab_ri_m5, ab_ri_m11, ab_ri_m13, ab_ri_m14, ab_ri_10, ab_fd, ab_fs, ab_ai, ab_as, ab_fit, ab_tyf, tyX12, ab_mg_0, ab_mg_1, ab_mg_2, ab_mg_3, ab_mg_4, ab_mg_5, ab_mg_6, ab_mg_7, ab_mg_8, ab_mg_9, ab_mg_10, ab_mg_11, ab_mg_12, ab_mg_13, ab_mg_14, ab_mg_15, ab_mg_16, ab_mg_17, ab_mg_18, ab_mg_19, ab_mg_20, ab_mg_21, ab_mg_22, ab_mg_23, ab_mg_24, ab_mg_25, ab_mg_26, ab_mg_27, ab_mg_28, ab_mg_29, ab_mg_30, ab_mg_31, ab_mg_32, ab_mg_33, ab_ms_8, ab_ms_10, ab_ms_11, ab_ms_17, ab_ms_21, ab_ms_22, ab_ms_24, ab_ms_25, ab_ms_26, ab_ms_29, ab_ms_32, ab_mol_l, Nat.reduceLT, Nat.reduceLeDiff, m1, u86, pv, kr, kr1, kn, k0, k7, c6, em, ih]
          have := key1 (σ1 22).toNat (by omega)
          rw [Int.toNat_of_nonneg (show 0 ≤ σ1 22 by omega), if_pos (by omega)] at this
          exact this
        · rw [if_neg (fun z => c4 ⟨z.2.2.1, by have := z.2.2.2; omega⟩)] at q
          have q := q h1 (fun a ha => e1 a (by omega)) JM
          simp only [s155_32, s155_33, s155_34, s155_37, s155_38, s155_39, s155_40, s155_41, s155_44, s155_45, s155_46, s155_49, s155_52, s155_54, true_and, and_true, true_implies, Option.toList_some, Option.toList_none, List.nil_append, List.cons_append, List.map_nil, List.map_cons, List.sum_nil, List.sum_cons, Nat.zero_le, ab_nl_n, ab_nl_i, ab_nl_r, ab_nl_0, ab_cat_i, ab_cat_r, ab_cat_l, Nat.reduceAdd, Nat.reduceLeDiff, Nat.add_zero, Nat.zero_add, reduceIte, List.getElem?_cons_succ, List.getElem?_cons_zero, List.length_cons, List.length_nil, List.set_cons_zero, List.set_cons_succ, true_or, or_true, Classical.not_not, not_true_eq_false, not_false_eq_true, ab_01r, ab_01z, ab_01n, false_implies, ab_tt, Nat.reduceLT, Nat.reduceEqDiff, Int.reduceNeg, Int.reduceLT, Int.reduceLE, Int.add_zero, Int.zero_add, List.append_nil, Int.reduceEq, ab_sum1, ab_ri_0, ab_ri_1, ab_ri_2, ab_ri_3, ab_ri_4, ab_ri_5, ab_ri_6, ab_ri_7, ab_ri_8, ab_ri_12, ab_ri_30, ab_ri_60, ab_ri_100, ab_ri_101, ab_ri_127, ab_ri_m1, ab_ri_m2, ab_ri_m3, ab_ri_m4, ab_ri_m5, ab_ri_m11, ab_ri_m13, ab_ri_m14, ab_ri_10, ab_fd, ab_fs, ab_ai, ab_as, ab_fit, ab_tyf, tyX12, ab_mg_0, ab_mg_1, ab_mg_2, ab_mg_3, ab_mg_4, ab_mg_5, ab_mg_6, ab_mg_7, ab_mg_8, ab_mg_9, ab_mg_10, ab_mg_11, ab_mg_12, ab_mg_13, ab_mg_14, ab_mg_15, ab_mg_16, ab_mg_17, ab_mg_18, ab_mg_19, ab_mg_20, ab_mg_21, ab_mg_22, ab_mg_23, ab_mg_24, ab_mg_25, ab_mg_26, ab_mg_27, ab_mg_28, ab_mg_29, ab_mg_30, ab_mg_31, ab_mg_32, ab_mg_33, ab_ms_8, ab_ms_10, ab_ms_11, ab_ms_17, ab_ms_21, ab_ms_22, ab_ms_24, ab_ms_25, ab_ms_26, ab_ms_29, ab_ms_32, ab_mol_l, Nat.reduceLT, Nat.reduceLeDiff, ab_vc, ab_sv_12_179, ab_sv_12_100, ab_sv_12_100, ab_sv_12_142, m1, mp_many m1 st1 c, c2, eq_true c3, hfr, r1, mp_in hi (show ab_inR 0 by omega) (show ab_inR (ab_wd lv - 1) by omega), ab_01n, ab_01z, c4, q]
      · rw [if_neg (fun z => c3 z.1)] at q
        have q := q h1 (fun a ha => e1 a (by omega)) JM
        simp only [s155_32, s155_33, s155_34, s155_37, s155_38, s155_39, s155_40, s155_41, s155_44, s155_45, s155_46, s155_49, s155_52, s155_54, true_and, and_true, true_implies, Option.toList_some, Option.toList_none, List.nil_append, List.cons_append, List.map_nil, List.map_cons, List.sum_nil, List.sum_cons, Nat.zero_le, ab_nl_n, ab_nl_i, ab_nl_r, ab_nl_0, ab_cat_i, ab_cat_r, ab_cat_l, Nat.reduceAdd, Nat.reduceLeDiff, Nat.add_zero, Nat.zero_add, reduceIte, List.getElem?_cons_succ, List.getElem?_cons_zero, List.length_cons, List.length_nil, List.set_cons_zero, List.set_cons_succ, true_or, or_true, Classical.not_not, not_true_eq_false, not_false_eq_true, ab_01r, ab_01z, ab_01n, false_implies, ab_tt, Nat.reduceLT, Nat.reduceEqDiff, Int.reduceNeg, Int.reduceLT, Int.reduceLE, Int.add_zero, Int.zero_add, List.append_nil, Int.reduceEq, ab_sum1, ab_ri_0, ab_ri_1, ab_ri_2, ab_ri_3, ab_ri_4, ab_ri_5, ab_ri_6, ab_ri_7, ab_ri_8, ab_ri_12, ab_ri_30, ab_ri_60, ab_ri_100, ab_ri_101, ab_ri_127, ab_ri_m1, ab_ri_m2, ab_ri_m3, ab_ri_m4, ab_ri_m5, ab_ri_m11, ab_ri_m13, ab_ri_m14, ab_ri_10, c2, c3, hfr, r1, q]
  · rw [if_neg c] at q
    have q := q h (fun _ _ => rfl) J
    simp only [s155_0, s155_1, s155_4, s155_7, s155_8, true_and, and_true, true_implies, Option.toList_some, Option.toList_none, List.nil_append, List.cons_append, List.map_nil, List.map_cons, List.sum_nil, List.sum_cons, Nat.zero_le, ab_nl_n, ab_nl_i, ab_nl_r, ab_nl_0, ab_cat_i, ab_cat_r, ab_cat_l, Nat.reduceAdd, Nat.reduceLeDiff, Nat.add_zero, Nat.zero_add, reduceIte, List.getElem?_cons_succ, List.getElem?_cons_zero, List.length_cons, List.length_nil, List.set_cons_zero, List.set_cons_succ, true_or, or_true, Classical.not_not, not_true_eq_false, not_false_eq_true, ab_01r, ab_01z, ab_01n, false_implies, ab_tt, Nat.reduceLT, Nat.reduceEqDiff, Int.reduceNeg, Int.reduceLT, Int.reduceLE, Int.add_zero, Int.zero_add, List.append_nil, Int.reduceEq, ab_sum1, ab_ri_0, ab_ri_1, ab_ri_2, ab_ri_3, ab_ri_4, ab_ri_5, ab_ri_6, ab_ri_7, ab_ri_8, ab_ri_12, ab_ri_30, ab_ri_60, ab_ri_100, ab_ri_101, ab_ri_127, ab_ri_m1, ab_ri_m2, ab_ri_m3, ab_ri_m4, ab_ri_m5, ab_ri_m11, ab_ri_m13, ab_ri_m14, ab_ri_10, mp_isLevel hlv, ab_01n, ab_01z, c, q]
end VC
