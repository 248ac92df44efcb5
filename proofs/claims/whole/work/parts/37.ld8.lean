/-! ===== elimination looks at its rows and columns alone ===== -/
def ab_sm2 (M N : Int → Int → Int) (R C : Int) : Prop := ∀ r c, 0 ≤ r → r < R → 0 ≤ c → c < C → M r c = N r c
theorem ab_pv_cg {M N : Int → Int → Int} {c : Int} : ∀ (k : Nat) (r : Int), (∀ i, r ≤ i → i < r + k → M i c = N i c) → ab_pv M c r k = ab_pv N c r k
  | 0, _, _ => rfl
  | k + 1, r, h => by
    have ih := ab_pv_cg (M := M) (N := N) (c := c) k (r + 1) (fun i h0 h1 => h i (by omega) (by omega))
    unfold ab_pv
    rw [ih, h r (by omega) (by omega)]
theorem ab_sw_cg {M N : Int → Int → Int} {r q R C : Int} (hr : 0 ≤ r ∧ r < R) (hq : 0 ≤ q ∧ q < R) (h : ab_sm2 M N R C) : ab_sm2 (ab_sw M r q C) (ab_sw N r q C) R C := by
  intro a b a0 a1 b0 b1
  unfold ab_sw
  rw [h a b a0 a1 b0 b1, h q b hq.1 hq.2 b0 b1, h r b hr.1 hr.2 b0 b1]
theorem ab_mw_cg {M N : Int → Int → Int} {r y R C : Int} (h : ab_sm2 M N R C) : ab_sm2 (ab_mw M r y C) (ab_mw N r y C) R C := by
  intro a b a0 a1 b0 b1
  unfold ab_mw
  rw [h a b a0 a1 b0 b1]
theorem ab_cl_cg {M N : Int → Int → Int} {col pr R C : Int} (hp : 0 ≤ pr ∧ pr < R) (hc : 0 ≤ col ∧ col < C) (h : ab_sm2 M N R C) : ∀ k : Nat, (k : Int) ≤ R → ab_sm2 (ab_cl M col pr C k) (ab_cl N col pr C k) R C
  | 0, _ => h
  | k + 1, hk => by
    have ih := ab_cl_cg hp hc h k (by omega)
    intro a b a0 a1 b0 b1
    unfold ab_cl
    rw [ih k col (by omega) (by omega) hc.1 hc.2]
    split
    · exact ih a b a0 a1 b0 b1
    · unfold ab_cw
      rw [ih a b a0 a1 b0 b1, ih pr b hp.1 hp.2 b0 b1]
theorem ab_rdx_cg {R C k : Int} {z w : (Int → Int → Int) × (Int → Int) × Int × Int} (hk : 0 ≤ k ∧ k < C) (hz : 0 ≤ z.2.2.1 ∧ z.2.2.1 ≤ R) (h1 : ab_sm2 z.1 w.1 R C) (h2 : z.2.2 = w.2.2) (h3 : ∀ j, 0 ≤ j → j < k → z.2.1 j = w.2.1 j) : ab_sm2 (ab_rdx R C k z).1 (ab_rdx R C k w).1 R C ∧ (ab_rdx R C k z).2.2 = (ab_rdx R C k w).2.2 ∧ ∀ j, 0 ≤ j → j < k + 1 → (ab_rdx R C k z).2.1 j = (ab_rdx R C k w).2.1 j := by
  obtain ⟨M, g, F, P⟩ := z
  obtain ⟨N, g', F', P'⟩ := w
  simp only [Prod.mk.injEq] at h1 h2 h3 hz
  obtain ⟨rfl, rfl⟩ := h2
  have hpv := ab_pv_r (M := M) (c := k) (R - F).toNat F
  have ep : ab_pv M k F (R - F).toNat = ab_pv N k F (R - F).toNat := ab_pv_cg _ _ (fun i i0 i1 => h1 i k (by omega) (by omega) hk.1 hk.2)
  have hg : ∀ x j, 0 ≤ j → j < k + 1 → ab_ui g k x j = ab_ui g' k x j := by
    intro x j j0 j1
    by_cases e : j = k
    · rw [e, ab_ui_at, ab_ui_at]
    · rw [ab_ui_ne e, ab_ui_ne e]
      exact h3 j j0 (by omega)
  unfold ab_rdx
  simp only [← ep]
  split
  · exact ⟨h1, rfl, hg (-1)⟩
  · split
    · rename_i c1 c2
      have hF : F < R := by omega
      have e : M F k = N F k := h1 F k hz.1 hF hk.1 hk.2
      rw [← e]
      exact ⟨ab_cl_cg ⟨hz.1, hF⟩ hk (ab_mw_cg h1) _ (by omega), rfl, hg F⟩
    · rename_i c1 c2
      have hF : F < R := by omega
      have hs := ab_sw_cg (r := ab_pv M k F (R - F).toNat) (q := F) (by omega) ⟨hz.1, hF⟩ h1
      have e := hs F k hz.1 hF hk.1 hk.2
      rw [← e]
      exact ⟨ab_cl_cg ⟨hz.1, hF⟩ hk (ab_mw_cg hs) _ (by omega), rfl, hg F⟩
theorem ab_rd_cg {R C : Int} {M N : Int → Int → Int} {g g' : Int → Int} (hR : 0 ≤ R ∧ R ≤ 12) (hv : ab_v2 M) (h : ab_sm2 M N R C) : ∀ k : Nat, (k : Int) ≤ C → ab_sm2 (ab_rd R C M g k).1 (ab_rd R C N g' k).1 R C ∧ (ab_rd R C M g k).2.2 = (ab_rd R C N g' k).2.2 ∧ ∀ j, 0 ≤ j → j < (k : Int) → (ab_rd R C M g k).2.1 j = (ab_rd R C N g' k).2.1 j
  | 0, _ => ⟨h, rfl, fun j j0 j1 => absurd j0 (by omega)⟩
  | k + 1, hk => by
    obtain ⟨h1, h2, h3⟩ := ab_rd_cg (g := g) (g' := g') hR hv h k (by omega)
    have ok := ab_rd_ok (C := C) (g := g) hR.1 hR.2 hv k
    exact ab_rdx_cg ⟨by omega, by omega⟩ ⟨ok.2.1, ok.2.2.1⟩ h1 h2 h3
/-! ===== Ladder: rows laid and reduced ===== -/
def ab_gb (G M : Int → Int → Int) (C i k : Int) : Int → Int → Int := fun r c => if (0 ≤ r ∧ r < i ∧ 0 ≤ c ∧ c < C) ∨ (r = i ∧ 0 ≤ c ∧ c < k) then G r c else M r c
theorem ab_gb_0 {G M : Int → Int → Int} {C : Int} : ab_gb G M C 0 0 = M := by
  funext r c
  unfold ab_gb
  rw [if_neg (by omega)]
theorem ab_gb_n {G M : Int → Int → Int} {C i : Int} (i0 : 0 ≤ i) : ab_gb G M C i C = ab_gb G M C (i + 1) 0 := by
  funext r c
  unfold ab_gb
  by_cases e : (0 ≤ r ∧ r < i ∧ 0 ≤ c ∧ c < C) ∨ (r = i ∧ 0 ≤ c ∧ c < C)
  · rw [if_pos e, if_pos (by omega)]
  · rw [if_neg e, if_neg (by omega)]
theorem ab_gb_s {G M : Int → Int → Int} {C i k : Int} (k0 : 0 ≤ k) : ab_u2 (ab_gb G M C i k) i k (G i k) = ab_gb G M C i (k + 1) := by
  funext r c
  unfold ab_u2 ab_gb
  by_cases e : r = i ∧ c = k
  · rw [if_pos e, e.1, e.2, if_pos (Or.inr (by omega))]
  · rw [if_neg e]
    by_cases d : (0 ≤ r ∧ r < i ∧ 0 ≤ c ∧ c < C) ∨ (r = i ∧ 0 ≤ c ∧ c < k)
    · rw [if_pos d, if_pos (by omega)]
    · rw [if_neg d, if_neg (by omega)]
theorem ab_gb_v {G M : Int → Int → Int} {C i k : Int} (hG : ∀ r c, 0 ≤ G r c ∧ G r c ≤ 100) (hM : ab_v2 M) : ab_v2 (ab_gb G M C i k) := by
  intro r c h0 h1 h2 h3
  unfold ab_gb
  split
  · exact hG r c
  · exact hM r c h0 h1 h2 h3
/-- forms, and what lowers, as rows -/
def ab_fm (L : Int → Int) (l : Int) : Int → Int → Int := fun r c => ab_FT L ((ab_START l + r) * 19 + (ab_START l + c))
def ab_lw (L : Int → Int) (l : Int) : Int → Int → Int := fun r c => ab_AT L ((ab_START l + c) * 19 + r)
def ab_fr (L : Int → Int) (l : Int) := ab_rd (ab_wd l) (ab_wd l) (ab_fm L l) (fun _ => 0) (ab_wd l).toNat
def ab_lr (L : Int → Int) (l : Int) := ab_rd (ab_START l) (ab_wd l) (ab_lw L l) (fun _ => 0) (ab_wd l).toNat
section LD8
variable {h : ab_H} {n : Nat} {Q : ab_Q} {u : Int} {L : Int → Int}
def ab_rh (h : ab_H) (R C Fo P : Int) (M : Int → Int → Int) : ab_H := ab_hs (ab_hs h 45 (ab_ia 84 (ab_flt M))) 44 (ab_gr 45 46 R C Fo P)
theorem ab_rh_44 {R C Fo P : Int} {M : Int → Int → Int} : ab_rh h R C Fo P M 44 = some (ab_gr 45 46 R C Fo P) := ab_hs_self
theorem ab_rh_45 {R C Fo P : Int} {M : Int → Int → Int} : ab_rh h R C Fo P M 45 = some (ab_ia 84 (ab_flt M)) := (ab_hs_ne (by decide)).trans ab_hs_self
theorem ab_rh_o {R C Fo P : Int} {M : Int → Int → Int} {a : Nat} (h1 : a ≠ 44) (h2 : a ≠ 45) : ab_rh h R C Fo P M a = h a := (ab_hs_ne h1).trans (ab_hs_ne h2)
theorem ab_rh_u {R C Fo P : Int} {M M' : Int → Int → Int} : ab_hs (ab_rh h R C Fo P M) 45 (ab_ia 84 (ab_flt M')) = ab_rh h R C Fo P M' := by
  unfold ab_rh
  rw [ab_hs_cm (a := 44) (b := 45) (by decide), ab_hs_hs]
/-- the ladder behind a reduction -/
theorem ab_lad_gh {R C : Int} {z : (Int → Int → Int) × (Int → Int) × Int × Int} {Fo P : Int} {M : Int → Int → Int} (hz : ab_v2 z.1) (hl : ab_lad h L u) : ab_lad (ab_gh (ab_rh h R C Fo P M) 44 45 46 R C z) L u := by
  obtain ⟨B, A, F, Mv, top, ⟨k1, k2, k3, k4, k5, k6, k7, k8⟩, hgr, hrest⟩ := hl
  have fr : ∀ x, x ≠ 44 → x ≠ 45 → x ≠ 46 → ab_gh (ab_rh h R C Fo P M) 44 45 46 R C z x = h x := fun x x1 x2 x3 => (ab_hs_ne x1).trans ((ab_hs_ne x2).trans ((ab_hs_ne x3).trans (ab_rh_o x1 x2)))
  obtain ⟨d1, d2, d3, d4, d5, d6⟩ := k2
  obtain ⟨z1, z2, z3, z4⟩ := z
  exact ⟨B, A, F, Mv, top, ⟨(fr 33 (by decide) (by decide) (by decide)).trans k1, ⟨(fr 34 (by decide) (by decide) (by decide)).trans d1, (fr 35 (by decide) (by decide) (by decide)).trans d2, (fr 36 (by decide) (by decide) (by decide)).trans d3, (fr 37 (by decide) (by decide) (by decide)).trans d4, (fr 38 (by decide) (by decide) (by decide)).trans d5, (fr 39 (by decide) (by decide) (by decide)).trans d6⟩, (fr 40 (by decide) (by decide) (by decide)).trans k3, (fr 41 (by decide) (by decide) (by decide)).trans k4, (fr 42 (by decide) (by decide) (by decide)).trans k5, (fr 43 (by decide) (by decide) (by decide)).trans k6, k7, k8⟩, ⟨z1, z2, R, C, z3, z4, ab_gh_a, ab_gh_b (by decide), ab_gh_p (by decide) (by decide), hz⟩, hrest⟩
theorem sp_reducedForms {l : Int} (hs : ab_stat h) (hl : ab_lad h L u) (hl0 : 0 ≤ l ∧ l ≤ u) (hu : u ≤ 5)
    (q : ∀ h', ab_eqo 44 46 h h' → ab_lad h' L u → h' 44 = some (ab_gr 45 46 (ab_wd l) (ab_wd l) (ab_fr L l).2.2.1 (ab_fr L l).2.2.2) → Q (some (vr 44)) h' n) : ab_G 28 0 [some (vr 33), some (vi l), none, none, none, none] [] h n (0, 0) Q := by
  have hl' := hl
  obtain ⟨B, A, F, Mv, top, ⟨k1, k2, k3, k4, k5, k6, k7, k8⟩, ⟨M, g, R, C, Fo, P, g1, g2, g3, g4⟩, hbt, hrest⟩ := hl'
  have hF' : ∀ j, 0 ≤ j → j < 361 → ab_inR (F j) := fun j k0 k1 => by have := k8 j k0 k1; omega
  have hw := ab_wd_eq hl0.1 (by omega)
  have p7 : l < ((7 : Nat) : Int) := by omega
  have p8 : l + 1 < ((7 : Nat) : Int) := by omega
  have p9 : 0 ≤ l + 1 := by omega
  have p0 := hl0.1
  have e1 : ab_START l + ab_wd l - ab_START l = ab_wd l := by omega
  have HS : ∀ M', ab_stat (ab_rh h (ab_wd l) (ab_wd l) Fo P M') := fun M' => ab_stat_hs (by decide) (ab_stat_hs (by decide) hs)
  have H33 : ∀ M', ab_rh h (ab_wd l) (ab_wd l) Fo P M' 33 = some (ab_ld 34 40 41 42 43 44 top) := fun M' => (ab_rh_o (by decide) (by decide)).trans k1
  have H42 : ∀ M', ab_rh h (ab_wd l) (ab_wd l) Fo P M' 42 = some (ab_ia 361 F) := fun M' => (ab_rh_o (by decide) (by decide)).trans k5
  simp only [s28_0, s28_3, s28_4, s28_5, s28_6, s28_9, s28_10, s28_11, s28_12, s28_13, s28_14, s28_15, s28_16, s28_17, s28_20, s28_21, s28_22, true_and, and_true, true_implies, Option.toList_some, Option.toList_none, List.nil_append, List.cons_append, List.map_nil, List.map_cons, List.sum_nil, List.sum_cons, Nat.zero_le, ab_nl_n, ab_nl_i, ab_nl_r, ab_nl_0, ab_cat_i, ab_cat_r, ab_cat_l, Nat.reduceAdd, Nat.reduceLeDiff, Nat.add_zero, Nat.zero_add, reduceIte, List.getElem?_cons_succ, List.getElem?_cons_zero, List.length_cons, List.length_nil, List.set_cons_zero, List.set_cons_succ, true_or, or_true, Classical.not_not, not_true_eq_false, not_false_eq_true, ab_01r, ab_01z, ab_01n, false_implies, ab_tt, Nat.reduceLT, Nat.reduceEqDiff, Int.reduceNeg, Int.reduceLT, Int.reduceLE, Int.add_zero, Int.zero_add, List.append_nil, Int.reduceEq, ab_sum1, ab_ri_0, ab_ri_1, ab_ri_2, ab_ri_3, ab_ri_4, ab_ri_5, ab_ri_6, ab_ri_7, ab_ri_8, ab_ri_12, ab_ri_30, ab_ri_60, ab_ri_100, ab_ri_101, ab_ri_127, ab_ri_m1, ab_ri_m2, ab_ri_m3, ab_ri_m4, ab_ri_m5, ab_ri_m11, ab_ri_m13, ab_ri_m14, ab_ri_10, ab_fd, ab_ai, ab_vc, ab_sv_3_120, ab_sv_3_106, ab_sv_3_124, ab_sv_3_127, hs.1, k1, g1, p0, p7, p8, p9, hw.1, e1, Nat.reduceLeDiff]
  refine sp_resize (by decide) g1 ?_
  simp only [s28_25, s28_26, true_and, and_true, true_implies, Option.toList_some, Option.toList_none, List.nil_append, List.cons_append, List.map_nil, List.map_cons, List.sum_nil, List.sum_cons, Nat.zero_le, ab_nl_n, ab_nl_i, ab_nl_r, ab_nl_0, ab_cat_i, ab_cat_r, ab_cat_l, Nat.reduceAdd, Nat.reduceLeDiff, Nat.add_zero, Nat.zero_add, reduceIte, List.getElem?_cons_succ, List.getElem?_cons_zero, List.length_cons, List.length_nil, List.set_cons_zero, List.set_cons_succ, true_or, or_true, Classical.not_not, not_true_eq_false, not_false_eq_true, ab_01r, ab_01z, ab_01n, false_implies, ab_tt, Nat.reduceLT, Nat.reduceEqDiff, Int.reduceNeg, Int.reduceLT, Int.reduceLE, Int.add_zero, Int.zero_add, List.append_nil, Int.reduceEq, ab_sum1, ab_ri_0, ab_ri_1, ab_ri_2, ab_ri_3, ab_ri_4, ab_ri_5, ab_ri_6, ab_ri_7, ab_ri_8, ab_ri_12, ab_ri_30, ab_ri_60, ab_ri_100, ab_ri_101, ab_ri_127, ab_ri_m1, ab_ri_m2, ab_ri_m3, ab_ri_m4, ab_ri_m5, ab_ri_m11, ab_ri_m13, ab_ri_m14, ab_ri_10]
  have key := ab_dn (P := fun i => ∀ l5 : Option ab_V, ab_nl [l5] = true → ab_G 28 28 [some (vr 33), some (vi l), some (vi (ab_START l)), some (vi (ab_wd l)), some (vi i), l5] [] (ab_rh h (ab_wd l) (ab_wd l) Fo P (ab_gb (ab_fm L l) M (ab_wd l) i 0)) n (0, 0) Q) (a := 0) (e := ab_wd l) (by omega) ?_ ?_
  · have := key none rfl
    rw [ab_gb_0] at this
    unfold ab_rh at this
    rw [ab_hs_id g2] at this
    exact this
  · intro l5 z5
    have hv := ab_gb_v (G := ab_fm L l) (M := M) (C := ab_wd l) (i := ab_wd l) (k := 0) (fun r c => ab_FT_r _) g4
    have cg := ab_rd_cg (R := ab_wd l) (C := ab_wd l) (N := ab_fm L l) (g := g) (g' := fun _ => 0) ⟨by omega, by omega⟩ hv (by
      intro r c r0 r1 c0 c1
      unfold ab_gb
      rw [if_pos (Or.inl ⟨r0, r1, c0, c1⟩)]) (ab_wd l).toNat (by omega)
    have ok := ab_rd_ok (R := ab_wd l) (C := ab_wd l) (g := g) (by omega) (by omega) hv (ab_wd l).toNat
    rw [s28_28]
    simp only [s28_30, s28_31, s28_78, s28_79, s28_82, true_and, and_true, true_implies, Option.toList_some, Option.toList_none, List.nil_append, List.cons_append, List.map_nil, List.map_cons, List.sum_nil, List.sum_cons, Nat.zero_le, ab_nl_n, ab_nl_i, ab_nl_r, ab_nl_0, ab_cat_i, ab_cat_r, ab_cat_l, Nat.reduceAdd, Nat.reduceLeDiff, Nat.add_zero, Nat.zero_add, reduceIte, List.getElem?_cons_succ, List.getElem?_cons_zero, List.length_cons, List.length_nil, List.set_cons_zero, List.set_cons_succ, true_or, or_true, Classical.not_not, not_true_eq_false, not_false_eq_true, ab_01r, ab_01z, ab_01n, false_implies, ab_tt, Nat.reduceLT, Nat.reduceEqDiff, Int.reduceNeg, Int.reduceLT, Int.reduceLE, Int.add_zero, Int.zero_add, List.append_nil, Int.reduceEq, ab_sum1, ab_ri_0, ab_ri_1, ab_ri_2, ab_ri_3, ab_ri_4, ab_ri_5, ab_ri_6, ab_ri_7, ab_ri_8, ab_ri_12, ab_ri_30, ab_ri_60, ab_ri_100, ab_ri_101, ab_ri_127, ab_ri_m1, ab_ri_m2, ab_ri_m3, ab_ri_m4, ab_ri_m5, ab_ri_m11, ab_ri_m13, ab_ri_m14, ab_ri_10, ab_fd, ab_vc, ab_sv_3_120, ab_sv_3_106, ab_sv_3_124, ab_sv_3_127, H33, ab_rh_44, Int.le_refl, Int.lt_irrefl, z5, Nat.reduceLeDiff]
    (repeat refine And.intro (by omega) ?_)
    refine sp_reduce (by decide) (by decide) (by decide) (by decide) (by decide) (by decide) ab_rh_44 ab_rh_45 ((ab_rh_o (by decide) (by decide)).trans g3) hv ⟨by omega, by omega⟩ ⟨by omega, by omega⟩ ?_
    have fr : ∀ (z : (Int → Int → Int) × (Int → Int) × Int × Int) x, x ≠ 44 → x ≠ 45 → x ≠ 46 → ab_gh (ab_rh h (ab_wd l) (ab_wd l) Fo P (ab_gb (ab_fm L l) M (ab_wd l) (ab_wd l) 0)) 44 45 46 (ab_wd l) (ab_wd l) z x = h x := fun z x x1 x2 x3 => (ab_hs_ne x1).trans ((ab_hs_ne x2).trans ((ab_hs_ne x3).trans (ab_rh_o x1 x2)))
    have q := q (ab_gh (ab_rh h (ab_wd l) (ab_wd l) Fo P (ab_gb (ab_fm L l) M (ab_wd l) (ab_wd l) 0)) 44 45 46 (ab_wd l) (ab_wd l) (ab_rd (ab_wd l) (ab_wd l) (ab_gb (ab_fm L l) M (ab_wd l) (ab_wd l) 0) g (ab_wd l).toNat)) (fun x hx => fr _ x (by omega) (by omega) (by omega)) (ab_lad_gh ok.1 hl) (by
      unfold ab_fr
      rw [← cg.2.1]
      exact ab_hs_self)
    have f33 := (fr (ab_rd (ab_wd l) (ab_wd l) (ab_gb (ab_fm L l) M (ab_wd l) (ab_wd l) 0) g (ab_wd l).toNat) 33 (by decide) (by decide) (by decide)).trans k1
    simp only [s28_85, s28_86, s28_89, true_and, and_true, true_implies, Option.toList_some, Option.toList_none, List.nil_append, List.cons_append, List.map_nil, List.map_cons, List.sum_nil, List.sum_cons, Nat.zero_le, ab_nl_n, ab_nl_i, ab_nl_r, ab_nl_0, ab_cat_i, ab_cat_r, ab_cat_l, Nat.reduceAdd, Nat.reduceLeDiff, Nat.add_zero, Nat.zero_add, reduceIte, List.getElem?_cons_succ, List.getElem?_cons_zero, List.length_cons, List.length_nil, List.set_cons_zero, List.set_cons_succ, true_or, or_true, Classical.not_not, not_true_eq_false, not_false_eq_true, ab_01r, ab_01z, ab_01n, false_implies, ab_tt, Nat.reduceLT, Nat.reduceEqDiff, Int.reduceNeg, Int.reduceLT, Int.reduceLE, Int.add_zero, Int.zero_add, List.append_nil, Int.reduceEq, ab_sum1, ab_ri_0, ab_ri_1, ab_ri_2, ab_ri_3, ab_ri_4, ab_ri_5, ab_ri_6, ab_ri_7, ab_ri_8, ab_ri_12, ab_ri_30, ab_ri_60, ab_ri_100, ab_ri_101, ab_ri_127, ab_ri_m1, ab_ri_m2, ab_ri_m3, ab_ri_m4, ab_ri_m5, ab_ri_m11, ab_ri_m13, ab_ri_m14, ab_ri_10, ab_fd, f33, q, Nat.reduceLeDiff]
  · intro i i0 i9 ih l5 z5
    have ni : ¬ ab_wd l ≤ i := by omega
    rw [s28_28]
    simp only [s28_30, s28_31, s28_34, s28_35, true_and, and_true, true_implies, Option.toList_some, Option.toList_none, List.nil_append, List.cons_append, List.map_nil, List.map_cons, List.sum_nil, List.sum_cons, Nat.zero_le, ab_nl_n, ab_nl_i, ab_nl_r, ab_nl_0, ab_cat_i, ab_cat_r, ab_cat_l, Nat.reduceAdd, Nat.reduceLeDiff, Nat.add_zero, Nat.zero_add, reduceIte, List.getElem?_cons_succ, List.getElem?_cons_zero, List.length_cons, List.length_nil, List.set_cons_zero, List.set_cons_succ, true_or, or_true, Classical.not_not, not_true_eq_false, not_false_eq_true, ab_01r, ab_01z, ab_01n, false_implies, ab_tt, Nat.reduceLT, Nat.reduceEqDiff, Int.reduceNeg, Int.reduceLT, Int.reduceLE, Int.add_zero, Int.zero_add, List.append_nil, Int.reduceEq, ab_sum1, ab_ri_0, ab_ri_1, ab_ri_2, ab_ri_3, ab_ri_4, ab_ri_5, ab_ri_6, ab_ri_7, ab_ri_8, ab_ri_12, ab_ri_30, ab_ri_60, ab_ri_100, ab_ri_101, ab_ri_127, ab_ri_m1, ab_ri_m2, ab_ri_m3, ab_ri_m4, ab_ri_m5, ab_ri_m11, ab_ri_m13, ab_ri_m14, ab_ri_10, ni, z5]
    (repeat refine And.intro (by omega) ?_)
    refine ab_lp 0 (ab_wd l) (fun j => [some (vr 33), some (vi l), some (vi (ab_START l)), some (vi (ab_wd l)), some (vi i), some (vi j)]) (fun j => ab_rh h (ab_wd l) (ab_wd l) Fo P (ab_gb (ab_fm L l) M (ab_wd l) i j)) (by omega) rfl rfl ?_ ?_
    · have ih := ih (some (vi (ab_wd l))) rfl
      rw [← ab_gb_n i0] at ih
      rw [s28_37]
      simp only [s28_39, s28_40, s28_72, s28_75, true_and, and_true, true_implies, Option.toList_some, Option.toList_none, List.nil_append, List.cons_append, List.map_nil, List.map_cons, List.sum_nil, List.sum_cons, Nat.zero_le, ab_nl_n, ab_nl_i, ab_nl_r, ab_nl_0, ab_cat_i, ab_cat_r, ab_cat_l, Nat.reduceAdd, Nat.reduceLeDiff, Nat.add_zero, Nat.zero_add, reduceIte, List.getElem?_cons_succ, List.getElem?_cons_zero, List.length_cons, List.length_nil, List.set_cons_zero, List.set_cons_succ, true_or, or_true, Classical.not_not, not_true_eq_false, not_false_eq_true, ab_01r, ab_01z, ab_01n, false_implies, ab_tt, Nat.reduceLT, Nat.reduceEqDiff, Int.reduceNeg, Int.reduceLT, Int.reduceLE, Int.add_zero, Int.zero_add, List.append_nil, Int.reduceEq, ab_sum1, ab_ri_0, ab_ri_1, ab_ri_2, ab_ri_3, ab_ri_4, ab_ri_5, ab_ri_6, ab_ri_7, ab_ri_8, ab_ri_12, ab_ri_30, ab_ri_60, ab_ri_100, ab_ri_101, ab_ri_127, ab_ri_m1, ab_ri_m2, ab_ri_m3, ab_ri_m4, ab_ri_m5, ab_ri_m11, ab_ri_m13, ab_ri_m14, ab_ri_10, Int.le_refl, Int.lt_irrefl, ih] <;> omega
    · intro j j0 j9 jh
      have nj : ¬ ab_wd l ≤ j := by omega
      have li := ab_lv_at p0 (by omega) i0 i9
      have lj := ab_lv_at p0 (by omega) j0 j9
      have ev : F ((ab_START l + i) * 19 + (ab_START l + j)) = ab_fm L l i j := hbt.2 _ _ ⟨by omega, by omega⟩ ⟨by omega, by omega⟩ (by omega) (by omega)
      rw [s28_37]
      simp only [s28_39, s28_40, s28_43, s28_44, s28_47, s28_49, s28_51, s28_52, s28_53, s28_55, s28_56, s28_57, s28_59, s28_60, s28_63, true_and, and_true, true_implies, Option.toList_some, Option.toList_none, List.nil_append, List.cons_append, List.map_nil, List.map_cons, List.sum_nil, List.sum_cons, Nat.zero_le, ab_nl_n, ab_nl_i, ab_nl_r, ab_nl_0, ab_cat_i, ab_cat_r, ab_cat_l, Nat.reduceAdd, Nat.reduceLeDiff, Nat.add_zero, Nat.zero_add, reduceIte, List.getElem?_cons_succ, List.getElem?_cons_zero, List.length_cons, List.length_nil, List.set_cons_zero, List.set_cons_succ, true_or, or_true, Classical.not_not, not_true_eq_false, not_false_eq_true, ab_01r, ab_01z, ab_01n, false_implies, ab_tt, Nat.reduceLT, Nat.reduceEqDiff, Int.reduceNeg, Int.reduceLT, Int.reduceLE, Int.add_zero, Int.zero_add, List.append_nil, Int.reduceEq, ab_sum1, ab_ri_0, ab_ri_1, ab_ri_2, ab_ri_3, ab_ri_4, ab_ri_5, ab_ri_6, ab_ri_7, ab_ri_8, ab_ri_12, ab_ri_30, ab_ri_60, ab_ri_100, ab_ri_101, ab_ri_127, ab_ri_m1, ab_ri_m2, ab_ri_m3, ab_ri_m4, ab_ri_m5, ab_ri_m11, ab_ri_m13, ab_ri_m14, ab_ri_10, ab_fd, ab_vc, ab_sv_3_120, ab_sv_3_106, ab_sv_3_124, ab_sv_3_127, H33, ab_rh_44, nj, sp_formed (by decide) (by decide) (H33 _) (H42 _) (show 0 ≤ ab_START l + i ∧ ab_START l + i < 19 by omega) (show 0 ≤ ab_START l + j ∧ ab_START l + j < 19 by omega) hF', ev, Nat.reduceLeDiff]
      (repeat refine And.intro (by omega) ?_)
      refine sp_store (by decide) (by decide) ab_rh_44 ab_rh_45 ⟨by omega, by omega⟩ ⟨by omega, by omega⟩ ?_
      rw [ab_rh_u, ab_gb_s j0]
      simp only [s28_66, s28_69, true_and, and_true, true_implies, Option.toList_some, Option.toList_none, List.nil_append, List.cons_append, List.map_nil, List.map_cons, List.sum_nil, List.sum_cons, Nat.zero_le, ab_nl_n, ab_nl_i, ab_nl_r, ab_nl_0, ab_cat_i, ab_cat_r, ab_cat_l, Nat.reduceAdd, Nat.reduceLeDiff, Nat.add_zero, Nat.zero_add, reduceIte, List.getElem?_cons_succ, List.getElem?_cons_zero, List.length_cons, List.length_nil, List.set_cons_zero, List.set_cons_succ, true_or, or_true, Classical.not_not, not_true_eq_false, not_false_eq_true, ab_01r, ab_01z, ab_01n, false_implies, ab_tt, Nat.reduceLT, Nat.reduceEqDiff, Int.reduceNeg, Int.reduceLT, Int.reduceLE, Int.add_zero, Int.zero_add, List.append_nil, Int.reduceEq, ab_sum1, ab_ri_0, ab_ri_1, ab_ri_2, ab_ri_3, ab_ri_4, ab_ri_5, ab_ri_6, ab_ri_7, ab_ri_8, ab_ri_12, ab_ri_30, ab_ri_60, ab_ri_100, ab_ri_101, ab_ri_127, ab_ri_m1, ab_ri_m2, ab_ri_m3, ab_ri_m4, ab_ri_m5, ab_ri_m11, ab_ri_m13, ab_ri_m14, ab_ri_10, jh]
theorem sp_reducedLowerings {l : Int} (hs : ab_stat h) (hl : ab_lad h L u) (hl0 : 0 ≤ l ∧ l ≤ u) (hu : u ≤ 5)
    (q : ∀ h' N g, ab_eqo 44 46 h h' → ab_lad h' L u → ab_v2 N → ab_sm2 N (ab_lr L l).1 (ab_START l) (ab_wd l) → (∀ j, 0 ≤ j → j < ab_wd l → g j = (ab_lr L l).2.1 j) → ab_gst h' N g (ab_START l) (ab_wd l) (ab_lr L l).2.2.1 (ab_lr L l).2.2.2 → Q (some (vr 44)) h' n) : ab_G 29 0 [some (vr 33), some (vi l), none, none, none, none] [] h n (0, 0) Q := by
  have hl' := hl
  obtain ⟨B, A, F, Mv, top, ⟨k1, k2, k3, k4, k5, k6, k7, k8⟩, ⟨M, g, R, C, Fo, P, g1, g2, g3, g4⟩, hbt, hrest⟩ := hl'
  have hA' : ∀ j, 0 ≤ j → j < 361 → ab_inR (A j) := fun j k0 k1 => by have := k7 j k0 k1; omega
  have hw := ab_wd_eq hl0.1 (by omega)
  have hst12 : ab_START l ≤ 12 := ab_tb_all (P := fun l => ab_START l ≤ 12) (m := 6) (by decide) hl0.1 (by omega)
  have p7 : l < ((7 : Nat) : Int) := by omega
  have p8 : l + 1 < ((7 : Nat) : Int) := by omega
  have p9 : 0 ≤ l + 1 := by omega
  have p0 := hl0.1
  have e1 : ab_START l + ab_wd l - ab_START l = ab_wd l := by omega
  have H33 : ∀ M', ab_rh h (ab_START l) (ab_wd l) Fo P M' 33 = some (ab_ld 34 40 41 42 43 44 top) := fun M' => (ab_rh_o (by decide) (by decide)).trans k1
  have H41 : ∀ M', ab_rh h (ab_START l) (ab_wd l) Fo P M' 41 = some (ab_ia 361 A) := fun M' => (ab_rh_o (by decide) (by decide)).trans k4
  simp only [s29_0, s29_3, s29_4, s29_5, s29_6, s29_9, s29_10, s29_11, s29_12, s29_13, s29_14, s29_15, s29_16, s29_17, s29_20, s29_21, s29_22, true_and, and_true, true_implies, Option.toList_some, Option.toList_none, List.nil_append, List.cons_append, List.map_nil, List.map_cons, List.sum_nil, List.sum_cons, Nat.zero_le, ab_nl_n, ab_nl_i, ab_nl_r, ab_nl_0, ab_cat_i, ab_cat_r, ab_cat_l, Nat.reduceAdd, Nat.reduceLeDiff, Nat.add_zero, Nat.zero_add, reduceIte, List.getElem?_cons_succ, List.getElem?_cons_zero, List.length_cons, List.length_nil, List.set_cons_zero, List.set_cons_succ, true_or, or_true, Classical.not_not, not_true_eq_false, not_false_eq_true, ab_01r, ab_01z, ab_01n, false_implies, ab_tt, Nat.reduceLT, Nat.reduceEqDiff, Int.reduceNeg, Int.reduceLT, Int.reduceLE, Int.add_zero, Int.zero_add, List.append_nil, Int.reduceEq, ab_sum1, ab_ri_0, ab_ri_1, ab_ri_2, ab_ri_3, ab_ri_4, ab_ri_5, ab_ri_6, ab_ri_7, ab_ri_8, ab_ri_12, ab_ri_30, ab_ri_60, ab_ri_100, ab_ri_101, ab_ri_127, ab_ri_m1, ab_ri_m2, ab_ri_m3, ab_ri_m4, ab_ri_m5, ab_ri_m11, ab_ri_m13, ab_ri_m14, ab_ri_10, ab_fd, ab_ai, ab_vc, ab_sv_3_120, ab_sv_3_96, ab_sv_3_124, ab_sv_3_127, hs.1, k1, g1, p0, p7, p8, p9, hw.1, e1, Nat.reduceLeDiff]
  refine sp_resize (by decide) g1 ?_
  simp only [s29_25, s29_26, true_and, and_true, true_implies, Option.toList_some, Option.toList_none, List.nil_append, List.cons_append, List.map_nil, List.map_cons, List.sum_nil, List.sum_cons, Nat.zero_le, ab_nl_n, ab_nl_i, ab_nl_r, ab_nl_0, ab_cat_i, ab_cat_r, ab_cat_l, Nat.reduceAdd, Nat.reduceLeDiff, Nat.add_zero, Nat.zero_add, reduceIte, List.getElem?_cons_succ, List.getElem?_cons_zero, List.length_cons, List.length_nil, List.set_cons_zero, List.set_cons_succ, true_or, or_true, Classical.not_not, not_true_eq_false, not_false_eq_true, ab_01r, ab_01z, ab_01n, false_implies, ab_tt, Nat.reduceLT, Nat.reduceEqDiff, Int.reduceNeg, Int.reduceLT, Int.reduceLE, Int.add_zero, Int.zero_add, List.append_nil, Int.reduceEq, ab_sum1, ab_ri_0, ab_ri_1, ab_ri_2, ab_ri_3, ab_ri_4, ab_ri_5, ab_ri_6, ab_ri_7, ab_ri_8, ab_ri_12, ab_ri_30, ab_ri_60, ab_ri_100, ab_ri_101, ab_ri_127, ab_ri_m1, ab_ri_m2, ab_ri_m3, ab_ri_m4, ab_ri_m5, ab_ri_m11, ab_ri_m13, ab_ri_m14, ab_ri_10]
  have key := ab_dn (P := fun i => ∀ l5 : Option ab_V, ab_nl [l5] = true → ab_G 29 28 [some (vr 33), some (vi l), some (vi (ab_START l)), some (vi (ab_wd l)), some (vi i), l5] [] (ab_rh h (ab_START l) (ab_wd l) Fo P (ab_gb (ab_lw L l) M (ab_wd l) i 0)) n (0, 0) Q) (a := 0) (e := ab_START l) (by omega) ?_ ?_
  · have := key none rfl
    rw [ab_gb_0] at this
    unfold ab_rh at this
    rw [ab_hs_id g2] at this
    exact this
  · intro l5 z5
    have hL : ∀ r c, 0 ≤ r → r < 12 → 0 ≤ c → c < 7 → True := fun _ _ _ _ _ _ => trivial
    have hv : ab_v2 (ab_gb (ab_lw L l) M (ab_wd l) (ab_START l) 0) := by
      intro r c r0 r1 c0 c1
      unfold ab_gb
      split
      · rename_i z
        have lc := ab_lv_at p0 (by omega) (i := c) (by omega) (by omega)
        have lr := ab_lv_r (b := r) ⟨by omega, by omega⟩
        have lt : ab_LV r ≤ u := by
          have := ab_tb_all (P := fun l => ∀ k : Fin 19, (k.val : Int) < ab_START l → ab_LV k.val ≤ l) (m := 6) (by decide +kernel) p0 (by omega) ⟨r.toNat, by omega⟩
          simp only [Int.toNat_of_nonneg r0] at this
          have := this (by omega)
          omega
        have e := hbt.1 (ab_START l + c) r ⟨by omega, by omega⟩ ⟨by omega, by omega⟩ (by omega) lt
        unfold ab_lw
        rw [← e]
        exact k7 _ (by omega) (by omega)
      · exact g4 r c r0 r1 c0 c1
    have cg := ab_rd_cg (R := ab_START l) (C := ab_wd l) (N := ab_lw L l) (g := g) (g' := fun _ => 0) ⟨by omega, by omega⟩ hv (by
      intro r c r0 r1 c0 c1
      unfold ab_gb
      rw [if_pos (Or.inl ⟨r0, r1, c0, c1⟩)]) (ab_wd l).toNat (by omega)
    have ok := ab_rd_ok (R := ab_START l) (C := ab_wd l) (g := g) (by omega) (by omega) hv (ab_wd l).toNat
    rw [s29_28]
    simp only [s29_30, s29_31, s29_76, s29_77, s29_80, true_and, and_true, true_implies, Option.toList_some, Option.toList_none, List.nil_append, List.cons_append, List.map_nil, List.map_cons, List.sum_nil, List.sum_cons, Nat.zero_le, ab_nl_n, ab_nl_i, ab_nl_r, ab_nl_0, ab_cat_i, ab_cat_r, ab_cat_l, Nat.reduceAdd, Nat.reduceLeDiff, Nat.add_zero, Nat.zero_add, reduceIte, List.getElem?_cons_succ, List.getElem?_cons_zero, List.length_cons, List.length_nil, List.set_cons_zero, List.set_cons_succ, true_or, or_true, Classical.not_not, not_true_eq_false, not_false_eq_true, ab_01r, ab_01z, ab_01n, false_implies, ab_tt, Nat.reduceLT, Nat.reduceEqDiff, Int.reduceNeg, Int.reduceLT, Int.reduceLE, Int.add_zero, Int.zero_add, List.append_nil, Int.reduceEq, ab_sum1, ab_ri_0, ab_ri_1, ab_ri_2, ab_ri_3, ab_ri_4, ab_ri_5, ab_ri_6, ab_ri_7, ab_ri_8, ab_ri_12, ab_ri_30, ab_ri_60, ab_ri_100, ab_ri_101, ab_ri_127, ab_ri_m1, ab_ri_m2, ab_ri_m3, ab_ri_m4, ab_ri_m5, ab_ri_m11, ab_ri_m13, ab_ri_m14, ab_ri_10, ab_fd, ab_vc, ab_sv_3_120, ab_sv_3_96, ab_sv_3_124, ab_sv_3_127, H33, ab_rh_44, Int.le_refl, Int.lt_irrefl, z5, Nat.reduceLeDiff]
    (repeat refine And.intro (by omega) ?_)
    refine sp_reduce (by decide) (by decide) (by decide) (by decide) (by decide) (by decide) ab_rh_44 ab_rh_45 ((ab_rh_o (by decide) (by decide)).trans g3) hv ⟨by omega, by omega⟩ ⟨by omega, by omega⟩ ?_
    have fr : ∀ (z : (Int → Int → Int) × (Int → Int) × Int × Int) x, x ≠ 44 → x ≠ 45 → x ≠ 46 → ab_gh (ab_rh h (ab_START l) (ab_wd l) Fo P (ab_gb (ab_lw L l) M (ab_wd l) (ab_START l) 0)) 44 45 46 (ab_START l) (ab_wd l) z x = h x := fun z x x1 x2 x3 => (ab_hs_ne x1).trans ((ab_hs_ne x2).trans ((ab_hs_ne x3).trans (ab_rh_o x1 x2)))
    have f33 := (fr (ab_rd (ab_START l) (ab_wd l) (ab_gb (ab_lw L l) M (ab_wd l) (ab_START l) 0) g (ab_wd l).toNat) 33 (by decide) (by decide) (by decide)).trans k1
    obtain ⟨c1, c2, c3⟩ := cg
    have hg := ab_lad_gh (R := ab_START l) (C := ab_wd l) (Fo := Fo) (P := P) (M := ab_gb (ab_lw L l) M (ab_wd l) (ab_START l) 0) ok.1 hl
    have fr := fr (ab_rd (ab_START l) (ab_wd l) (ab_gb (ab_lw L l) M (ab_wd l) (ab_START l) 0) g (ab_wd l).toNat)
    unfold ab_lr at q
    rw [← c2] at q
    revert f33 c1 c2 c3 hg fr ok q
    generalize ab_rd (ab_START l) (ab_wd l) (ab_gb (ab_lw L l) M (ab_wd l) (ab_START l) 0) g (ab_wd l).toNat = z
    obtain ⟨N, g', F', P'⟩ := z
    intro q ok f33 c1 c2 c3 hg fr
    have q := q _ N g' (fun x hx => fr x (by omega) (by omega) (by omega)) hg ok.1 c1 (fun j j0 j1 => c3 j j0 (by omega)) ⟨ab_gh_a, ab_gh_b (by decide), ab_gh_p (by decide) (by decide), ok.1⟩
    simp only [s29_83, s29_84, s29_87, true_and, and_true, true_implies, Option.toList_some, Option.toList_none, List.nil_append, List.cons_append, List.map_nil, List.map_cons, List.sum_nil, List.sum_cons, Nat.zero_le, ab_nl_n, ab_nl_i, ab_nl_r, ab_nl_0, ab_cat_i, ab_cat_r, ab_cat_l, Nat.reduceAdd, Nat.reduceLeDiff, Nat.add_zero, Nat.zero_add, reduceIte, List.getElem?_cons_succ, List.getElem?_cons_zero, List.length_cons, List.length_nil, List.set_cons_zero, List.set_cons_succ, true_or, or_true, Classical.not_not, not_true_eq_false, not_false_eq_true, ab_01r, ab_01z, ab_01n, false_implies, ab_tt, Nat.reduceLT, Nat.reduceEqDiff, Int.reduceNeg, Int.reduceLT, Int.reduceLE, Int.add_zero, Int.zero_add, List.append_nil, Int.reduceEq, ab_sum1, ab_ri_0, ab_ri_1, ab_ri_2, ab_ri_3, ab_ri_4, ab_ri_5, ab_ri_6, ab_ri_7, ab_ri_8, ab_ri_12, ab_ri_30, ab_ri_60, ab_ri_100, ab_ri_101, ab_ri_127, ab_ri_m1, ab_ri_m2, ab_ri_m3, ab_ri_m4, ab_ri_m5, ab_ri_m11, ab_ri_m13, ab_ri_m14, ab_ri_10, ab_fd, f33, q, Nat.reduceLeDiff]
  · intro i i0 i9 ih l5 z5
    have ni : ¬ ab_START l ≤ i := by omega
    rw [s29_28]
    simp only [s29_30, s29_31, s29_34, s29_35, true_and, and_true, true_implies, Option.toList_some, Option.toList_none, List.nil_append, List.cons_append, List.map_nil, List.map_cons, List.sum_nil, List.sum_cons, Nat.zero_le, ab_nl_n, ab_nl_i, ab_nl_r, ab_nl_0, ab_cat_i, ab_cat_r, ab_cat_l, Nat.reduceAdd, Nat.reduceLeDiff, Nat.add_zero, Nat.zero_add, reduceIte, List.getElem?_cons_succ, List.getElem?_cons_zero, List.length_cons, List.length_nil, List.set_cons_zero, List.set_cons_succ, true_or, or_true, Classical.not_not, not_true_eq_false, not_false_eq_true, ab_01r, ab_01z, ab_01n, false_implies, ab_tt, Nat.reduceLT, Nat.reduceEqDiff, Int.reduceNeg, Int.reduceLT, Int.reduceLE, Int.add_zero, Int.zero_add, List.append_nil, Int.reduceEq, ab_sum1, ab_ri_0, ab_ri_1, ab_ri_2, ab_ri_3, ab_ri_4, ab_ri_5, ab_ri_6, ab_ri_7, ab_ri_8, ab_ri_12, ab_ri_30, ab_ri_60, ab_ri_100, ab_ri_101, ab_ri_127, ab_ri_m1, ab_ri_m2, ab_ri_m3, ab_ri_m4, ab_ri_m5, ab_ri_m11, ab_ri_m13, ab_ri_m14, ab_ri_10, ni, z5]
    (repeat refine And.intro (by omega) ?_)
    refine ab_lp 0 (ab_wd l) (fun j => [some (vr 33), some (vi l), some (vi (ab_START l)), some (vi (ab_wd l)), some (vi i), some (vi j)]) (fun j => ab_rh h (ab_START l) (ab_wd l) Fo P (ab_gb (ab_lw L l) M (ab_wd l) i j)) (by omega) rfl rfl ?_ ?_
    · have ih := ih (some (vi (ab_wd l))) rfl
      rw [← ab_gb_n i0] at ih
      rw [s29_37]
      simp only [s29_39, s29_40, s29_70, s29_73, true_and, and_true, true_implies, Option.toList_some, Option.toList_none, List.nil_append, List.cons_append, List.map_nil, List.map_cons, List.sum_nil, List.sum_cons, Nat.zero_le, ab_nl_n, ab_nl_i, ab_nl_r, ab_nl_0, ab_cat_i, ab_cat_r, ab_cat_l, Nat.reduceAdd, Nat.reduceLeDiff, Nat.add_zero, Nat.zero_add, reduceIte, List.getElem?_cons_succ, List.getElem?_cons_zero, List.length_cons, List.length_nil, List.set_cons_zero, List.set_cons_succ, true_or, or_true, Classical.not_not, not_true_eq_false, not_false_eq_true, ab_01r, ab_01z, ab_01n, false_implies, ab_tt, Nat.reduceLT, Nat.reduceEqDiff, Int.reduceNeg, Int.reduceLT, Int.reduceLE, Int.add_zero, Int.zero_add, List.append_nil, Int.reduceEq, ab_sum1, ab_ri_0, ab_ri_1, ab_ri_2, ab_ri_3, ab_ri_4, ab_ri_5, ab_ri_6, ab_ri_7, ab_ri_8, ab_ri_12, ab_ri_30, ab_ri_60, ab_ri_100, ab_ri_101, ab_ri_127, ab_ri_m1, ab_ri_m2, ab_ri_m3, ab_ri_m4, ab_ri_m5, ab_ri_m11, ab_ri_m13, ab_ri_m14, ab_ri_10, Int.le_refl, Int.lt_irrefl, ih] <;> omega
    · intro j j0 j9 jh
      have nj : ¬ ab_wd l ≤ j := by omega
      have lj := ab_lv_at p0 (by omega) j0 j9
      have li : ab_LV i ≤ u := by
        have := ab_tb_all (P := fun l => ∀ k : Fin 19, (k.val : Int) < ab_START l → ab_LV k.val ≤ l) (m := 6) (by decide +kernel) p0 (by omega) ⟨i.toNat, by omega⟩
        simp only [Int.toNat_of_nonneg i0] at this
        have := this i9
        omega
      have ev : A ((ab_START l + j) * 19 + i) = ab_lw L l i j := hbt.1 _ _ ⟨by omega, by omega⟩ ⟨by omega, by omega⟩ (by omega) li
      rw [s29_37]
      simp only [s29_39, s29_40, s29_43, s29_44, s29_47, s29_49, s29_51, s29_52, s29_53, s29_55, s29_56, s29_58, s29_61, true_and, and_true, true_implies, Option.toList_some, Option.toList_none, List.nil_append, List.cons_append, List.map_nil, List.map_cons, List.sum_nil, List.sum_cons, Nat.zero_le, ab_nl_n, ab_nl_i, ab_nl_r, ab_nl_0, ab_cat_i, ab_cat_r, ab_cat_l, Nat.reduceAdd, Nat.reduceLeDiff, Nat.add_zero, Nat.zero_add, reduceIte, List.getElem?_cons_succ, List.getElem?_cons_zero, List.length_cons, List.length_nil, List.set_cons_zero, List.set_cons_succ, true_or, or_true, Classical.not_not, not_true_eq_false, not_false_eq_true, ab_01r, ab_01z, ab_01n, false_implies, ab_tt, Nat.reduceLT, Nat.reduceEqDiff, Int.reduceNeg, Int.reduceLT, Int.reduceLE, Int.add_zero, Int.zero_add, List.append_nil, Int.reduceEq, ab_sum1, ab_ri_0, ab_ri_1, ab_ri_2, ab_ri_3, ab_ri_4, ab_ri_5, ab_ri_6, ab_ri_7, ab_ri_8, ab_ri_12, ab_ri_30, ab_ri_60, ab_ri_100, ab_ri_101, ab_ri_127, ab_ri_m1, ab_ri_m2, ab_ri_m3, ab_ri_m4, ab_ri_m5, ab_ri_m11, ab_ri_m13, ab_ri_m14, ab_ri_10, ab_fd, ab_vc, ab_sv_3_120, ab_sv_3_96, ab_sv_3_124, ab_sv_3_127, H33, ab_rh_44, nj, sp_made (by decide) (by decide) (H33 _) (H41 _) (show 0 ≤ ab_START l + j ∧ ab_START l + j < 19 by omega) (show 0 ≤ i ∧ i < 19 by omega) hA', ev, Nat.reduceLeDiff]
      (repeat refine And.intro (by omega) ?_)
      refine sp_store (by decide) (by decide) ab_rh_44 ab_rh_45 ⟨by omega, by omega⟩ ⟨by omega, by omega⟩ ?_
      rw [ab_rh_u, ab_gb_s j0]
      simp only [s29_64, s29_67, true_and, and_true, true_implies, Option.toList_some, Option.toList_none, List.nil_append, List.cons_append, List.map_nil, List.map_cons, List.sum_nil, List.sum_cons, Nat.zero_le, ab_nl_n, ab_nl_i, ab_nl_r, ab_nl_0, ab_cat_i, ab_cat_r, ab_cat_l, Nat.reduceAdd, Nat.reduceLeDiff, Nat.add_zero, Nat.zero_add, reduceIte, List.getElem?_cons_succ, List.getElem?_cons_zero, List.length_cons, List.length_nil, List.set_cons_zero, List.set_cons_succ, true_or, or_true, Classical.not_not, not_true_eq_false, not_false_eq_true, ab_01r, ab_01z, ab_01n, false_implies, ab_tt, Nat.reduceLT, Nat.reduceEqDiff, Int.reduceNeg, Int.reduceLT, Int.reduceLE, Int.add_zero, Int.zero_add, List.append_nil, Int.reduceEq, ab_sum1, ab_ri_0, ab_ri_1, ab_ri_2, ab_ri_3, ab_ri_4, ab_ri_5, ab_ri_6, ab_ri_7, ab_ri_8, ab_ri_12, ab_ri_30, ab_ri_60, ab_ri_100, ab_ri_101, ab_ri_127, ab_ri_m1, ab_ri_m2, ab_ri_m3, ab_ri_m4, ab_ri_m5, ab_ri_m11, ab_ri_m13, ab_ri_m14, ab_ri_10, jh]
end LD8
