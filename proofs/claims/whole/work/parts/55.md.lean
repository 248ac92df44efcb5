/-! ===== the model: elimination ===== -/
/-- columns beyond C don't matter -/
theorem ab_rdx_C {R C D k : Int} {z w : (Int → Int → Int) × (Int → Int) × Int × Int} (hD : C ≤ D) (hk : 0 ≤ k ∧ k < C) (hz : 0 ≤ z.2.2.1 ∧ z.2.2.1 ≤ R) (h1 : ab_sm2 z.1 w.1 R C) (h2 : z.2.2 = w.2.2) (h3 : ∀ j, 0 ≤ j → j < k → z.2.1 j = w.2.1 j) : ab_sm2 (ab_rdx R D k z).1 (ab_rdx R C k w).1 R C ∧ (ab_rdx R D k z).2.2 = (ab_rdx R C k w).2.2 ∧ ∀ j, 0 ≤ j → j < k + 1 → (ab_rdx R D k z).2.1 j = (ab_rdx R C k w).2.1 j := by
  obtain ⟨M, g, F, P⟩ := z
  obtain ⟨N, g', F', P'⟩ := w
  simp only [Prod.mk.injEq] at h1 h2 h3 hz
  obtain ⟨rfl, rfl⟩ := h2
  have hpv := ab_pv_r (M := M) (c := k) (R - F).toNat F
  have ep : ab_pv M k F (R - F).toNat = ab_pv N k F (R - F).toNat := ab_pv_cg _ _ (fun i i0 i1 => h1 i k (by omega) (by omega) hk.1 hk.2)
  have hg : ∀ x j, 0 ≤ j → j < k + 1 → ab_ui g k x j = ab_ui g' k x j := by
    intro x j j0 j1
    by_cases e : j = k
    · rw [e, ab_ui_at, ab_ui_at]
    · rw [ab_ui_ne e, ab_ui_ne e]
      exact h3 j j0 (by omega)
  have hmw : ∀ {A B : Int → Int → Int} (r y : Int), ab_sm2 A B R C → ab_sm2 (ab_mw A r y D) (ab_mw B r y C) R C := by
    intro A B r y h a b a0 a1 b0 b1
    unfold ab_mw
    rw [h a b a0 a1 b0 b1]
    by_cases e : a = r
    · rw [if_pos ⟨e, b0, by omega⟩, if_pos ⟨e, b0, b1⟩]
    · rw [if_neg (fun z => e z.1), if_neg (fun z => e z.1)]
  have hcl : ∀ {A B : Int → Int → Int} (pr : Int), 0 ≤ pr → pr < R → ab_sm2 A B R C → ∀ m : Nat, (m : Int) ≤ R → ab_sm2 (ab_cl A k pr D m) (ab_cl B k pr C m) R C := by
    intro A B pr p0 p1 h m
    induction m with
    | zero => intro _; exact h
    | succ m ih =>
      intro hm a b a0 a1 b0 b1
      have ih := ih (by omega)
      unfold ab_cl
      rw [ih m k (by omega) (by omega) hk.1 hk.2]
      split
      · exact ih a b a0 a1 b0 b1
      · unfold ab_cw
        rw [ih a b a0 a1 b0 b1, ih pr b p0 p1 b0 b1]
        by_cases e : a = m
        · rw [if_pos ⟨e, b0, by omega⟩, if_pos ⟨e, b0, b1⟩]
        · rw [if_neg (fun z => e z.1), if_neg (fun z => e z.1)]
  have hsw : ∀ r q : Int, 0 ≤ r → r < R → 0 ≤ q → q < R → ab_sm2 (ab_sw M r q D) (ab_sw N r q C) R C := by
    intro r q r0 r1 q0 q1 a b a0 a1 b0 b1
    unfold ab_sw
    have cD : 0 ≤ b ∧ b < D := ⟨b0, by omega⟩
    have cC : 0 ≤ b ∧ b < C := ⟨b0, b1⟩
    rw [if_pos cD, if_pos cC, h1 a b a0 a1 b0 b1, h1 q b q0 q1 b0 b1, h1 r b r0 r1 b0 b1]
  unfold ab_rdx
  simp only [← ep]
  split
  · exact ⟨h1, rfl, hg (-1)⟩
  · split
    · rename_i c1 c2
      have hF : F < R := by omega
      have e : M F k = N F k := h1 F k hz.1 hF hk.1 hk.2
      rw [← e]
      exact ⟨hcl F hz.1 hF (hmw F _ h1) _ (by omega), rfl, hg F⟩
    · rename_i c1 c2
      have hF : F < R := by omega
      have hs := hsw (ab_pv M k F (R - F).toNat) F (by omega) (by omega) hz.1 hF
      have e := hs F k hz.1 hF hk.1 hk.2
      rw [← e]
      exact ⟨hcl F hz.1 hF (hmw F _ hs) _ (by omega), rfl, hg F⟩
theorem ab_rd_C {R C D : Int} {M N : Int → Int → Int} {g g' : Int → Int} (hD : C ≤ D) (hR : 0 ≤ R ∧ R ≤ 12) (hv : ab_v2 M) (h : ab_sm2 M N R C) : ∀ k : Nat, (k : Int) ≤ C → ab_sm2 (ab_rd R D M g k).1 (ab_rd R C N g' k).1 R C ∧ (ab_rd R D M g k).2.2 = (ab_rd R C N g' k).2.2 ∧ ∀ j, 0 ≤ j → j < (k : Int) → (ab_rd R D M g k).2.1 j = (ab_rd R C N g' k).2.1 j
  | 0, _ => ⟨h, rfl, fun j j0 j1 => absurd j0 (by omega)⟩
  | k + 1, hk => by
    obtain ⟨h1, h2, h3⟩ := ab_rd_C (g := g) (g' := g') hD hR hv h k (by omega)
    have ok := ab_rd_ok (C := D) (g := g) hR.1 hR.2 hv k
    exact ab_rdx_C hD ⟨by omega, by omega⟩ ⟨ok.2.1, ok.2.2.1⟩ h1 h2 h3
theorem ab_rd_F {R C : Int} {M : Int → Int → Int} {g : Int → Int} : ∀ k : Nat, (ab_rd R C M g k).2.2.1 ≤ k
  | 0 => Int.le_refl 0
  | k + 1 => by
    have ih := ab_rd_F (R := R) (C := C) (M := M) (g := g) k
    rw [ab_rd]
    revert ih
    generalize ab_rd R C M g k = z
    obtain ⟨N, g', F, P⟩ := z
    intro ih
    simp only at ih
    unfold ab_rdx
    simp only
    split
    · show F ≤ _; omega
    · split
      · show F + 1 ≤ _; omega
      · show F + 1 ≤ _; omega
theorem ab_su_c {σ : Nat → Int} {a b : Nat} {x y : Int} (h : a ≠ b) : ab_su (ab_su σ a x) b y = ab_su (ab_su σ b y) a x := by
  funext i
  unfold ab_su
  by_cases e : i = b
  · rw [if_pos e, if_neg (by omega), if_pos e]
  · rw [if_neg e, if_neg e]
section MD
variable {h : ab_H} {n : Nat} {Q : ab_Q} {σ : Nat → Int} {L : Int → Int} {M : Int → Int → Int}
theorem mp_changes {r s : Int} (hmo : h 68 = some (ab_mo σ)) (h85 : h 85 = some (ab_ia 84 (ab_flt M))) (hr : 0 ≤ r ∧ r < 12) (hs : 0 ≤ s ∧ s < 12) (hrs : r ≠ s) (q : Q none (ab_hs h 85 (ab_ia 84 (ab_flt (ab_sw M r s 7)))) n) : ab_G 145 0 [some (vr 68), some (vi r), some (vi s), none, none] [] h n (0, 0) Q := by
  have h7 : ab_inR 7 = True := eq_true (by omega)
  have H68 : ∀ c, ab_hs h 85 c 68 = some (ab_mo σ) := fun c => (ab_hs_ne (by decide)).trans hmo
  simp only [s145_0, s145_1, true_and, and_true, true_implies, Option.toList_some, Option.toList_none, List.nil_append, List.cons_append, List.map_nil, List.map_cons, List.sum_nil, List.sum_cons, Nat.zero_le, ab_nl_n, ab_nl_i, ab_nl_r, ab_nl_0, ab_cat_i, ab_cat_r, ab_cat_l, Nat.reduceAdd, Nat.reduceLeDiff, Nat.add_zero, Nat.zero_add, reduceIte, List.getElem?_cons_succ, List.getElem?_cons_zero, List.length_cons, List.length_nil, List.set_cons_zero, List.set_cons_succ, true_or, or_true, Classical.not_not, not_true_eq_false, not_false_eq_true, ab_01r, ab_01z, ab_01n, false_implies, ab_tt, Nat.reduceLT, Nat.reduceEqDiff, Int.reduceNeg, Int.reduceLT, Int.reduceLE, Int.add_zero, Int.zero_add, List.append_nil, Int.reduceEq, ab_sum1, ab_ri_0, ab_ri_1, ab_ri_2, ab_ri_3, ab_ri_4, ab_ri_5, ab_ri_6, ab_ri_7, ab_ri_8, ab_ri_12, ab_ri_30, ab_ri_60, ab_ri_100, ab_ri_101, ab_ri_127, ab_ri_m1, ab_ri_m2, ab_ri_m3, ab_ri_m4, ab_ri_m5, ab_ri_m11, ab_ri_m13, ab_ri_m14, ab_ri_10]
  have key := ab_dn (P := fun i => ∀ l : Option ab_V, ab_nl [l] = true → ab_G 145 2 [some (vr 68), some (vi r), some (vi s), some (vi i), l] [] (ab_hs h 85 (ab_ia 84 (ab_flt (ab_sw M r s i)))) n (0, 0) Q) (a := 0) (e := 7) (by decide) ?_ ?_
  · have z : ab_hs h 85 (ab_ia 84 (ab_flt (ab_sw M r s 0))) = h := by
      have : ab_sw M r s 0 = M := by funext x y; unfold ab_sw; rw [if_neg (by omega)]
      rw [this, ab_hs_id h85]
    have := key none rfl
    rw [z] at this
    exact this
  · intro l hl
    rw [s145_2]
    simp only [s145_3, s145_5, s145_62, true_and, and_true, true_implies, Option.toList_some, Option.toList_none, List.nil_append, List.cons_append, List.map_nil, List.map_cons, List.sum_nil, List.sum_cons, Nat.zero_le, ab_nl_n, ab_nl_i, ab_nl_r, ab_nl_0, ab_cat_i, ab_cat_r, ab_cat_l, Nat.reduceAdd, Nat.reduceLeDiff, Nat.add_zero, Nat.zero_add, reduceIte, List.getElem?_cons_succ, List.getElem?_cons_zero, List.length_cons, List.length_nil, List.set_cons_zero, List.set_cons_succ, true_or, or_true, Classical.not_not, not_true_eq_false, not_false_eq_true, ab_01r, ab_01z, ab_01n, false_implies, ab_tt, Nat.reduceLT, Nat.reduceEqDiff, Int.reduceNeg, Int.reduceLT, Int.reduceLE, Int.add_zero, Int.zero_add, List.append_nil, Int.reduceEq, ab_sum1, ab_ri_0, ab_ri_1, ab_ri_2, ab_ri_3, ab_ri_4, ab_ri_5, ab_ri_6, ab_ri_7, ab_ri_8, ab_ri_12, ab_ri_30, ab_ri_60, ab_ri_100, ab_ri_101, ab_ri_127, ab_ri_m1, ab_ri_m2, ab_ri_m3, ab_ri_m4, ab_ri_m5, ab_ri_m11, ab_ri_m13, ab_ri_m14, ab_ri_10, h7, Int.le_refl, q]
  · intro i h0 h9 ih l hl
    have hn : ¬ 7 ≤ i := by omega
    have e1 : 0 ≤ 7 * r + i := by omega
    have e2 : 7 * r + i < ((84 : Nat) : Int) := by omega
    have e3 : 0 ≤ 7 * s + i := by omega
    have e4 : 7 * s + i < ((84 : Nat) : Int) := by omega
    have at1 : ∀ N : Int → Int → Int, ab_flt N (7 * r + i) = N r i := fun N => by rw [show 7 * r + i = r * 7 + i by omega]; exact ab_flt_at h0 h9
    have at2 : ∀ N : Int → Int → Int, ab_flt N (7 * s + i) = N s i := fun N => by rw [show 7 * s + i = s * 7 + i by omega]; exact ab_flt_at h0 h9
    have ui1 : ∀ (N : Int → Int → Int) x, ab_ui (ab_flt N) (7 * r + i) x = ab_flt (ab_u2 N r i x) := fun N x => by rw [show 7 * r + i = r * 7 + i by omega]; exact ab_flt_ui h0 h9
    have ui2 : ∀ (N : Int → Int → Int) x, ab_ui (ab_flt N) (7 * s + i) x = ab_flt (ab_u2 N s i x) := fun N x => by rw [show 7 * s + i = s * 7 + i by omega]; exact ab_flt_ui h0 h9
    have ih := ih (some (vi (ab_sw M r s i r i))) rfl
    have en : ab_u2 (ab_u2 (ab_sw M r s i) r i (ab_sw M r s i s i)) s i (ab_sw M r s i r i) = ab_sw M r s (i + 1) := by
      funext x y
      unfold ab_u2 ab_sw
      by_cases c1 : y = i
      · subst c1
        by_cases c2 : x = s
        · subst c2; rw [if_pos ⟨rfl, rfl⟩, if_neg (by omega), if_pos (by omega), if_neg (Ne.symm hrs), if_pos rfl]
        · rw [if_neg (fun z => c2 z.1)]
          by_cases c3 : x = r
          · subst c3; rw [if_pos ⟨rfl, rfl⟩, if_neg (by omega), if_pos (by omega), if_pos rfl]
          · rw [if_neg (fun z => c3 z.1), if_neg (by omega), if_pos (by omega), if_neg c3, if_neg c2]
      · rw [if_neg (fun z => c1 z.2), if_neg (fun z => c1 z.2)]
        by_cases c4 : 0 ≤ y ∧ y < i
        · rw [if_pos c4, if_pos (show 0 ≤ y ∧ y < i + 1 by omega)]
        · rw [if_neg c4, if_neg (show ¬ (0 ≤ y ∧ y < i + 1) by omega)]
    rw [← en] at ih
    rw [s145_2]
    simp only [s145_3, s145_5, s145_8, s145_9, s145_12, s145_14, s145_15, s145_16, s145_17, s145_18, s145_19, s145_21, s145_22, s145_25, s145_27, s145_28, s145_29, s145_30, s145_31, s145_32, s145_35, s145_37, s145_38, s145_39, s145_40, s145_41, s145_42, s145_43, s145_44, s145_47, s145_49, s145_50, s145_51, s145_52, s145_53, s145_55, s145_56, s145_59, true_and, and_true, true_implies, Option.toList_some, Option.toList_none, List.nil_append, List.cons_append, List.map_nil, List.map_cons, List.sum_nil, List.sum_cons, Nat.zero_le, ab_nl_n, ab_nl_i, ab_nl_r, ab_nl_0, ab_cat_i, ab_cat_r, ab_cat_l, Nat.reduceAdd, Nat.reduceLeDiff, Nat.add_zero, Nat.zero_add, reduceIte, List.getElem?_cons_succ, List.getElem?_cons_zero, List.length_cons, List.length_nil, List.set_cons_zero, List.set_cons_succ, true_or, or_true, Classical.not_not, not_true_eq_false, not_false_eq_true, ab_01r, ab_01z, ab_01n, false_implies, ab_tt, Nat.reduceLT, Nat.reduceEqDiff, Int.reduceNeg, Int.reduceLT, Int.reduceLE, Int.add_zero, Int.zero_add, List.append_nil, Int.reduceEq, ab_sum1, ab_ri_0, ab_ri_1, ab_ri_2, ab_ri_3, ab_ri_4, ab_ri_5, ab_ri_6, ab_ri_7, ab_ri_8, ab_ri_12, ab_ri_30, ab_ri_60, ab_ri_100, ab_ri_101, ab_ri_127, ab_ri_m1, ab_ri_m2, ab_ri_m3, ab_ri_m4, ab_ri_m5, ab_ri_m11, ab_ri_m13, ab_ri_m14, ab_ri_10, ab_fd, ab_fs, ab_ai, ab_as, ab_fit, ab_tyf, tyX12, ab_mg_0, ab_mg_1, ab_mg_2, ab_mg_3, ab_mg_4, ab_mg_5, ab_mg_6, ab_mg_7, ab_mg_8, ab_mg_9, ab_mg_10, ab_mg_11, ab_mg_12, ab_mg_13, ab_mg_14, ab_mg_15, ab_mg_16, ab_mg_17, ab_mg_18, ab_mg_19, ab_mg_20, ab_mg_21, ab_mg_22, ab_mg_23, ab_mg_24, ab_mg_25, ab_mg_26, ab_mg_27, ab_mg_28, ab_mg_29, ab_mg_30, ab_mg_31, ab_mg_32, ab_mg_33, ab_ms_8, ab_ms_10, ab_ms_11, ab_ms_17, ab_ms_21, ab_ms_22, ab_ms_24, ab_ms_25, ab_ms_26, ab_ms_29, ab_ms_32, ab_mol_l, Nat.reduceLT, Nat.reduceLeDiff, H68, ab_hs_self, ab_hs_hs, h7, hn, e1, e2, e3, e4, at1, at2, ui1, ui2, hl, ih] <;> omega
/-- a row cleared by another -/
def ab_cr (M : Int → Int → Int) (r by' k : Int) : Int → Int → Int := if M r k = 0 then M else ab_cw M r by' (101 - M r k) 7
theorem mp_clears {r s k : Int} (hmo : h 68 = some (ab_mo σ)) (h85 : h 85 = some (ab_ia 84 (ab_flt M))) (hv : ab_v2 M) (hr : 0 ≤ r ∧ r < 12) (hs : 0 ≤ s ∧ s < 12) (hk : 0 ≤ k ∧ k < 7) (hrs : r ≠ s) (q : Q none (ab_hs h 85 (ab_ia 84 (ab_flt (ab_cr M r s k)))) n) : ab_G 146 0 [some (vr 68), some (vi r), some (vi s), some (vi k), none, none] [] h n (0, 0) Q := by
  have h7 : ab_inR 7 = True := eq_true (by omega)
  have H68 : ∀ c, ab_hs h 85 c 68 = some (ab_mo σ) := fun c => (ab_hs_ne (by decide)).trans hmo
  have e1 : 0 ≤ 7 * r + k := by omega
  have e2 : 7 * r + k < ((84 : Nat) : Int) := by omega
  have at0 : ab_flt M (7 * r + k) = M r k := by rw [show 7 * r + k = r * 7 + k by omega]; exact ab_flt_at hk.1 hk.2
  simp only [s146_0, s146_1, s146_4, s146_6, s146_7, s146_8, s146_9, s146_10, s146_11, s146_13, s146_14, true_and, and_true, true_implies, Option.toList_some, Option.toList_none, List.nil_append, List.cons_append, List.map_nil, List.map_cons, List.sum_nil, List.sum_cons, Nat.zero_le, ab_nl_n, ab_nl_i, ab_nl_r, ab_nl_0, ab_cat_i, ab_cat_r, ab_cat_l, Nat.reduceAdd, Nat.reduceLeDiff, Nat.add_zero, Nat.zero_add, reduceIte, List.getElem?_cons_succ, List.getElem?_cons_zero, List.length_cons, List.length_nil, List.set_cons_zero, List.set_cons_succ, true_or, or_true, Classical.not_not, not_true_eq_false, not_false_eq_true, ab_01r, ab_01z, ab_01n, false_implies, ab_tt, Nat.reduceLT, Nat.reduceEqDiff, Int.reduceNeg, Int.reduceLT, Int.reduceLE, Int.add_zero, Int.zero_add, List.append_nil, Int.reduceEq, ab_sum1, ab_ri_0, ab_ri_1, ab_ri_2, ab_ri_3, ab_ri_4, ab_ri_5, ab_ri_6, ab_ri_7, ab_ri_8, ab_ri_12, ab_ri_30, ab_ri_60, ab_ri_100, ab_ri_101, ab_ri_127, ab_ri_m1, ab_ri_m2, ab_ri_m3, ab_ri_m4, ab_ri_m5, ab_ri_m11, ab_ri_m13, ab_ri_m14, ab_ri_10, ab_fd, ab_fs, ab_ai, ab_as, ab_fit, ab_tyf, tyX12, ab_mg_0, ab_mg_1, ab_mg_2, ab_mg_3, ab_mg_4, ab_mg_5, ab_mg_6, ab_mg_7, ab_mg_8, ab_mg_9, ab_mg_10, ab_mg_11, ab_mg_12, ab_mg_13, ab_mg_14, ab_mg_15, ab_mg_16, ab_mg_17, ab_mg_18, ab_mg_19, ab_mg_20, ab_mg_21, ab_mg_22, ab_mg_23, ab_mg_24, ab_mg_25, ab_mg_26, ab_mg_27, ab_mg_28, ab_mg_29, ab_mg_30, ab_mg_31, ab_mg_32, ab_mg_33, ab_ms_8, ab_ms_10, ab_ms_11, ab_ms_17, ab_ms_21, ab_ms_22, ab_ms_24, ab_ms_25, ab_ms_26, ab_ms_29, ab_ms_32, ab_mol_l, Nat.reduceLT, Nat.reduceLeDiff, hmo, h85, e1, e2, at0]
  have ht := hv r k hr.1 hr.2 hk.1 hk.2
  generalize hte : M r k = t at ht
  -- what the loop makes
  have ecr : ab_cr M r s k = fun a b => if a = r ∧ 0 ≤ b ∧ b < 7 then (M a b - t * M s b) % 101 else M a b := by
    unfold ab_cr
    rw [hte]
    by_cases z : t = 0
    · rw [if_pos z]
      funext a b
      by_cases c : a = r ∧ 0 ≤ b ∧ b < 7
      · rw [if_pos c, z, Int.zero_mul]
        have := hv a b (by omega) (by omega) c.2.1 c.2.2
        omega
      · rw [if_neg c]
    · rw [if_neg z]
      funext a b
      unfold ab_cw
      by_cases c : a = r ∧ 0 ≤ b ∧ b < 7
      · rw [if_pos c, if_pos c, Int.sub_mul]
        generalize t * M s b = y
        omega
      · rw [if_neg c, if_neg c]
  rw [ecr] at q
  refine ab_lp 0 7 (fun i => [some (vr 68), some (vi r), some (vi s), some (vi k), some (vi t), some (vi i)]) (fun i => ab_hs h 85 (ab_ia 84 (ab_flt (fun a b => if a = r ∧ 0 ≤ b ∧ b < i then (M a b - t * M s b) % 101 else M a b)))) (by decide) rfl ?_ ?_ ?_
  · have : (fun a b => if a = r ∧ 0 ≤ b ∧ b < (0 : Int) then (M a b - t * M s b) % 101 else M a b) = M := by funext a b; rw [if_neg (by omega)]
    rw [this, ab_hs_id h85]
  · rw [s146_16]
    simp only [s146_18, s146_20, s146_72, true_and, and_true, true_implies, Option.toList_some, Option.toList_none, List.nil_append, List.cons_append, List.map_nil, List.map_cons, List.sum_nil, List.sum_cons, Nat.zero_le, ab_nl_n, ab_nl_i, ab_nl_r, ab_nl_0, ab_cat_i, ab_cat_r, ab_cat_l, Nat.reduceAdd, Nat.reduceLeDiff, Nat.add_zero, Nat.zero_add, reduceIte, List.getElem?_cons_succ, List.getElem?_cons_zero, List.length_cons, List.length_nil, List.set_cons_zero, List.set_cons_succ, true_or, or_true, Classical.not_not, not_true_eq_false, not_false_eq_true, ab_01r, ab_01z, ab_01n, false_implies, ab_tt, Nat.reduceLT, Nat.reduceEqDiff, Int.reduceNeg, Int.reduceLT, Int.reduceLE, Int.add_zero, Int.zero_add, List.append_nil, Int.reduceEq, ab_sum1, ab_ri_0, ab_ri_1, ab_ri_2, ab_ri_3, ab_ri_4, ab_ri_5, ab_ri_6, ab_ri_7, ab_ri_8, ab_ri_12, ab_ri_30, ab_ri_60, ab_ri_100, ab_ri_101, ab_ri_127, ab_ri_m1, ab_ri_m2, ab_ri_m3, ab_ri_m4, ab_ri_m5, ab_ri_m11, ab_ri_m13, ab_ri_m14, ab_ri_10, h7, Int.le_refl, q]
  · intro i h0 h9 ih
    have hn : ¬ 7 ≤ i := by omega
    have e1 : 0 ≤ 7 * r + i := by omega
    have e2 : 7 * r + i < ((84 : Nat) : Int) := by omega
    have e3 : 0 ≤ 7 * s + i := by omega
    have e4 : 7 * s + i < ((84 : Nat) : Int) := by omega
    have at1 : ab_flt (fun a b => if a = r ∧ 0 ≤ b ∧ b < i then (M a b - t * M s b) % 101 else M a b) (7 * r + i) = M r i := by
      rw [show 7 * r + i = r * 7 + i by omega, ab_flt_at h0 h9]
      exact if_neg (by omega)
    have at2 : ab_flt (fun a b => if a = r ∧ 0 ≤ b ∧ b < i then (M a b - t * M s b) % 101 else M a b) (7 * s + i) = M s i := by
      rw [show 7 * s + i = s * 7 + i by omega, ab_flt_at h0 h9]
      exact if_neg (by omega)
    have ui1 : ab_ui (ab_flt (fun a b => if a = r ∧ 0 ≤ b ∧ b < i then (M a b - t * M s b) % 101 else M a b)) (7 * r + i) ((M r i - t * M s i) % 101) = ab_flt (fun a b => if a = r ∧ 0 ≤ b ∧ b < i + 1 then (M a b - t * M s b) % 101 else M a b) := by
      rw [show 7 * r + i = r * 7 + i by omega, ab_flt_ui h0 h9]
      congr 1
      funext a b
      unfold ab_u2
      by_cases c : a = r ∧ b = i
      · rw [if_pos c, c.1, c.2, if_pos (by omega)]
      · rw [if_neg c]
        show (if a = r ∧ 0 ≤ b ∧ b < i then (M a b - t * M s b) % 101 else M a b) = _
        by_cases d : a = r ∧ 0 ≤ b ∧ b < i
        · rw [if_pos d, if_pos (by omega)]
        · rw [if_neg d, if_neg (by omega)]
    have m1 := hv r i hr.1 hr.2 h0 h9
    have m2 := hv s i hs.1 hs.2 h0 h9
    have m3 := Int.mul_nonneg ht.1 m2.1
    have m4 : t * M s i ≤ 100 * 100 := Int.mul_le_mul ht.2 m2.2 m2.1 (by omega)
    have mr : ab_inR (M r i - t * M s i) := by omega
    rw [← ui1] at ih
    rw [s146_16]
    simp only [s146_18, s146_20, s146_23, s146_24, s146_27, s146_29, s146_30, s146_31, s146_33, s146_34, s146_35, s146_38, s146_40, s146_41, s146_42, s146_44, s146_45, s146_46, s146_48, s146_49, s146_52, s146_54, s146_55, s146_56, s146_58, s146_59, s146_60, s146_61, s146_62, s146_65, s146_66, s146_69, true_and, and_true, true_implies, Option.toList_some, Option.toList_none, List.nil_append, List.cons_append, List.map_nil, List.map_cons, List.sum_nil, List.sum_cons, Nat.zero_le, ab_nl_n, ab_nl_i, ab_nl_r, ab_nl_0, ab_cat_i, ab_cat_r, ab_cat_l, Nat.reduceAdd, Nat.reduceLeDiff, Nat.add_zero, Nat.zero_add, reduceIte, List.getElem?_cons_succ, List.getElem?_cons_zero, List.length_cons, List.length_nil, List.set_cons_zero, List.set_cons_succ, true_or, or_true, Classical.not_not, not_true_eq_false, not_false_eq_true, ab_01r, ab_01z, ab_01n, false_implies, ab_tt, Nat.reduceLT, Nat.reduceEqDiff, Int.reduceNeg, Int.reduceLT, Int.reduceLE, Int.add_zero, Int.zero_add, List.append_nil, Int.reduceEq, ab_sum1, ab_ri_0, ab_ri_1, ab_ri_2, ab_ri_3, ab_ri_4, ab_ri_5, ab_ri_6, ab_ri_7, ab_ri_8, ab_ri_12, ab_ri_30, ab_ri_60, ab_ri_100, ab_ri_101, ab_ri_127, ab_ri_m1, ab_ri_m2, ab_ri_m3, ab_ri_m4, ab_ri_m5, ab_ri_m11, ab_ri_m13, ab_ri_m14, ab_ri_10, ab_fd, ab_fs, ab_ai, ab_as, ab_fit, ab_tyf, tyX12, ab_mg_0, ab_mg_1, ab_mg_2, ab_mg_3, ab_mg_4, ab_mg_5, ab_mg_6, ab_mg_7, ab_mg_8, ab_mg_9, ab_mg_10, ab_mg_11, ab_mg_12, ab_mg_13, ab_mg_14, ab_mg_15, ab_mg_16, ab_mg_17, ab_mg_18, ab_mg_19, ab_mg_20, ab_mg_21, ab_mg_22, ab_mg_23, ab_mg_24, ab_mg_25, ab_mg_26, ab_mg_27, ab_mg_28, ab_mg_29, ab_mg_30, ab_mg_31, ab_mg_32, ab_mg_33, ab_ms_8, ab_ms_10, ab_ms_11, ab_ms_17, ab_ms_21, ab_ms_22, ab_ms_24, ab_ms_25, ab_ms_26, ab_ms_29, ab_ms_32, ab_mol_l, Nat.reduceLT, Nat.reduceLeDiff, H68, ab_hs_self, ab_hs_hs, h7, hn, e1, e2, e3, e4, at1, at2, mp_mod mr, ih] <;> omega
theorem ab_cr_v {r s k : Int} (hv : ab_v2 M) : ab_v2 (ab_cr M r s k) := by
  unfold ab_cr
  split
  · exact hv
  · exact ab_v2_cw hv
/-- the model's heap in an elimination -/
def ab_sth (h : ab_H) (σ : Nat → Int) (M : Int → Int → Int) (F P : Int) (pa : Int → Int) : ab_H := ab_hs (ab_hs (ab_hs h 86 (ab_ia 7 pa)) 85 (ab_ia 84 (ab_flt M))) 68 (ab_mo (ab_su (ab_su σ 22 F) 24 P))
theorem ab_sth_68 {F P : Int} {pa : Int → Int} : ab_sth h σ M F P pa 68 = some (ab_mo (ab_su (ab_su σ 22 F) 24 P)) := ab_hs_self
theorem ab_sth_85 {F P : Int} {pa : Int → Int} : ab_sth h σ M F P pa 85 = some (ab_ia 84 (ab_flt M)) := (ab_hs_ne (by decide)).trans ab_hs_self
theorem ab_sth_86 {F P : Int} {pa : Int → Int} : ab_sth h σ M F P pa 86 = some (ab_ia 7 pa) := (ab_hs_ne (by decide)).trans ((ab_hs_ne (by decide)).trans ab_hs_self)
theorem ab_sth_o {F P : Int} {pa : Int → Int} {a : Nat} (h1 : a ≠ 68) (h2 : a ≠ 85) (h3 : a ≠ 86) : ab_sth h σ M F P pa a = h a := (ab_hs_ne h1).trans ((ab_hs_ne h2).trans (ab_hs_ne h3))
theorem ab_sth_u85 {F P : Int} {pa : Int → Int} {N : Int → Int → Int} : ab_hs (ab_sth h σ M F P pa) 85 (ab_ia 84 (ab_flt N)) = ab_sth h σ N F P pa := by
  unfold ab_sth
  rw [ab_hs_cm (a := 68) (b := 85) (by decide), ab_hs_hs]
theorem ab_sth_u86 {F P : Int} {pa pb : Int → Int} : ab_hs (ab_sth h σ M F P pa) 86 (ab_ia 7 pb) = ab_sth h σ M F P pb := by
  unfold ab_sth
  rw [ab_hs_cm (a := 68) (b := 86) (by decide), ab_hs_cm (a := 85) (b := 86) (by decide), ab_hs_hs]
theorem ab_sth_P {F P P' : Int} {pa : Int → Int} : ab_hs (ab_sth h σ M F P pa) 68 (ab_mo (ab_su (ab_su (ab_su σ 22 F) 24 P) 24 P')) = ab_sth h σ M F P' pa := by
  unfold ab_sth
  rw [ab_hs_hs, ab_su_su]
theorem ab_sth_F {F P F' : Int} {pa : Int → Int} : ab_hs (ab_sth h σ M F P pa) 68 (ab_mo (ab_su (ab_su (ab_su σ 22 F) 24 P) 22 F')) = ab_sth h σ M F' P pa := by
  unfold ab_sth
  rw [ab_hs_hs, ab_su_c (a := 24) (b := 22) (by decide), ab_su_su]
theorem ab_s3_22 {F P : Int} : ab_su (ab_su σ 22 F) 24 P 22 = F := (ab_su_n (by decide)).trans ab_su_e
theorem ab_s3_24 {F P : Int} : ab_su (ab_su σ 22 F) 24 P 24 = P := ab_su_e
theorem ab_s3_21 {F P : Int} : ab_su (ab_su σ 22 F) 24 P 21 = σ 21 := (ab_su_n (by decide)).trans (ab_su_n (by decide))
theorem ab_pv_lt {c : Int} : ∀ (k : Nat) (r : Int), 0 ≤ r → ab_pv M c r k < 0 → ∀ i, r ≤ i → i < r + k → M i c = 0
  | 0, r, _, _, i, i0, i1 => absurd i0 (by omega)
  | k + 1, r, r0, h, i, i0, i1 => by
    unfold ab_pv at h
    by_cases z : M r c = 0
    · rw [if_pos z] at h
      by_cases e : i = r
      · rw [e]; exact z
      · exact ab_pv_lt k (r + 1) (by omega) h i (by omega) (by omega)
    · rw [if_neg z] at h; omega
theorem mp_steps {R C : Int} {pa : Int → Int} (hmo : h 68 = some (ab_mo σ)) (h21 : σ 21 = R) (h85 : h 85 = some (ab_ia 84 (ab_flt M))) (hv : ab_v2 M) (h86 : h 86 = some (ab_ia 7 pa)) (hR : 0 ≤ R ∧ R ≤ 12) (hC : 0 ≤ C ∧ C ≤ 7)
    (q : ∀ pa', (∀ c, 0 ≤ c → c < C → 0 ≤ (ab_rd R 7 M (fun _ => 0) C.toNat).2.1 c → pa' ((ab_rd R 7 M (fun _ => 0) C.toNat).2.1 c) = c) → Q none (ab_sth h σ (ab_rd R 7 M (fun _ => 0) C.toNat).1 (ab_rd R 7 M (fun _ => 0) C.toNat).2.2.1 (ab_rd R 7 M (fun _ => 0) C.toNat).2.2.2 pa') n) : ab_G 147 0 [some (vr 68), some (vi C), none, none, none, none, none] [] h n (0, 0) Q := by
  have h7 : ab_inR 7 = True := eq_true (by omega)
  have hCr : ab_inR C = True := eq_true (by omega)
  have hRr : ab_inR R = True := eq_true (by omega)
  have H1 : ab_hs h 68 (ab_mo (ab_su σ 22 0)) 68 = some (ab_mo (ab_su σ 22 0)) := ab_hs_self
  have e0 : ab_hs h 68 (ab_mo (ab_su (ab_su σ 22 0) 24 1)) = ab_sth h σ M 0 1 pa := by
    unfold ab_sth
    rw [ab_hs_id (a := 86) h86, ab_hs_id (a := 85) h85]
  simp only [s147_0, s147_1, s147_2, s147_5, s147_6, s147_7, s147_10, s147_11, true_and, and_true, true_implies, Option.toList_some, Option.toList_none, List.nil_append, List.cons_append, List.map_nil, List.map_cons, List.sum_nil, List.sum_cons, Nat.zero_le, ab_nl_n, ab_nl_i, ab_nl_r, ab_nl_0, ab_cat_i, ab_cat_r, ab_cat_l, Nat.reduceAdd, Nat.reduceLeDiff, Nat.add_zero, Nat.zero_add, reduceIte, List.getElem?_cons_succ, List.getElem?_cons_zero, List.length_cons, List.length_nil, List.set_cons_zero, List.set_cons_succ, true_or, or_true, Classical.not_not, not_true_eq_false, not_false_eq_true, ab_01r, ab_01z, ab_01n, false_implies, ab_tt, Nat.reduceLT, Nat.reduceEqDiff, Int.reduceNeg, Int.reduceLT, Int.reduceLE, Int.add_zero, Int.zero_add, List.append_nil, Int.reduceEq, ab_sum1, ab_ri_0, ab_ri_1, ab_ri_2, ab_ri_3, ab_ri_4, ab_ri_5, ab_ri_6, ab_ri_7, ab_ri_8, ab_ri_12, ab_ri_30, ab_ri_60, ab_ri_100, ab_ri_101, ab_ri_127, ab_ri_m1, ab_ri_m2, ab_ri_m3, ab_ri_m4, ab_ri_m5, ab_ri_m11, ab_ri_m13, ab_ri_m14, ab_ri_10, ab_fd, ab_fs, ab_ai, ab_as, ab_fit, ab_tyf, tyX12, ab_mg_0, ab_mg_1, ab_mg_2, ab_mg_3, ab_mg_4, ab_mg_5, ab_mg_6, ab_mg_7, ab_mg_8, ab_mg_9, ab_mg_10, ab_mg_11, ab_mg_12, ab_mg_13, ab_mg_14, ab_mg_15, ab_mg_16, ab_mg_17, ab_mg_18, ab_mg_19, ab_mg_20, ab_mg_21, ab_mg_22, ab_mg_23, ab_mg_24, ab_mg_25, ab_mg_26, ab_mg_27, ab_mg_28, ab_mg_29, ab_mg_30, ab_mg_31, ab_mg_32, ab_mg_33, ab_ms_8, ab_ms_10, ab_ms_11, ab_ms_17, ab_ms_21, ab_ms_22, ab_ms_24, ab_ms_25, ab_ms_26, ab_ms_29, ab_ms_32, ab_mol_l, Nat.reduceLT, Nat.reduceLeDiff, hmo, H1, ab_hs_hs, e0]
  have key := ab_dn (P := fun k => ∀ pa (l3 l4 l5 l6 : Option ab_V), ab_nl [l3, l4, l5, l6] = true → ab_nl [l4, l5, l6] = true → ab_nl [l5, l6] = true → ab_nl [l6] = true → (∀ c, 0 ≤ c → c < k → 0 ≤ (ab_rd R 7 M (fun _ => 0) k.toNat).2.1 c → pa ((ab_rd R 7 M (fun _ => 0) k.toNat).2.1 c) = c) → ab_G 147 12 [some (vr 68), some (vi C), some (vi k), l3, l4, l5, l6] [] (ab_sth h σ (ab_rd R 7 M (fun _ => 0) k.toNat).1 (ab_rd R 7 M (fun _ => 0) k.toNat).2.2.1 (ab_rd R 7 M (fun _ => 0) k.toNat).2.2.2 pa) n (0, 0) Q) (a := 0) (e := C) hC.1 ?_ ?_
  · exact key pa none none none none rfl rfl rfl rfl (fun c c0 c1 => absurd c0 (by omega))
  · intro pa l3 l4 l5 l6 z3 z4 z5 z6 hpa
    have q := q pa hpa
    rw [s147_12]
    simp only [s147_13, s147_14, s147_248, true_and, and_true, true_implies, Option.toList_some, Option.toList_none, List.nil_append, List.cons_append, List.map_nil, List.map_cons, List.sum_nil, List.sum_cons, Nat.zero_le, ab_nl_n, ab_nl_i, ab_nl_r, ab_nl_0, ab_cat_i, ab_cat_r, ab_cat_l, Nat.reduceAdd, Nat.reduceLeDiff, Nat.add_zero, Nat.zero_add, reduceIte, List.getElem?_cons_succ, List.getElem?_cons_zero, List.length_cons, List.length_nil, List.set_cons_zero, List.set_cons_succ, true_or, or_true, Classical.not_not, not_true_eq_false, not_false_eq_true, ab_01r, ab_01z, ab_01n, false_implies, ab_tt, Nat.reduceLT, Nat.reduceEqDiff, Int.reduceNeg, Int.reduceLT, Int.reduceLE, Int.add_zero, Int.zero_add, List.append_nil, Int.reduceEq, ab_sum1, ab_ri_0, ab_ri_1, ab_ri_2, ab_ri_3, ab_ri_4, ab_ri_5, ab_ri_6, ab_ri_7, ab_ri_8, ab_ri_12, ab_ri_30, ab_ri_60, ab_ri_100, ab_ri_101, ab_ri_127, ab_ri_m1, ab_ri_m2, ab_ri_m3, ab_ri_m4, ab_ri_m5, ab_ri_m11, ab_ri_m13, ab_ri_m14, ab_ri_10, Int.le_refl, hCr, q]
  · intro k k0 k9 ih pa l3 l4 l5 l6 z3 z4 z5 z6 hpa
    have ek : (k + 1).toNat = k.toNat + 1 := by omega
    have ec : ((k.toNat : Nat) : Int) = k := Int.toNat_of_nonneg k0
    have ok := ab_rd_ok (C := 7) (g := fun _ => 0) hR.1 hR.2 hv k.toNat
    have hgr := ab_rd_g (C := 7) (g := fun _ => 0) hR hv k.toNat
    have hFk := ab_rd_F (R := R) (C := 7) (M := M) (g := fun _ => 0) k.toNat
    rw [ek, ab_rd, ec] at ih
    revert ih ok hgr hpa hFk
    generalize ab_rd R 7 M (fun _ => 0) k.toNat = z
    obtain ⟨N, g, F, P⟩ := z
    intro ih hpa ok hgr hFk
    obtain ⟨o1, o2, o3, o4, o5⟩ := ok
    simp only at o1 o2 o3 o4 o5 hgr hpa hFk ih ⊢
    have ck : ¬ C ≤ k := by omega
    have k7 : k < 7 := by omega
    have hkr : ab_inR k = True := eq_true (by omega)
    have hFr : ab_inR F = True := eq_true (by omega)
    rw [s147_12]
    simp only [s147_13, s147_14, s147_17, s147_18, s147_21, true_and, and_true, true_implies, Option.toList_some, Option.toList_none, List.nil_append, List.cons_append, List.map_nil, List.map_cons, List.sum_nil, List.sum_cons, Nat.zero_le, ab_nl_n, ab_nl_i, ab_nl_r, ab_nl_0, ab_cat_i, ab_cat_r, ab_cat_l, Nat.reduceAdd, Nat.reduceLeDiff, Nat.add_zero, Nat.zero_add, reduceIte, List.getElem?_cons_succ, List.getElem?_cons_zero, List.length_cons, List.length_nil, List.set_cons_zero, List.set_cons_succ, true_or, or_true, Classical.not_not, not_true_eq_false, not_false_eq_true, ab_01r, ab_01z, ab_01n, false_implies, ab_tt, Nat.reduceLT, Nat.reduceEqDiff, Int.reduceNeg, Int.reduceLT, Int.reduceLE, Int.add_zero, Int.zero_add, List.append_nil, Int.reduceEq, ab_sum1, ab_ri_0, ab_ri_1, ab_ri_2, ab_ri_3, ab_ri_4, ab_ri_5, ab_ri_6, ab_ri_7, ab_ri_8, ab_ri_12, ab_ri_30, ab_ri_60, ab_ri_100, ab_ri_101, ab_ri_127, ab_ri_m1, ab_ri_m2, ab_ri_m3, ab_ri_m4, ab_ri_m5, ab_ri_m11, ab_ri_m13, ab_ri_m14, ab_ri_10, ab_fd, ab_fs, ab_ai, ab_as, ab_fit, ab_tyf, tyX12, ab_mg_0, ab_mg_1, ab_mg_2, ab_mg_3, ab_mg_4, ab_mg_5, ab_mg_6, ab_mg_7, ab_mg_8, ab_mg_9, ab_mg_10, ab_mg_11, ab_mg_12, ab_mg_13, ab_mg_14, ab_mg_15, ab_mg_16, ab_mg_17, ab_mg_18, ab_mg_19, ab_mg_20, ab_mg_21, ab_mg_22, ab_mg_23, ab_mg_24, ab_mg_25, ab_mg_26, ab_mg_27, ab_mg_28, ab_mg_29, ab_mg_30, ab_mg_31, ab_mg_32, ab_mg_33, ab_ms_8, ab_ms_10, ab_ms_11, ab_ms_17, ab_ms_21, ab_ms_22, ab_ms_24, ab_ms_25, ab_ms_26, ab_ms_29, ab_ms_32, ab_mol_l, Nat.reduceLT, Nat.reduceLeDiff, ab_sth_68, ab_s3_22, hCr, hkr, ck, z3]
    -- the first row that is not 0 there
    have find : ∀ rr, (rr = (if ab_pv N k F (R - F).toNat < 0 then R else ab_pv N k F (R - F).toNat)) → ab_G 147 50 [some (vr 68), some (vi C), some (vi k), some (vi rr), l4, l5, l6] [] (ab_sth h σ N F P pa) n (0, 0) Q → ab_G 147 22 [some (vr 68), some (vi C), some (vi k), some (vi F), l4, l5, l6] [] (ab_sth h σ N F P pa) n (0, 0) Q := by
      intro rr hrr g50
      have key := ab_dn (P := fun r => rr = (if ab_pv N k r (R - r).toNat < 0 then R else ab_pv N k r (R - r).toNat) → ab_G 147 22 [some (vr 68), some (vi C), some (vi k), some (vi r), l4, l5, l6] [] (ab_sth h σ N F P pa) n (0, 0) Q) (a := F) (e := R) o3 ?_ ?_
      · exact key hrr
      · intro hr
        rw [Int.sub_self, show (0 : Int).toNat = 0 from rfl, ab_pv, if_pos (show (-1 : Int) < 0 by decide)] at hr
        rw [hr] at g50
        rw [s147_22]
        simp only [s147_23, s147_24, s147_27, true_and, and_true, true_implies, Option.toList_some, Option.toList_none, List.nil_append, List.cons_append, List.map_nil, List.map_cons, List.sum_nil, List.sum_cons, Nat.zero_le, ab_nl_n, ab_nl_i, ab_nl_r, ab_nl_0, ab_cat_i, ab_cat_r, ab_cat_l, Nat.reduceAdd, Nat.reduceLeDiff, Nat.add_zero, Nat.zero_add, reduceIte, List.getElem?_cons_succ, List.getElem?_cons_zero, List.length_cons, List.length_nil, List.set_cons_zero, List.set_cons_succ, true_or, or_true, Classical.not_not, not_true_eq_false, not_false_eq_true, ab_01r, ab_01z, ab_01n, false_implies, ab_tt, Nat.reduceLT, Nat.reduceEqDiff, Int.reduceNeg, Int.reduceLT, Int.reduceLE, Int.add_zero, Int.zero_add, List.append_nil, Int.reduceEq, ab_sum1, ab_ri_0, ab_ri_1, ab_ri_2, ab_ri_3, ab_ri_4, ab_ri_5, ab_ri_6, ab_ri_7, ab_ri_8, ab_ri_12, ab_ri_30, ab_ri_60, ab_ri_100, ab_ri_101, ab_ri_127, ab_ri_m1, ab_ri_m2, ab_ri_m3, ab_ri_m4, ab_ri_m5, ab_ri_m11, ab_ri_m13, ab_ri_m14, ab_ri_10, ab_fd, ab_fs, ab_ai, ab_as, ab_fit, ab_tyf, tyX12, ab_mg_0, ab_mg_1, ab_mg_2, ab_mg_3, ab_mg_4, ab_mg_5, ab_mg_6, ab_mg_7, ab_mg_8, ab_mg_9, ab_mg_10, ab_mg_11, ab_mg_12, ab_mg_13, ab_mg_14, ab_mg_15, ab_mg_16, ab_mg_17, ab_mg_18, ab_mg_19, ab_mg_20, ab_mg_21, ab_mg_22, ab_mg_23, ab_mg_24, ab_mg_25, ab_mg_26, ab_mg_27, ab_mg_28, ab_mg_29, ab_mg_30, ab_mg_31, ab_mg_32, ab_mg_33, ab_ms_8, ab_ms_10, ab_ms_11, ab_ms_17, ab_ms_21, ab_ms_22, ab_ms_24, ab_ms_25, ab_ms_26, ab_ms_29, ab_ms_32, ab_mol_l, Nat.reduceLT, Nat.reduceLeDiff, ab_sth_68, ab_s3_21, h21, hRr, Int.le_refl, g50]
      · intro r r0 r9 rh hr
        rw [show (R - r).toNat = (R - (r + 1)).toNat + 1 by omega, ab_pv] at hr
        have cr : ¬ R ≤ r := by omega
        have hrr' : ab_inR r = True := eq_true (by omega)
        have x0 : 0 ≤ 7 * r + k := by omega
        have x1 : 7 * r + k < ((84 : Nat) : Int) := by omega
        have at1 : ab_flt N (7 * r + k) = N r k := by rw [show 7 * r + k = r * 7 + k by omega]; exact ab_flt_at k0 k7
        have nr := o1 r k (by omega) (by omega) k0 k7
        have nrr : ab_inR (N r k) = True := eq_true (by omega)
        rw [s147_22]
        by_cases c : N r k = 0
        · rw [if_pos c] at hr
          have rh := rh hr
          simp only [s147_23, s147_24, s147_27, s147_30, s147_31, s147_34, s147_36, s147_37, s147_38, s147_39, s147_40, s147_41, s147_44, s147_47, true_and, and_true, true_implies, Option.toList_some, Option.toList_none, List.nil_append, List.cons_append, List.map_nil, List.map_cons, List.sum_nil, List.sum_cons, Nat.zero_le, ab_nl_n, ab_nl_i, ab_nl_r, ab_nl_0, ab_cat_i, ab_cat_r, ab_cat_l, Nat.reduceAdd, Nat.reduceLeDiff, Nat.add_zero, Nat.zero_add, reduceIte, List.getElem?_cons_succ, List.getElem?_cons_zero, List.length_cons, List.length_nil, List.set_cons_zero, List.set_cons_succ, true_or, or_true, Classical.not_not, not_true_eq_false, not_false_eq_true, ab_01r, ab_01z, ab_01n, false_implies, ab_tt, Nat.reduceLT, Nat.reduceEqDiff, Int.reduceNeg, Int.reduceLT, Int.reduceLE, Int.add_zero, Int.zero_add, List.append_nil, Int.reduceEq, ab_sum1, ab_ri_0, ab_ri_1, ab_ri_2, ab_ri_3, ab_ri_4, ab_ri_5, ab_ri_6, ab_ri_7, ab_ri_8, ab_ri_12, ab_ri_30, ab_ri_60, ab_ri_100, ab_ri_101, ab_ri_127, ab_ri_m1, ab_ri_m2, ab_ri_m3, ab_ri_m4, ab_ri_m5, ab_ri_m11, ab_ri_m13, ab_ri_m14, ab_ri_10, ab_fd, ab_fs, ab_ai, ab_as, ab_fit, ab_tyf, tyX12, ab_mg_0, ab_mg_1, ab_mg_2, ab_mg_3, ab_mg_4, ab_mg_5, ab_mg_6, ab_mg_7, ab_mg_8, ab_mg_9, ab_mg_10, ab_mg_11, ab_mg_12, ab_mg_13, ab_mg_14, ab_mg_15, ab_mg_16, ab_mg_17, ab_mg_18, ab_mg_19, ab_mg_20, ab_mg_21, ab_mg_22, ab_mg_23, ab_mg_24, ab_mg_25, ab_mg_26, ab_mg_27, ab_mg_28, ab_mg_29, ab_mg_30, ab_mg_31, ab_mg_32, ab_mg_33, ab_ms_8, ab_ms_10, ab_ms_11, ab_ms_17, ab_ms_21, ab_ms_22, ab_ms_24, ab_ms_25, ab_ms_26, ab_ms_29, ab_ms_32, ab_mol_l, Nat.reduceLT, Nat.reduceLeDiff, ab_sth_68, ab_sth_85, ab_s3_21, h21, hRr, hrr', cr, x0, x1, at1, c, z4, z5, z6, rh]
        · rw [if_neg c, if_neg (by omega)] at hr
          rw [hr] at g50
          simp only [s147_23, s147_24, s147_27, s147_30, s147_31, s147_34, s147_36, s147_37, s147_38, s147_39, s147_40, s147_41, true_and, and_true, true_implies, Option.toList_some, Option.toList_none, List.nil_append, List.cons_append, List.map_nil, List.map_cons, List.sum_nil, List.sum_cons, Nat.zero_le, ab_nl_n, ab_nl_i, ab_nl_r, ab_nl_0, ab_cat_i, ab_cat_r, ab_cat_l, Nat.reduceAdd, Nat.reduceLeDiff, Nat.add_zero, Nat.zero_add, reduceIte, List.getElem?_cons_succ, List.getElem?_cons_zero, List.length_cons, List.length_nil, List.set_cons_zero, List.set_cons_succ, true_or, or_true, Classical.not_not, not_true_eq_false, not_false_eq_true, ab_01r, ab_01z, ab_01n, false_implies, ab_tt, Nat.reduceLT, Nat.reduceEqDiff, Int.reduceNeg, Int.reduceLT, Int.reduceLE, Int.add_zero, Int.zero_add, List.append_nil, Int.reduceEq, ab_sum1, ab_ri_0, ab_ri_1, ab_ri_2, ab_ri_3, ab_ri_4, ab_ri_5, ab_ri_6, ab_ri_7, ab_ri_8, ab_ri_12, ab_ri_30, ab_ri_60, ab_ri_100, ab_ri_101, ab_ri_127, ab_ri_m1, ab_ri_m2, ab_ri_m3, ab_ri_m4, ab_ri_m5, ab_ri_m11, ab_ri_m13, ab_ri_m14, ab_ri_10, ab_fd, ab_fs, ab_ai, ab_as, ab_fit, ab_tyf, tyX12, ab_mg_0, ab_mg_1, ab_mg_2, ab_mg_3, ab_mg_4, ab_mg_5, ab_mg_6, ab_mg_7, ab_mg_8, ab_mg_9, ab_mg_10, ab_mg_11, ab_mg_12, ab_mg_13, ab_mg_14, ab_mg_15, ab_mg_16, ab_mg_17, ab_mg_18, ab_mg_19, ab_mg_20, ab_mg_21, ab_mg_22, ab_mg_23, ab_mg_24, ab_mg_25, ab_mg_26, ab_mg_27, ab_mg_28, ab_mg_29, ab_mg_30, ab_mg_31, ab_mg_32, ab_mg_33, ab_ms_8, ab_ms_10, ab_ms_11, ab_ms_17, ab_ms_21, ab_ms_22, ab_ms_24, ab_ms_25, ab_ms_26, ab_ms_29, ab_ms_32, ab_mol_l, Nat.reduceLT, Nat.reduceLeDiff, ab_sth_68, ab_sth_85, ab_s3_21, h21, hRr, hrr', cr, x0, x1, at1, c, nrr, g50]
    refine find _ rfl ?_
    have hpv := ab_pv_r (M := N) (c := k) (R - F).toNat F
    unfold ab_rdx at ih
    simp only at ih
    -- a pivot row at its place
    have tail : ∀ (N1 : Int → Int → Int) (P1 r : Int), ab_v2 N1 → 0 ≤ P1 → P1 ≤ 100 → F < R → ab_inR r → (∀ pa (l3 l4 l5 l6 : Option ab_V), ab_nl [l3, l4, l5, l6] = true → ab_nl [l4, l5, l6] = true → ab_nl [l5, l6] = true → ab_nl [l6] = true → (∀ c, 0 ≤ c → c < k + 1 → 0 ≤ ab_ui g k F c → pa (ab_ui g k F c) = c) → ab_G 147 12 [some (vr 68), some (vi C), some (vi (k + 1)), l3, l4, l5, l6] [] (ab_sth h σ (ab_cl (ab_mw N1 F (ab_inv (N1 F k)) 7) k F 7 R.toNat) (F + 1) (P1 * N1 F k % 101) pa) n (0, 0) Q) → ab_G 147 95 [some (vr 68), some (vi C), some (vi k), some (vi r), l4, l5, l6] [] (ab_sth h σ N1 F P1 pa) n (0, 0) Q := by
      intro N1 P1 r v1 p0 p1 hF hr ih
      have x0 : 0 ≤ 7 * F + k := by omega
      have x1 : 7 * F + k < ((84 : Nat) : Int) := by omega
      have at1 : ab_flt N1 (7 * F + k) = N1 F k := by rw [show 7 * F + k = F * 7 + k by omega]; exact ab_flt_at k0 k7
      have nr := v1 F k o2 (by omega) k0 k7
      have m0 := Int.mul_nonneg p0 nr.1
      have m1 : P1 * N1 F k ≤ 100 * 100 := Int.mul_le_mul p1 nr.2 nr.1 (by omega)
      have pu : ∀ P', ab_hs (ab_sth h σ N1 F P1 pa) 68 (ab_mo (ab_su (ab_su (ab_su σ 22 F) 24 P1) 24 P')) = ab_sth h σ N1 F P' pa := fun P' => ab_sth_P
      simp only [s147_95, s147_96, s147_99, s147_101, s147_102, s147_105, s147_106, s147_107, s147_108, s147_109, s147_111, s147_112, s147_113, s147_116, s147_118, s147_119, s147_121, s147_122, s147_125, s147_127, true_and, and_true, true_implies, Option.toList_some, Option.toList_none, List.nil_append, List.cons_append, List.map_nil, List.map_cons, List.sum_nil, List.sum_cons, Nat.zero_le, ab_nl_n, ab_nl_i, ab_nl_r, ab_nl_0, ab_cat_i, ab_cat_r, ab_cat_l, Nat.reduceAdd, Nat.reduceLeDiff, Nat.add_zero, Nat.zero_add, reduceIte, List.getElem?_cons_succ, List.getElem?_cons_zero, List.length_cons, List.length_nil, List.set_cons_zero, List.set_cons_succ, true_or, or_true, Classical.not_not, not_true_eq_false, not_false_eq_true, ab_01r, ab_01z, ab_01n, false_implies, ab_tt, Nat.reduceLT, Nat.reduceEqDiff, Int.reduceNeg, Int.reduceLT, Int.reduceLE, Int.add_zero, Int.zero_add, List.append_nil, Int.reduceEq, ab_sum1, ab_ri_0, ab_ri_1, ab_ri_2, ab_ri_3, ab_ri_4, ab_ri_5, ab_ri_6, ab_ri_7, ab_ri_8, ab_ri_12, ab_ri_30, ab_ri_60, ab_ri_100, ab_ri_101, ab_ri_127, ab_ri_m1, ab_ri_m2, ab_ri_m3, ab_ri_m4, ab_ri_m5, ab_ri_m11, ab_ri_m13, ab_ri_m14, ab_ri_10, ab_fd, ab_fs, ab_ai, ab_as, ab_fit, ab_tyf, tyX12, ab_mg_0, ab_mg_1, ab_mg_2, ab_mg_3, ab_mg_4, ab_mg_5, ab_mg_6, ab_mg_7, ab_mg_8, ab_mg_9, ab_mg_10, ab_mg_11, ab_mg_12, ab_mg_13, ab_mg_14, ab_mg_15, ab_mg_16, ab_mg_17, ab_mg_18, ab_mg_19, ab_mg_20, ab_mg_21, ab_mg_22, ab_mg_23, ab_mg_24, ab_mg_25, ab_mg_26, ab_mg_27, ab_mg_28, ab_mg_29, ab_mg_30, ab_mg_31, ab_mg_32, ab_mg_33, ab_ms_8, ab_ms_10, ab_ms_11, ab_ms_17, ab_ms_21, ab_ms_22, ab_ms_24, ab_ms_25, ab_ms_26, ab_ms_29, ab_ms_32, ab_mol_l, Nat.reduceLT, Nat.reduceLeDiff, ab_sth_68, ab_sth_85, ab_s3_22, ab_s3_24, x0, x1, at1, ab_md m0, z4, z5, z6]
      (repeat refine And.intro (by omega) ?_)
      rw [pu]
      refine mp_inverse nr ?_
      simp only [s147_130, s147_132, s147_133, true_and, and_true, true_implies, Option.toList_some, Option.toList_none, List.nil_append, List.cons_append, List.map_nil, List.map_cons, List.sum_nil, List.sum_cons, Nat.zero_le, ab_nl_n, ab_nl_i, ab_nl_r, ab_nl_0, ab_cat_i, ab_cat_r, ab_cat_l, Nat.reduceAdd, Nat.reduceLeDiff, Nat.add_zero, Nat.zero_add, reduceIte, List.getElem?_cons_succ, List.getElem?_cons_zero, List.length_cons, List.length_nil, List.set_cons_zero, List.set_cons_succ, true_or, or_true, Classical.not_not, not_true_eq_false, not_false_eq_true, ab_01r, ab_01z, ab_01n, false_implies, ab_tt, Nat.reduceLT, Nat.reduceEqDiff, Int.reduceNeg, Int.reduceLT, Int.reduceLE, Int.add_zero, Int.zero_add, List.append_nil, Int.reduceEq, ab_sum1, ab_ri_0, ab_ri_1, ab_ri_2, ab_ri_3, ab_ri_4, ab_ri_5, ab_ri_6, ab_ri_7, ab_ri_8, ab_ri_12, ab_ri_30, ab_ri_60, ab_ri_100, ab_ri_101, ab_ri_127, ab_ri_m1, ab_ri_m2, ab_ri_m3, ab_ri_m4, ab_ri_m5, ab_ri_m11, ab_ri_m13, ab_ri_m14, ab_ri_10, z5, z6]
      have iv := ab_inv_r nr.1 (by omega)
      generalize hy : ab_inv (N1 F k) = y at iv ih
      generalize hp' : P1 * N1 F k % 101 = P2 at ih
      refine ab_lp 0 7 (fun i => [some (vr 68), some (vi C), some (vi k), some (vi r), some (vi (N1 F k)), some (vi y), some (vi i)]) (fun i => ab_sth h σ (ab_mw N1 F y i) F P2 pa) (by decide) rfl ?_ ?_ ?_
      · have : ab_mw N1 F y 0 = N1 := by funext a b; unfold ab_mw; rw [if_neg (by omega)]
        rw [this]
      · -- the columns are cleared
        rw [s147_135]
        simp only [s147_137, s147_139, s147_184, s147_185, true_and, and_true, true_implies, Option.toList_some, Option.toList_none, List.nil_append, List.cons_append, List.map_nil, List.map_cons, List.sum_nil, List.sum_cons, Nat.zero_le, ab_nl_n, ab_nl_i, ab_nl_r, ab_nl_0, ab_cat_i, ab_cat_r, ab_cat_l, Nat.reduceAdd, Nat.reduceLeDiff, Nat.add_zero, Nat.zero_add, reduceIte, List.getElem?_cons_succ, List.getElem?_cons_zero, List.length_cons, List.length_nil, List.set_cons_zero, List.set_cons_succ, true_or, or_true, Classical.not_not, not_true_eq_false, not_false_eq_true, ab_01r, ab_01z, ab_01n, false_implies, ab_tt, Nat.reduceLT, Nat.reduceEqDiff, Int.reduceNeg, Int.reduceLT, Int.reduceLE, Int.add_zero, Int.zero_add, List.append_nil, Int.reduceEq, ab_sum1, ab_ri_0, ab_ri_1, ab_ri_2, ab_ri_3, ab_ri_4, ab_ri_5, ab_ri_6, ab_ri_7, ab_ri_8, ab_ri_12, ab_ri_30, ab_ri_60, ab_ri_100, ab_ri_101, ab_ri_127, ab_ri_m1, ab_ri_m2, ab_ri_m3, ab_ri_m4, ab_ri_m5, ab_ri_m11, ab_ri_m13, ab_ri_m14, ab_ri_10, h7, Int.le_refl]
        have v2 : ab_v2 (ab_mw N1 F y 7) := ab_v2_mw v1
        refine ab_lp 0 R (fun i => [some (vr 68), some (vi C), some (vi k), some (vi r), some (vi (N1 F k)), some (vi y), some (vi i)]) (fun i => ab_sth h σ (ab_cl (ab_mw N1 F y 7) k F 7 i.toNat) F P2 pa) hR.1 rfl rfl ?_ ?_
        · have F7 : F < ((7 : Nat) : Int) := by omega
          have ih := ih (ab_ui pa F k) (some (vi r)) (some (vi (N1 F k))) (some (vi y)) (some (vi R)) rfl rfl rfl rfl (fun c c0 c1 cg => by
            by_cases e : c = k
            · rw [e, ab_ui_at, ab_ui_at]
            · rw [ab_ui_ne e] at cg ⊢
              have hc := hgr c c0 (by omega)
              rw [ab_ui_ne (by omega)]
              exact hpa c c0 (by omega) cg)
          have fu : ∀ F', ab_hs (ab_sth h σ (ab_cl (ab_mw N1 F y 7) k F 7 R.toNat) F P2 (ab_ui pa F k)) 68 (ab_mo (ab_su (ab_su (ab_su σ 22 F) 24 P2) 22 F')) = ab_sth h σ (ab_cl (ab_mw N1 F y 7) k F 7 R.toNat) F' P2 (ab_ui pa F k) := fun F' => ab_sth_F
          rw [s147_187]
          simp only [s147_189, s147_190, s147_193, s147_222, s147_223, s147_226, s147_227, s147_230, s147_231, s147_232, s147_233, s147_234, s147_237, s147_238, s147_239, s147_242, s147_245, true_and, and_true, true_implies, Option.toList_some, Option.toList_none, List.nil_append, List.cons_append, List.map_nil, List.map_cons, List.sum_nil, List.sum_cons, Nat.zero_le, ab_nl_n, ab_nl_i, ab_nl_r, ab_nl_0, ab_cat_i, ab_cat_r, ab_cat_l, Nat.reduceAdd, Nat.reduceLeDiff, Nat.add_zero, Nat.zero_add, reduceIte, List.getElem?_cons_succ, List.getElem?_cons_zero, List.length_cons, List.length_nil, List.set_cons_zero, List.set_cons_succ, true_or, or_true, Classical.not_not, not_true_eq_false, not_false_eq_true, ab_01r, ab_01z, ab_01n, false_implies, ab_tt, Nat.reduceLT, Nat.reduceEqDiff, Int.reduceNeg, Int.reduceLT, Int.reduceLE, Int.add_zero, Int.zero_add, List.append_nil, Int.reduceEq, ab_sum1, ab_ri_0, ab_ri_1, ab_ri_2, ab_ri_3, ab_ri_4, ab_ri_5, ab_ri_6, ab_ri_7, ab_ri_8, ab_ri_12, ab_ri_30, ab_ri_60, ab_ri_100, ab_ri_101, ab_ri_127, ab_ri_m1, ab_ri_m2, ab_ri_m3, ab_ri_m4, ab_ri_m5, ab_ri_m11, ab_ri_m13, ab_ri_m14, ab_ri_10, ab_fd, ab_fs, ab_ai, ab_as, ab_fit, ab_tyf, tyX12, ab_mg_0, ab_mg_1, ab_mg_2, ab_mg_3, ab_mg_4, ab_mg_5, ab_mg_6, ab_mg_7, ab_mg_8, ab_mg_9, ab_mg_10, ab_mg_11, ab_mg_12, ab_mg_13, ab_mg_14, ab_mg_15, ab_mg_16, ab_mg_17, ab_mg_18, ab_mg_19, ab_mg_20, ab_mg_21, ab_mg_22, ab_mg_23, ab_mg_24, ab_mg_25, ab_mg_26, ab_mg_27, ab_mg_28, ab_mg_29, ab_mg_30, ab_mg_31, ab_mg_32, ab_mg_33, ab_ms_8, ab_ms_10, ab_ms_11, ab_ms_17, ab_ms_21, ab_ms_22, ab_ms_24, ab_ms_25, ab_ms_26, ab_ms_29, ab_ms_32, ab_mol_l, Nat.reduceLT, Nat.reduceLeDiff, ab_sth_68, ab_sth_86, ab_s3_21, ab_s3_22, ab_sth_u86, fu, h21, hRr, Int.le_refl, o2, F7, ih]
        · intro i i0 i9 jh
          have ei : (i + 1).toNat = i.toNat + 1 := by omega
          have eci : ((i.toNat : Nat) : Int) = i := Int.toNat_of_nonneg i0
          have ci : ¬ R ≤ i := by omega
          have hir : ab_inR i = True := eq_true (by omega)
          have v3 := ab_v2_cl (col := k) (pr := F) (C := 7) v2 i.toNat
          rw [ei, ab_cl, eci] at jh
          rw [s147_187]
          by_cases c1 : i = F
          · rw [if_pos (Or.inl c1)] at jh
            simp only [s147_189, s147_190, s147_193, s147_196, s147_198, s147_199, s147_202, s147_216, s147_219, true_and, and_true, true_implies, Option.toList_some, Option.toList_none, List.nil_append, List.cons_append, List.map_nil, List.map_cons, List.sum_nil, List.sum_cons, Nat.zero_le, ab_nl_n, ab_nl_i, ab_nl_r, ab_nl_0, ab_cat_i, ab_cat_r, ab_cat_l, Nat.reduceAdd, Nat.reduceLeDiff, Nat.add_zero, Nat.zero_add, reduceIte, List.getElem?_cons_succ, List.getElem?_cons_zero, List.length_cons, List.length_nil, List.set_cons_zero, List.set_cons_succ, true_or, or_true, Classical.not_not, not_true_eq_false, not_false_eq_true, ab_01r, ab_01z, ab_01n, false_implies, ab_tt, Nat.reduceLT, Nat.reduceEqDiff, Int.reduceNeg, Int.reduceLT, Int.reduceLE, Int.add_zero, Int.zero_add, List.append_nil, Int.reduceEq, ab_sum1, ab_ri_0, ab_ri_1, ab_ri_2, ab_ri_3, ab_ri_4, ab_ri_5, ab_ri_6, ab_ri_7, ab_ri_8, ab_ri_12, ab_ri_30, ab_ri_60, ab_ri_100, ab_ri_101, ab_ri_127, ab_ri_m1, ab_ri_m2, ab_ri_m3, ab_ri_m4, ab_ri_m5, ab_ri_m11, ab_ri_m13, ab_ri_m14, ab_ri_10, ab_fd, ab_fs, ab_ai, ab_as, ab_fit, ab_tyf, tyX12, ab_mg_0, ab_mg_1, ab_mg_2, ab_mg_3, ab_mg_4, ab_mg_5, ab_mg_6, ab_mg_7, ab_mg_8, ab_mg_9, ab_mg_10, ab_mg_11, ab_mg_12, ab_mg_13, ab_mg_14, ab_mg_15, ab_mg_16, ab_mg_17, ab_mg_18, ab_mg_19, ab_mg_20, ab_mg_21, ab_mg_22, ab_mg_23, ab_mg_24, ab_mg_25, ab_mg_26, ab_mg_27, ab_mg_28, ab_mg_29, ab_mg_30, ab_mg_31, ab_mg_32, ab_mg_33, ab_ms_8, ab_ms_10, ab_ms_11, ab_ms_17, ab_ms_21, ab_ms_22, ab_ms_24, ab_ms_25, ab_ms_26, ab_ms_29, ab_ms_32, ab_mol_l, Nat.reduceLT, Nat.reduceLeDiff, ab_sth_68, ab_s3_21, ab_s3_22, h21, hRr, hir, hFr, ci, eq_true c1, jh]
          · simp only [s147_189, s147_190, s147_193, s147_196, s147_198, s147_199, s147_202, s147_205, s147_206, s147_208, s147_209, s147_212, s147_213, true_and, and_true, true_implies, Option.toList_some, Option.toList_none, List.nil_append, List.cons_append, List.map_nil, List.map_cons, List.sum_nil, List.sum_cons, Nat.zero_le, ab_nl_n, ab_nl_i, ab_nl_r, ab_nl_0, ab_cat_i, ab_cat_r, ab_cat_l, Nat.reduceAdd, Nat.reduceLeDiff, Nat.add_zero, Nat.zero_add, reduceIte, List.getElem?_cons_succ, List.getElem?_cons_zero, List.length_cons, List.length_nil, List.set_cons_zero, List.set_cons_succ, true_or, or_true, Classical.not_not, not_true_eq_false, not_false_eq_true, ab_01r, ab_01z, ab_01n, false_implies, ab_tt, Nat.reduceLT, Nat.reduceEqDiff, Int.reduceNeg, Int.reduceLT, Int.reduceLE, Int.add_zero, Int.zero_add, List.append_nil, Int.reduceEq, ab_sum1, ab_ri_0, ab_ri_1, ab_ri_2, ab_ri_3, ab_ri_4, ab_ri_5, ab_ri_6, ab_ri_7, ab_ri_8, ab_ri_12, ab_ri_30, ab_ri_60, ab_ri_100, ab_ri_101, ab_ri_127, ab_ri_m1, ab_ri_m2, ab_ri_m3, ab_ri_m4, ab_ri_m5, ab_ri_m11, ab_ri_m13, ab_ri_m14, ab_ri_10, ab_fd, ab_fs, ab_ai, ab_as, ab_fit, ab_tyf, tyX12, ab_mg_0, ab_mg_1, ab_mg_2, ab_mg_3, ab_mg_4, ab_mg_5, ab_mg_6, ab_mg_7, ab_mg_8, ab_mg_9, ab_mg_10, ab_mg_11, ab_mg_12, ab_mg_13, ab_mg_14, ab_mg_15, ab_mg_16, ab_mg_17, ab_mg_18, ab_mg_19, ab_mg_20, ab_mg_21, ab_mg_22, ab_mg_23, ab_mg_24, ab_mg_25, ab_mg_26, ab_mg_27, ab_mg_28, ab_mg_29, ab_mg_30, ab_mg_31, ab_mg_32, ab_mg_33, ab_ms_8, ab_ms_10, ab_ms_11, ab_ms_17, ab_ms_21, ab_ms_22, ab_ms_24, ab_ms_25, ab_ms_26, ab_ms_29, ab_ms_32, ab_mol_l, Nat.reduceLT, Nat.reduceLeDiff, ab_sth_68, ab_s3_21, ab_s3_22, ab_vc, ab_sv_12_160, ab_sv_12_166, h21, hRr, hir, hFr, ci, c1]
            refine mp_clears ab_sth_68 ab_sth_85 v3 ⟨i0, by omega⟩ ⟨o2, by omega⟩ ⟨k0, k7⟩ c1 ?_
            rw [ab_sth_u85]
            have e : ab_cr (ab_cl (ab_mw N1 F y 7) k F 7 i.toNat) i F k = (if i = F ∨ ab_cl (ab_mw N1 F y 7) k F 7 i.toNat i k = 0 then ab_cl (ab_mw N1 F y 7) k F 7 i.toNat else ab_cw (ab_cl (ab_mw N1 F y 7) k F 7 i.toNat) i F (101 - ab_cl (ab_mw N1 F y 7) k F 7 i.toNat i k) 7) := by
              unfold ab_cr
              by_cases c : ab_cl (ab_mw N1 F y 7) k F 7 i.toNat i k = 0
              · rw [if_pos c, if_pos (Or.inr c)]
              · rw [if_neg c, if_neg (fun z => z.elim c1 c)]
            rw [← e] at jh
            simp only [s147_216, s147_219, true_and, and_true, true_implies, Option.toList_some, Option.toList_none, List.nil_append, List.cons_append, List.map_nil, List.map_cons, List.sum_nil, List.sum_cons, Nat.zero_le, ab_nl_n, ab_nl_i, ab_nl_r, ab_nl_0, ab_cat_i, ab_cat_r, ab_cat_l, Nat.reduceAdd, Nat.reduceLeDiff, Nat.add_zero, Nat.zero_add, reduceIte, List.getElem?_cons_succ, List.getElem?_cons_zero, List.length_cons, List.length_nil, List.set_cons_zero, List.set_cons_succ, true_or, or_true, Classical.not_not, not_true_eq_false, not_false_eq_true, ab_01r, ab_01z, ab_01n, false_implies, ab_tt, Nat.reduceLT, Nat.reduceEqDiff, Int.reduceNeg, Int.reduceLT, Int.reduceLE, Int.add_zero, Int.zero_add, List.append_nil, Int.reduceEq, ab_sum1, ab_ri_0, ab_ri_1, ab_ri_2, ab_ri_3, ab_ri_4, ab_ri_5, ab_ri_6, ab_ri_7, ab_ri_8, ab_ri_12, ab_ri_30, ab_ri_60, ab_ri_100, ab_ri_101, ab_ri_127, ab_ri_m1, ab_ri_m2, ab_ri_m3, ab_ri_m4, ab_ri_m5, ab_ri_m11, ab_ri_m13, ab_ri_m14, ab_ri_10, jh]
      · intro i i0 i9 jh
        have ci : ¬ 7 ≤ i := by omega
        have e1 : 0 ≤ 7 * F + i := by omega
        have e2 : 7 * F + i < ((84 : Nat) : Int) := by omega
        have ati : ab_flt (ab_mw N1 F y i) (7 * F + i) = N1 F i := by rw [show 7 * F + i = F * 7 + i by omega, ab_flt_at i0 i9]; exact ab_mw_at
        have nri := v1 F i o2 (by omega) i0 i9
        have mm0 := Int.mul_nonneg nri.1 iv.1
        have mm1 : N1 F i * y ≤ 100 * 100 := Int.mul_le_mul nri.2 iv.2 iv.1 (by omega)
        have ui1 : ab_ui (ab_flt (ab_mw N1 F y i)) (7 * F + i) (N1 F i * y % 101) = ab_flt (ab_mw N1 F y (i + 1)) := by
          rw [show 7 * F + i = F * 7 + i by omega, ab_flt_ui i0 i9, ab_u2_mw i0]
        rw [s147_135]
        simp only [s147_137, s147_139, s147_142, s147_143, s147_146, s147_148, s147_149, s147_152, s147_153, s147_155, s147_156, s147_157, s147_160, s147_162, s147_163, s147_166, s147_167, s147_169, s147_170, s147_171, s147_173, s147_174, s147_176, s147_177, s147_178, s147_181, true_and, and_true, true_implies, Option.toList_some, Option.toList_none, List.nil_append, List.cons_append, List.map_nil, List.map_cons, List.sum_nil, List.sum_cons, Nat.zero_le, ab_nl_n, ab_nl_i, ab_nl_r, ab_nl_0, ab_cat_i, ab_cat_r, ab_cat_l, Nat.reduceAdd, Nat.reduceLeDiff, Nat.add_zero, Nat.zero_add, reduceIte, List.getElem?_cons_succ, List.getElem?_cons_zero, List.length_cons, List.length_nil, List.set_cons_zero, List.set_cons_succ, true_or, or_true, Classical.not_not, not_true_eq_false, not_false_eq_true, ab_01r, ab_01z, ab_01n, false_implies, ab_tt, Nat.reduceLT, Nat.reduceEqDiff, Int.reduceNeg, Int.reduceLT, Int.reduceLE, Int.add_zero, Int.zero_add, List.append_nil, Int.reduceEq, ab_sum1, ab_ri_0, ab_ri_1, ab_ri_2, ab_ri_3, ab_ri_4, ab_ri_5, ab_ri_6, ab_ri_7, ab_ri_8, ab_ri_12, ab_ri_30, ab_ri_60, ab_ri_100, ab_ri_101, ab_ri_127, ab_ri_m1, ab_ri_m2, ab_ri_m3, ab_ri_m4, ab_ri_m5, ab_ri_m11, ab_ri_m13, ab_ri_m14, ab_ri_10, ab_fd, ab_fs, ab_ai, ab_as, ab_fit, ab_tyf, tyX12, ab_mg_0, ab_mg_1, ab_mg_2, ab_mg_3, ab_mg_4, ab_mg_5, ab_mg_6, ab_mg_7, ab_mg_8, ab_mg_9, ab_mg_10, ab_mg_11, ab_mg_12, ab_mg_13, ab_mg_14, ab_mg_15, ab_mg_16, ab_mg_17, ab_mg_18, ab_mg_19, ab_mg_20, ab_mg_21, ab_mg_22, ab_mg_23, ab_mg_24, ab_mg_25, ab_mg_26, ab_mg_27, ab_mg_28, ab_mg_29, ab_mg_30, ab_mg_31, ab_mg_32, ab_mg_33, ab_ms_8, ab_ms_10, ab_ms_11, ab_ms_17, ab_ms_21, ab_ms_22, ab_ms_24, ab_ms_25, ab_ms_26, ab_ms_29, ab_ms_32, ab_mol_l, Nat.reduceLT, Nat.reduceLeDiff, ab_sth_68, ab_sth_85, ab_s3_22, ab_sth_u85, h7, ci, e1, e2, ati, ab_md mm0, ui1, jh] <;> omega
    by_cases c1 : ab_pv N k F (R - F).toNat < 0
    · rw [if_pos c1]
      simp only [c1, true_and, and_true, true_implies, Option.toList_some, Option.toList_none, List.nil_append, List.cons_append, List.map_nil, List.map_cons, List.sum_nil, List.sum_cons, Nat.zero_le, ab_nl_n, ab_nl_i, ab_nl_r, ab_nl_0, ab_cat_i, ab_cat_r, ab_cat_l, Nat.reduceAdd, Nat.reduceLeDiff, Nat.add_zero, Nat.zero_add, reduceIte, List.getElem?_cons_succ, List.getElem?_cons_zero, List.length_cons, List.length_nil, List.set_cons_zero, List.set_cons_succ, true_or, or_true, Classical.not_not, not_true_eq_false, not_false_eq_true, ab_01r, ab_01z, ab_01n, false_implies, ab_tt, Nat.reduceLT, Nat.reduceEqDiff, Int.reduceNeg, Int.reduceLT, Int.reduceLE, Int.add_zero, Int.zero_add, List.append_nil, Int.reduceEq, ab_sum1, ab_ri_0, ab_ri_1, ab_ri_2, ab_ri_3, ab_ri_4, ab_ri_5, ab_ri_6, ab_ri_7, ab_ri_8, ab_ri_12, ab_ri_30, ab_ri_60, ab_ri_100, ab_ri_101, ab_ri_127, ab_ri_m1, ab_ri_m2, ab_ri_m3, ab_ri_m4, ab_ri_m5, ab_ri_m11, ab_ri_m13, ab_ri_m14, ab_ri_10] at ih
      have ih := ih pa (some (vi R)) l4 l5 l6 z4 z4 z5 z6 (fun c c0 c1' cg => by
        by_cases e : c = k
        · rw [e, ab_ui_at] at cg; omega
        · rw [ab_ui_ne e] at cg ⊢
          exact hpa c c0 (by omega) cg)
      have pu : ∀ P', ab_hs (ab_sth h σ N F P pa) 68 (ab_mo (ab_su (ab_su (ab_su σ 22 F) 24 P) 24 P')) = ab_sth h σ N F P' pa := fun P' => ab_sth_P
      simp only [s147_50, s147_51, s147_52, s147_55, s147_58, s147_59, s147_60, s147_63, s147_242, s147_245, true_and, and_true, true_implies, Option.toList_some, Option.toList_none, List.nil_append, List.cons_append, List.map_nil, List.map_cons, List.sum_nil, List.sum_cons, Nat.zero_le, ab_nl_n, ab_nl_i, ab_nl_r, ab_nl_0, ab_cat_i, ab_cat_r, ab_cat_l, Nat.reduceAdd, Nat.reduceLeDiff, Nat.add_zero, Nat.zero_add, reduceIte, List.getElem?_cons_succ, List.getElem?_cons_zero, List.length_cons, List.length_nil, List.set_cons_zero, List.set_cons_succ, true_or, or_true, Classical.not_not, not_true_eq_false, not_false_eq_true, ab_01r, ab_01z, ab_01n, false_implies, ab_tt, Nat.reduceLT, Nat.reduceEqDiff, Int.reduceNeg, Int.reduceLT, Int.reduceLE, Int.add_zero, Int.zero_add, List.append_nil, Int.reduceEq, ab_sum1, ab_ri_0, ab_ri_1, ab_ri_2, ab_ri_3, ab_ri_4, ab_ri_5, ab_ri_6, ab_ri_7, ab_ri_8, ab_ri_12, ab_ri_30, ab_ri_60, ab_ri_100, ab_ri_101, ab_ri_127, ab_ri_m1, ab_ri_m2, ab_ri_m3, ab_ri_m4, ab_ri_m5, ab_ri_m11, ab_ri_m13, ab_ri_m14, ab_ri_10, ab_fd, ab_fs, ab_ai, ab_as, ab_fit, ab_tyf, tyX12, ab_mg_0, ab_mg_1, ab_mg_2, ab_mg_3, ab_mg_4, ab_mg_5, ab_mg_6, ab_mg_7, ab_mg_8, ab_mg_9, ab_mg_10, ab_mg_11, ab_mg_12, ab_mg_13, ab_mg_14, ab_mg_15, ab_mg_16, ab_mg_17, ab_mg_18, ab_mg_19, ab_mg_20, ab_mg_21, ab_mg_22, ab_mg_23, ab_mg_24, ab_mg_25, ab_mg_26, ab_mg_27, ab_mg_28, ab_mg_29, ab_mg_30, ab_mg_31, ab_mg_32, ab_mg_33, ab_ms_8, ab_ms_10, ab_ms_11, ab_ms_17, ab_ms_21, ab_ms_22, ab_ms_24, ab_ms_25, ab_ms_26, ab_ms_29, ab_ms_32, ab_mol_l, Nat.reduceLT, Nat.reduceLeDiff, ab_sth_68, ab_s3_21, h21, hRr, pu, z4, z5, z6, ih]
    · rw [if_neg c1]
      have hF : F < R := by omega
      have crR : ¬ ab_pv N k F (R - F).toNat = R := by omega
      have hrr : ab_inR (ab_pv N k F (R - F).toNat) := by omega
      by_cases c2 : ab_pv N k F (R - F).toNat = F
      · have c1' : ¬ F < 0 := by omega
        simp only [c2, c1', true_and, and_true, true_implies, Option.toList_some, Option.toList_none, List.nil_append, List.cons_append, List.map_nil, List.map_cons, List.sum_nil, List.sum_cons, Nat.zero_le, ab_nl_n, ab_nl_i, ab_nl_r, ab_nl_0, ab_cat_i, ab_cat_r, ab_cat_l, Nat.reduceAdd, Nat.reduceLeDiff, Nat.add_zero, Nat.zero_add, reduceIte, List.getElem?_cons_succ, List.getElem?_cons_zero, List.length_cons, List.length_nil, List.set_cons_zero, List.set_cons_succ, true_or, or_true, Classical.not_not, not_true_eq_false, not_false_eq_true, ab_01r, ab_01z, ab_01n, false_implies, ab_tt, Nat.reduceLT, Nat.reduceEqDiff, Int.reduceNeg, Int.reduceLT, Int.reduceLE, Int.add_zero, Int.zero_add, List.append_nil, Int.reduceEq, ab_sum1, ab_ri_0, ab_ri_1, ab_ri_2, ab_ri_3, ab_ri_4, ab_ri_5, ab_ri_6, ab_ri_7, ab_ri_8, ab_ri_12, ab_ri_30, ab_ri_60, ab_ri_100, ab_ri_101, ab_ri_127, ab_ri_m1, ab_ri_m2, ab_ri_m3, ab_ri_m4, ab_ri_m5, ab_ri_m11, ab_ri_m13, ab_ri_m14, ab_ri_10] at ih
        have t := tail N P (ab_pv N k F (R - F).toNat) o1 o4 o5 hF hrr ih
        rw [c2] at t crR ⊢
        simp only [s147_50, s147_51, s147_52, s147_55, s147_66, s147_67, s147_68, s147_71, true_and, and_true, true_implies, Option.toList_some, Option.toList_none, List.nil_append, List.cons_append, List.map_nil, List.map_cons, List.sum_nil, List.sum_cons, Nat.zero_le, ab_nl_n, ab_nl_i, ab_nl_r, ab_nl_0, ab_cat_i, ab_cat_r, ab_cat_l, Nat.reduceAdd, Nat.reduceLeDiff, Nat.add_zero, Nat.zero_add, reduceIte, List.getElem?_cons_succ, List.getElem?_cons_zero, List.length_cons, List.length_nil, List.set_cons_zero, List.set_cons_succ, true_or, or_true, Classical.not_not, not_true_eq_false, not_false_eq_true, ab_01r, ab_01z, ab_01n, false_implies, ab_tt, Nat.reduceLT, Nat.reduceEqDiff, Int.reduceNeg, Int.reduceLT, Int.reduceLE, Int.add_zero, Int.zero_add, List.append_nil, Int.reduceEq, ab_sum1, ab_ri_0, ab_ri_1, ab_ri_2, ab_ri_3, ab_ri_4, ab_ri_5, ab_ri_6, ab_ri_7, ab_ri_8, ab_ri_12, ab_ri_30, ab_ri_60, ab_ri_100, ab_ri_101, ab_ri_127, ab_ri_m1, ab_ri_m2, ab_ri_m3, ab_ri_m4, ab_ri_m5, ab_ri_m11, ab_ri_m13, ab_ri_m14, ab_ri_10, ab_fd, ab_fs, ab_ai, ab_as, ab_fit, ab_tyf, tyX12, ab_mg_0, ab_mg_1, ab_mg_2, ab_mg_3, ab_mg_4, ab_mg_5, ab_mg_6, ab_mg_7, ab_mg_8, ab_mg_9, ab_mg_10, ab_mg_11, ab_mg_12, ab_mg_13, ab_mg_14, ab_mg_15, ab_mg_16, ab_mg_17, ab_mg_18, ab_mg_19, ab_mg_20, ab_mg_21, ab_mg_22, ab_mg_23, ab_mg_24, ab_mg_25, ab_mg_26, ab_mg_27, ab_mg_28, ab_mg_29, ab_mg_30, ab_mg_31, ab_mg_32, ab_mg_33, ab_ms_8, ab_ms_10, ab_ms_11, ab_ms_17, ab_ms_21, ab_ms_22, ab_ms_24, ab_ms_25, ab_ms_26, ab_ms_29, ab_ms_32, ab_mol_l, Nat.reduceLT, Nat.reduceLeDiff, ab_sth_68, ab_s3_21, ab_s3_22, h21, hRr, hFr, crR, t]
      · simp only [c1, c2, true_and, and_true, true_implies, Option.toList_some, Option.toList_none, List.nil_append, List.cons_append, List.map_nil, List.map_cons, List.sum_nil, List.sum_cons, Nat.zero_le, ab_nl_n, ab_nl_i, ab_nl_r, ab_nl_0, ab_cat_i, ab_cat_r, ab_cat_l, Nat.reduceAdd, Nat.reduceLeDiff, Nat.add_zero, Nat.zero_add, reduceIte, List.getElem?_cons_succ, List.getElem?_cons_zero, List.length_cons, List.length_nil, List.set_cons_zero, List.set_cons_succ, true_or, or_true, Classical.not_not, not_true_eq_false, not_false_eq_true, ab_01r, ab_01z, ab_01n, false_implies, ab_tt, Nat.reduceLT, Nat.reduceEqDiff, Int.reduceNeg, Int.reduceLT, Int.reduceLE, Int.add_zero, Int.zero_add, List.append_nil, Int.reduceEq, ab_sum1, ab_ri_0, ab_ri_1, ab_ri_2, ab_ri_3, ab_ri_4, ab_ri_5, ab_ri_6, ab_ri_7, ab_ri_8, ab_ri_12, ab_ri_30, ab_ri_60, ab_ri_100, ab_ri_101, ab_ri_127, ab_ri_m1, ab_ri_m2, ab_ri_m3, ab_ri_m4, ab_ri_m5, ab_ri_m11, ab_ri_m13, ab_ri_m14, ab_ri_10] at ih
        have vs := ab_v2_sw (C := 7) (r := ab_pv N k F (R - F).toNat) (q := F) o1 (by omega) (by omega)
        have t := tail (ab_sw N (ab_pv N k F (R - F).toNat) F 7) (-P % 101) (ab_pv N k F (R - F).toNat) vs (by omega) (by omega) hF hrr ih
        revert hrr crR c2 t hpv c1
        generalize ab_pv N k F (R - F).toNat = r
        intro hpv c1 crR hrr c2 t
        simp only [s147_50, s147_51, s147_52, s147_55, s147_66, s147_67, s147_68, s147_71, s147_74, s147_75, s147_76, s147_77, s147_80, true_and, and_true, true_implies, Option.toList_some, Option.toList_none, List.nil_append, List.cons_append, List.map_nil, List.map_cons, List.sum_nil, List.sum_cons, Nat.zero_le, ab_nl_n, ab_nl_i, ab_nl_r, ab_nl_0, ab_cat_i, ab_cat_r, ab_cat_l, Nat.reduceAdd, Nat.reduceLeDiff, Nat.add_zero, Nat.zero_add, reduceIte, List.getElem?_cons_succ, List.getElem?_cons_zero, List.length_cons, List.length_nil, List.set_cons_zero, List.set_cons_succ, true_or, or_true, Classical.not_not, not_true_eq_false, not_false_eq_true, ab_01r, ab_01z, ab_01n, false_implies, ab_tt, Nat.reduceLT, Nat.reduceEqDiff, Int.reduceNeg, Int.reduceLT, Int.reduceLE, Int.add_zero, Int.zero_add, List.append_nil, Int.reduceEq, ab_sum1, ab_ri_0, ab_ri_1, ab_ri_2, ab_ri_3, ab_ri_4, ab_ri_5, ab_ri_6, ab_ri_7, ab_ri_8, ab_ri_12, ab_ri_30, ab_ri_60, ab_ri_100, ab_ri_101, ab_ri_127, ab_ri_m1, ab_ri_m2, ab_ri_m3, ab_ri_m4, ab_ri_m5, ab_ri_m11, ab_ri_m13, ab_ri_m14, ab_ri_10, ab_fd, ab_fs, ab_ai, ab_as, ab_fit, ab_tyf, tyX12, ab_mg_0, ab_mg_1, ab_mg_2, ab_mg_3, ab_mg_4, ab_mg_5, ab_mg_6, ab_mg_7, ab_mg_8, ab_mg_9, ab_mg_10, ab_mg_11, ab_mg_12, ab_mg_13, ab_mg_14, ab_mg_15, ab_mg_16, ab_mg_17, ab_mg_18, ab_mg_19, ab_mg_20, ab_mg_21, ab_mg_22, ab_mg_23, ab_mg_24, ab_mg_25, ab_mg_26, ab_mg_27, ab_mg_28, ab_mg_29, ab_mg_30, ab_mg_31, ab_mg_32, ab_mg_33, ab_ms_8, ab_ms_10, ab_ms_11, ab_ms_17, ab_ms_21, ab_ms_22, ab_ms_24, ab_ms_25, ab_ms_26, ab_ms_29, ab_ms_32, ab_mol_l, Nat.reduceLT, Nat.reduceLeDiff, ab_sth_68, ab_s3_21, ab_s3_22, ab_vc, ab_sv_12_160, ab_sv_12_166, h21, hRr, hFr, crR, c2, eq_true hrr]
        refine mp_changes ab_sth_68 ab_sth_85 (by omega) (by omega) c2 ?_
        rw [ab_sth_u85]
        have pn : ab_inR (-P) := by omega
        have pu : ∀ P', ab_hs (ab_sth h σ (ab_sw N r F 7) F P pa) 68 (ab_mo (ab_su (ab_su (ab_su σ 22 F) 24 P) 24 P')) = ab_sth h σ (ab_sw N r F 7) F P' pa := fun P' => ab_sth_P
        simp only [s147_83, s147_84, s147_85, s147_88, s147_89, s147_92, true_and, and_true, true_implies, Option.toList_some, Option.toList_none, List.nil_append, List.cons_append, List.map_nil, List.map_cons, List.sum_nil, List.sum_cons, Nat.zero_le, ab_nl_n, ab_nl_i, ab_nl_r, ab_nl_0, ab_cat_i, ab_cat_r, ab_cat_l, Nat.reduceAdd, Nat.reduceLeDiff, Nat.add_zero, Nat.zero_add, reduceIte, List.getElem?_cons_succ, List.getElem?_cons_zero, List.length_cons, List.length_nil, List.set_cons_zero, List.set_cons_succ, true_or, or_true, Classical.not_not, not_true_eq_false, not_false_eq_true, ab_01r, ab_01z, ab_01n, false_implies, ab_tt, Nat.reduceLT, Nat.reduceEqDiff, Int.reduceNeg, Int.reduceLT, Int.reduceLE, Int.add_zero, Int.zero_add, List.append_nil, Int.reduceEq, ab_sum1, ab_ri_0, ab_ri_1, ab_ri_2, ab_ri_3, ab_ri_4, ab_ri_5, ab_ri_6, ab_ri_7, ab_ri_8, ab_ri_12, ab_ri_30, ab_ri_60, ab_ri_100, ab_ri_101, ab_ri_127, ab_ri_m1, ab_ri_m2, ab_ri_m3, ab_ri_m4, ab_ri_m5, ab_ri_m11, ab_ri_m13, ab_ri_m14, ab_ri_10, ab_fd, ab_fs, ab_ai, ab_as, ab_fit, ab_tyf, tyX12, ab_mg_0, ab_mg_1, ab_mg_2, ab_mg_3, ab_mg_4, ab_mg_5, ab_mg_6, ab_mg_7, ab_mg_8, ab_mg_9, ab_mg_10, ab_mg_11, ab_mg_12, ab_mg_13, ab_mg_14, ab_mg_15, ab_mg_16, ab_mg_17, ab_mg_18, ab_mg_19, ab_mg_20, ab_mg_21, ab_mg_22, ab_mg_23, ab_mg_24, ab_mg_25, ab_mg_26, ab_mg_27, ab_mg_28, ab_mg_29, ab_mg_30, ab_mg_31, ab_mg_32, ab_mg_33, ab_ms_8, ab_ms_10, ab_ms_11, ab_ms_17, ab_ms_21, ab_ms_22, ab_ms_24, ab_ms_25, ab_ms_26, ab_ms_29, ab_ms_32, ab_mol_l, Nat.reduceLT, Nat.reduceLeDiff, ab_sth_68, ab_s3_24, mp_mod pn, pu, t]
end MD
