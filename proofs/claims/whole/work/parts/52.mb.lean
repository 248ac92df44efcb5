/-! ===== the model: its table laid ===== -/
def ab_MT (L : Int → Int) : Int → Int := fun j => ab_mte L (j / 133 - 5) (j / 7 % 19) (j % 7)
theorem ab_row_r {m b : Int} (hm : -5 ≤ m ∧ m ≤ 5) (hb : ab_bb b) : 0 ≤ ab_row m b ∧ ab_row m b + 7 ≤ 1463 := by
  obtain ⟨b0, b1⟩ := hb
  unfold ab_row
  omega
theorem ab_row_ne {m b m' c : Int} (hb : ab_bb b) (hc : ab_bb c) (h : c ≠ b) : ab_row m' c + 7 ≤ ab_row m b ∨ ab_row m b + 7 ≤ ab_row m' c := by
  obtain ⟨b0, b1⟩ := hb
  obtain ⟨c0, c1⟩ := hc
  unfold ab_row
  omega
theorem ab_MT_at {L : Int → Int} {m b k : Int} (hb : ab_bb b) (hk : 0 ≤ k ∧ k < 7) : ab_MT L (ab_row m b + k) = ab_mte L m b k := by
  obtain ⟨b0, b1⟩ := hb
  unfold ab_MT ab_row
  rw [show (7 * (19 * (m + 5) + b) + k) / 133 - 5 = m by omega, show (7 * (19 * (m + 5) + b) + k) / 7 % 19 = b by omega, show (7 * (19 * (m + 5) + b) + k) % 7 = k by omega]
theorem ab_mte_r {L : Int → Int} {m b k : Int} (hL : ab_lok L) : 0 ≤ ab_mte L m b k ∧ ab_mte L m b k ≤ 100 := by
  unfold ab_mte
  split
  · exact ab_AT_r hL _
  · omega
/-- a row of seven -/
def ab_rwf (T : Int → Int) (r : Int) (R : Int → Int) : Int → Int := ab_fi (fun j => R (j - r)) T r (r + 7)
theorem ab_rwf_ui {T R : Int → Int} {r k x : Int} (hk : 0 ≤ k ∧ k < 7) : ab_ui (ab_rwf T r R) (r + k) x = ab_rwf T r (ab_ui R k x) := by
  funext j
  unfold ab_rwf
  by_cases e : j = r + k
  · rw [e, ab_ui_at, ab_fi_lo (by omega), show r + k - r = k by omega, ab_ui_at]
  · rw [ab_ui_ne e]
    by_cases c : r ≤ j ∧ j < r + 7
    · rw [ab_fi_lo c, ab_fi_lo c, ab_ui_ne (by omega)]
    · rw [ab_fi_no c, ab_fi_no c]
theorem ab_rwf_at {T R : Int → Int} {r k : Int} (hk : 0 ≤ k ∧ k < 7) : ab_rwf T r R (r + k) = R k := by
  unfold ab_rwf
  rw [ab_fi_lo (by omega), show r + k - r = k by omega]
theorem ab_rwf_no {T R : Int → Int} {r j : Int} (h : ¬ (r ≤ j ∧ j < r + 7)) : ab_rwf T r R j = T j := ab_fi_no h
theorem ab_rwf_add {T R : Int → Int} {r fr x w : Int} (hw : 0 ≤ w ∧ w ≤ 7) (hd : fr + 7 ≤ r ∨ r + 7 ≤ fr) : ab_fi (fun j => (ab_rwf T r R j + ab_rwf T r R (j - r + fr) * x) % 101) (ab_rwf T r R) r (r + w) = ab_rwf T r (fun k => if 0 ≤ k ∧ k < w then (R k + T (fr + k) * x) % 101 else R k) := by
  funext j
  by_cases c : r ≤ j ∧ j < r + w
  · rw [ab_fi_lo c]
    show (ab_rwf T r R j + ab_rwf T r R (j - r + fr) * x) % 101 = _
    rw [ab_rwf_no (j := j - r + fr) (by omega)]
    have e1 := ab_rwf_at (T := T) (R := R) (r := r) (k := j - r) (by omega)
    have e2 := ab_rwf_at (T := T) (R := fun k => if 0 ≤ k ∧ k < w then (R k + T (fr + k) * x) % 101 else R k) (r := r) (k := j - r) (by omega)
    rw [show r + (j - r) = j by omega] at e1 e2
    rw [e1, e2, if_pos (by omega), show fr + (j - r) = j - r + fr by omega]
  · rw [ab_fi_no c]
    by_cases d : r ≤ j ∧ j < r + 7
    · have e1 := ab_rwf_at (T := T) (R := R) (r := r) (k := j - r) (by omega)
      have e2 := ab_rwf_at (T := T) (R := fun k => if 0 ≤ k ∧ k < w then (R k + T (fr + k) * x) % 101 else R k) (r := r) (k := j - r) (by omega)
      rw [show r + (j - r) = j by omega] at e1 e2
      rw [e1, e2, if_neg (by omega)]
    · rw [ab_rwf_no d, ab_rwf_no d]
theorem ab_mm {x a s : Int} : (x % 101 + a * (s % 101)) % 101 = (x + s * a) % 101 := by
  have e := Int.emod_add_mul_ediv s 101
  have e2 : s * a = a * (s % 101) + 101 * (a * (s / 101)) := by
    have : s * a = a * (s % 101 + 101 * (s / 101)) := by rw [e, Int.mul_comm]
    rw [this, Int.mul_add, ← Int.mul_assoc, ← Int.mul_assoc, Int.mul_comm a 101]
  rw [e2]
  generalize a * (s % 101) = u
  generalize a * (s / 101) = v
  omega
section MB
variable {h : ab_H} {n : Nat} {Q : ab_Q} {σ : Nat → Int} {L T : Int → Int}
theorem mp_addsTo {to fr x w : Int} (hmo : h 68 = some (ab_mo σ)) (h82 : h 82 = some (ab_ia 1463 T)) (ht : 0 ≤ to ∧ to + w ≤ 1463) (hf : 0 ≤ fr ∧ fr + w ≤ 1463) (hw : 0 ≤ w ∧ w ≤ 7) (hd : fr + w ≤ to ∨ to + w ≤ fr) (hx : 0 ≤ x ∧ x ≤ 100) (h1 : ∀ k, 0 ≤ k → k < w → 0 ≤ T (to + k) ∧ T (to + k) ≤ 100) (h2 : ∀ k, 0 ≤ k → k < w → 0 ≤ T (fr + k) ∧ T (fr + k) ≤ 100)
    (q : Q none (ab_hs h 82 (ab_ia 1463 (ab_fi (fun j => (T j + T (j - to + fr) * x) % 101) T to (to + w)))) n) : ab_G 134 0 [some (vr 68), some (vi to), some (vi fr), some (vi x), some (vi w), none] [] h n (0, 0) Q := by
  have H68 : ∀ c, ab_hs h 82 c 68 = some (ab_mo σ) := fun c => (ab_hs_ne (by decide)).trans hmo
  have hwr : ab_inR w = True := eq_true (by omega)
  simp only [s134_0, s134_1, true_and, and_true, true_implies, Option.toList_some, Option.toList_none, List.nil_append, List.cons_append, List.map_nil, List.map_cons, List.sum_nil, List.sum_cons, Nat.zero_le, ab_nl_n, ab_nl_i, ab_nl_r, ab_nl_0, ab_cat_i, ab_cat_r, ab_cat_l, Nat.reduceAdd, Nat.reduceLeDiff, Nat.add_zero, Nat.zero_add, reduceIte, List.getElem?_cons_succ, List.getElem?_cons_zero, List.length_cons, List.length_nil, List.set_cons_zero, List.set_cons_succ, true_or, or_true, Classical.not_not, not_true_eq_false, not_false_eq_true, ab_01r, ab_01z, ab_01n, false_implies, ab_tt, Nat.reduceLT, Nat.reduceEqDiff, Int.reduceNeg, Int.reduceLT, Int.reduceLE, Int.add_zero, Int.zero_add, List.append_nil, Int.reduceEq, ab_sum1, ab_ri_0, ab_ri_1, ab_ri_2, ab_ri_3, ab_ri_4, ab_ri_5, ab_ri_6, ab_ri_7, ab_ri_8, ab_ri_12, ab_ri_30, ab_ri_60, ab_ri_100, ab_ri_101, ab_ri_127, ab_ri_m1, ab_ri_m2, ab_ri_m3, ab_ri_m4, ab_ri_m5, ab_ri_m11, ab_ri_m13, ab_ri_m14, ab_ri_10]
  refine ab_lp 0 w (fun i => [some (vr 68), some (vi to), some (vi fr), some (vi x), some (vi w), some (vi i)]) (fun i => ab_hs h 82 (ab_ia 1463 (ab_fi (fun j => (T j + T (j - to + fr) * x) % 101) T to (to + i)))) hw.1 rfl (by rw [Int.add_zero, ab_fi_0, ab_hs_id h82]) ?_ ?_
  · rw [s134_3]
    simp only [s134_5, s134_7, s134_49, true_and, and_true, true_implies, Option.toList_some, Option.toList_none, List.nil_append, List.cons_append, List.map_nil, List.map_cons, List.sum_nil, List.sum_cons, Nat.zero_le, ab_nl_n, ab_nl_i, ab_nl_r, ab_nl_0, ab_cat_i, ab_cat_r, ab_cat_l, Nat.reduceAdd, Nat.reduceLeDiff, Nat.add_zero, Nat.zero_add, reduceIte, List.getElem?_cons_succ, List.getElem?_cons_zero, List.length_cons, List.length_nil, List.set_cons_zero, List.set_cons_succ, true_or, or_true, Classical.not_not, not_true_eq_false, not_false_eq_true, ab_01r, ab_01z, ab_01n, false_implies, ab_tt, Nat.reduceLT, Nat.reduceEqDiff, Int.reduceNeg, Int.reduceLT, Int.reduceLE, Int.add_zero, Int.zero_add, List.append_nil, Int.reduceEq, ab_sum1, ab_ri_0, ab_ri_1, ab_ri_2, ab_ri_3, ab_ri_4, ab_ri_5, ab_ri_6, ab_ri_7, ab_ri_8, ab_ri_12, ab_ri_30, ab_ri_60, ab_ri_100, ab_ri_101, ab_ri_127, ab_ri_m1, ab_ri_m2, ab_ri_m3, ab_ri_m4, ab_ri_m5, ab_ri_m11, ab_ri_m13, ab_ri_m14, ab_ri_10, hwr, Int.le_refl, q]
  · intro i i0 i9 ih
    have c : ¬ w ≤ i := by omega
    have a0 : 0 ≤ to + i := by omega
    have a1 : to + i < ((1463 : Nat) : Int) := by omega
    have b0 : 0 ≤ fr + i := by omega
    have b1 : fr + i < ((1463 : Nat) : Int) := by omega
    have e1 : ab_fi (fun j => (T j + T (j - to + fr) * x) % 101) T to (to + i) (to + i) = T (to + i) := ab_fi_no (by omega)
    have e2 : ab_fi (fun j => (T j + T (j - to + fr) * x) % 101) T to (to + i) (fr + i) = T (fr + i) := ab_fi_no (by omega)
    have r1 := h1 i i0 i9
    have r2 := h2 i i0 i9
    have m0 := Int.mul_nonneg r2.1 hx.1
    have m1 : T (fr + i) * x ≤ 100 * 100 := Int.mul_le_mul r2.2 hx.2 hx.1 (by omega)
    have m2 : 0 ≤ T (to + i) + T (fr + i) * x := by omega
    have es := ab_fi_s (g := fun j => (T j + T (j - to + fr) * x) % 101) (f := T) (a := to) (i := to + i) (x := (T (to + i) + T (fr + i) * x) % 101) (by omega) (by
      show _ = (T (to + i) + T (to + i - to + fr) * x) % 101
      rw [show to + i - to + fr = fr + i by omega])
    rw [← Int.add_assoc, ← es] at ih
    rw [s134_3]
    simp only [s134_5, s134_7, s134_10, s134_11, s134_14, s134_15, s134_17, s134_18, s134_19, s134_22, s134_23, s134_25, s134_26, s134_27, s134_28, s134_31, s134_32, s134_34, s134_35, s134_36, s134_37, s134_38, s134_39, s134_41, s134_42, s134_43, s134_46, true_and, and_true, true_implies, Option.toList_some, Option.toList_none, List.nil_append, List.cons_append, List.map_nil, List.map_cons, List.sum_nil, List.sum_cons, Nat.zero_le, ab_nl_n, ab_nl_i, ab_nl_r, ab_nl_0, ab_cat_i, ab_cat_r, ab_cat_l, Nat.reduceAdd, Nat.reduceLeDiff, Nat.add_zero, Nat.zero_add, reduceIte, List.getElem?_cons_succ, List.getElem?_cons_zero, List.length_cons, List.length_nil, List.set_cons_zero, List.set_cons_succ, true_or, or_true, Classical.not_not, not_true_eq_false, not_false_eq_true, ab_01r, ab_01z, ab_01n, false_implies, ab_tt, Nat.reduceLT, Nat.reduceEqDiff, Int.reduceNeg, Int.reduceLT, Int.reduceLE, Int.add_zero, Int.zero_add, List.append_nil, Int.reduceEq, ab_sum1, ab_ri_0, ab_ri_1, ab_ri_2, ab_ri_3, ab_ri_4, ab_ri_5, ab_ri_6, ab_ri_7, ab_ri_8, ab_ri_12, ab_ri_30, ab_ri_60, ab_ri_100, ab_ri_101, ab_ri_127, ab_ri_m1, ab_ri_m2, ab_ri_m3, ab_ri_m4, ab_ri_m5, ab_ri_m11, ab_ri_m13, ab_ri_m14, ab_ri_10, ab_fd, ab_fs, ab_ai, ab_as, ab_fit, ab_tyf, tyX12, ab_mg_0, ab_mg_1, ab_mg_2, ab_mg_3, ab_mg_4, ab_mg_5, ab_mg_6, ab_mg_7, ab_mg_8, ab_mg_9, ab_mg_10, ab_mg_11, ab_mg_12, ab_mg_13, ab_mg_14, ab_mg_15, ab_mg_16, ab_mg_17, ab_mg_18, ab_mg_19, ab_mg_20, ab_mg_21, ab_mg_22, ab_mg_23, ab_mg_24, ab_mg_25, ab_mg_26, ab_mg_27, ab_mg_28, ab_mg_29, ab_mg_30, ab_mg_31, ab_mg_32, ab_mg_33, ab_ms_8, ab_ms_10, ab_ms_11, ab_ms_17, ab_ms_21, ab_ms_22, ab_ms_24, ab_ms_25, ab_ms_26, ab_ms_29, ab_ms_32, ab_mol_l, Nat.reduceLT, Nat.reduceLeDiff, H68, ab_hs_self, ab_hs_hs, hwr, c, a0, a1, b0, b1, e1, e2, ab_md m2, ih] <;> omega
/-- what a row holds after i steps of the sum -/
def ab_rs (L : Int → Int) (b t bt : Int) (i : Nat) : Int → Int := fun k => if 0 ≤ k ∧ k < ab_wd t then ab_exs (ab_AT L) (ab_REST b) (ab_START t + k) (ab_START bt) i % 101 else 0
theorem ab_rs_r {b t bt k : Int} {i : Nat} : 0 ≤ ab_rs L b t bt i k ∧ ab_rs L b t bt i k ≤ 100 := by
  unfold ab_rs
  split <;> omega
theorem ab_rs_s {b t bt : Int} {i : Nat} : ab_rs L b t bt (i + 1) = fun k => if 0 ≤ k ∧ k < ab_wd t then (ab_rs L b t bt i k + ab_AT L ((ab_START bt + i) * 19 + (ab_START t + k)) * ab_AT L (ab_REST b * 19 + (ab_START bt + i))) % 101 else ab_rs L b t bt i k := by
  funext k
  unfold ab_rs
  by_cases c : 0 ≤ k ∧ k < ab_wd t
  · rw [if_pos c, if_pos c, if_pos c, ab_exs, Int.mul_comm (ab_AT L (ab_REST b * 19 + (ab_START bt + i)))]
    generalize ab_exs (ab_AT L) (ab_REST b) (ab_START t + k) (ab_START bt) i = x
    generalize ab_AT L ((ab_START bt + i) * 19 + (ab_START t + k)) * ab_AT L (ab_REST b * 19 + (ab_START bt + i)) = y
    omega
  · rw [if_neg c, if_neg c, if_neg c]
theorem ab_jn_k0 {k : Int} (h0 : 1 ≤ k) (h1 : k ≤ 5) : ab_jn k 0 (ab_START k) (ab_wd k).toNat = ab_START k := ab_tb_all (P := fun k => 1 ≤ k → ab_jn k 0 (ab_START k) (ab_wd k).toNat = ab_START k) (m := 6) (by decide +kernel) (by omega) (by omega) h0
theorem ab_jn_in {k b t : Int} (hb : ab_bb b) (h1 : 1 ≤ k) (ht : k + ab_LV b = t) (h2 : t ≤ 5) (h3 : ab_FIRST b ≤ k) : ab_START t ≤ ab_jn k b (ab_START t) (ab_wd t).toNat ∧ ab_jn k b (ab_START t) (ab_wd t).toNat < ab_START t + ab_wd t := by
  have lb := ab_lv_r hb
  refine ⟨(ab_jn_r _).1, ?_⟩
  have := ab_tb_all (P := fun b => ∀ k : Fin 6, (1 : Int) ≤ k.val → (k.val : Int) + ab_LV b ≤ 5 → ab_FIRST b ≤ k.val → ab_jn k.val b (ab_START (k.val + ab_LV b)) (ab_wd (k.val + ab_LV b)).toNat < ab_START (k.val + ab_LV b) + ab_wd (k.val + ab_LV b)) (m := 19) (by decide +kernel) hb.1 hb.2 ⟨k.toNat, by omega⟩
  simp only [Int.toNat_of_nonneg (show 0 ≤ k by omega)] at this
  rw [← ht]
  exact this h1 (by omega) h3
/-- put in order at once: one basis vector -/
theorem ab_AT_join {b k t c : Int} (hb : ab_bb b) (hc : ab_bb c) (hlc : ab_LV c = t) (h1 : 1 ≤ k) (ht : k + ab_LV b = t) (h3 : ab_FIRST b ≤ k) (h5 : t ≤ 5) : ab_AT L (b * 19 + c) = if c = ab_jn k b (ab_START t) (ab_wd t).toNat then 1 else 0 := by
  have lb := ab_lv_r hb
  rw [ab_AT_eq hb hc, ab_asx, hlc]
  by_cases c1 : b = 0
  · subst c1
    have l0 := ab_lv_0
    have ek : k = t := by omega
    rw [if_pos rfl, ek, ab_jn_k0 (by omega) h5]
    by_cases e : c = ab_START t
    · rw [if_pos e, if_pos e, if_neg (by omega)]
    · rw [if_neg e, if_neg e]
  · rw [if_neg c1, if_pos (by omega), show -(ab_LV b - t) = k by omega]
theorem mp_lays {m b : Int} (hmo : h 68 = some (ab_mo σ)) (hst : ab_mst h) (h69 : h 69 = some (ab_ia 4 L)) (hL : ab_lok L) (h82 : h 82 = some (ab_ia 1463 T)) (hm : -5 ≤ m ∧ m ≤ 5) (hb : ab_bb b) (hd : ∀ m' c k, -5 ≤ m' → m' ≤ 5 → ab_bb c → ab_LENGTH c < ab_LENGTH b → 0 ≤ k → k < 7 → T (ab_row m' c + k) = ab_mte L m' c k)
    (q : Q none (ab_hs h 82 (ab_ia 1463 (ab_fi (ab_MT L) T (ab_row m b) (ab_row m b + 7)))) n) : ab_G 135 0 [some (vr 68), some (vi m), some (vi b), none, none, none, none, none, none, none, none, none, none, none] [] h n (0, 0) Q := by
  have b0 := hb.1
  have b19 : b < ((19 : Nat) : Int) := hb.2
  have hrr := ab_row_r hm hb
  have lv := ab_lv_r hb
  have lb := ab_first_r hb.1 hb.2
  have H68 : ∀ c, ab_hs h 82 c 68 = some (ab_mo σ) := fun c => (ab_hs_ne (by decide)).trans hmo
  have H69 : ∀ c, ab_hs h 82 c 69 = some (ab_ia 4 L) := fun c => (ab_hs_ne (by decide)).trans h69
  have HST : ∀ c, ab_mst (ab_hs h 82 c) := fun c => ab_mst_hs (by decide) hst
  have h7 : ab_inR 7 = True := eq_true (by omega)
  have hmr : ab_inR m = True := eq_true (by omega)
  -- the end: a row as it must be
  have fin : ∀ R : Int → Int, (∀ k, 0 ≤ k → k < 7 → R k = ab_mte L m b k) → ab_rwf T (ab_row m b) R = ab_fi (ab_MT L) T (ab_row m b) (ab_row m b + 7) := by
    intro R hR
    refine ab_fi_ext (fun j j0 j1 => ?_) (fun j hj => ab_rwf_no hj)
    have e1 := ab_rwf_at (T := T) (R := R) (r := ab_row m b) (k := j - ab_row m b) (by omega)
    have e2 := ab_MT_at (L := L) (m := m) (k := j - ab_row m b) hb (by omega)
    rw [show ab_row m b + (j - ab_row m b) = j by omega] at e1 e2
    rw [e1, e2]
    exact hR _ (by omega) (by omega)
  simp only [s135_0, s135_1, s135_4, s135_5, s135_6, s135_7, s135_8, s135_9, s135_12, s135_14, s135_15, true_and, and_true, true_implies, Option.toList_some, Option.toList_none, List.nil_append, List.cons_append, List.map_nil, List.map_cons, List.sum_nil, List.sum_cons, Nat.zero_le, ab_nl_n, ab_nl_i, ab_nl_r, ab_nl_0, ab_cat_i, ab_cat_r, ab_cat_l, Nat.reduceAdd, Nat.reduceLeDiff, Nat.add_zero, Nat.zero_add, reduceIte, List.getElem?_cons_succ, List.getElem?_cons_zero, List.length_cons, List.length_nil, List.set_cons_zero, List.set_cons_succ, true_or, or_true, Classical.not_not, not_true_eq_false, not_false_eq_true, ab_01r, ab_01z, ab_01n, false_implies, ab_tt, Nat.reduceLT, Nat.reduceEqDiff, Int.reduceNeg, Int.reduceLT, Int.reduceLE, Int.add_zero, Int.zero_add, List.append_nil, Int.reduceEq, ab_sum1, ab_ri_0, ab_ri_1, ab_ri_2, ab_ri_3, ab_ri_4, ab_ri_5, ab_ri_6, ab_ri_7, ab_ri_8, ab_ri_12, ab_ri_30, ab_ri_60, ab_ri_100, ab_ri_101, ab_ri_127, ab_ri_m1, ab_ri_m2, ab_ri_m3, ab_ri_m4, ab_ri_m5, ab_ri_m11, ab_ri_m13, ab_ri_m14, ab_ri_10, ab_fd, ab_fs, ab_ai, ab_as, ab_fit, ab_tyf, tyX12, ab_mg_0, ab_mg_1, ab_mg_2, ab_mg_3, ab_mg_4, ab_mg_5, ab_mg_6, ab_mg_7, ab_mg_8, ab_mg_9, ab_mg_10, ab_mg_11, ab_mg_12, ab_mg_13, ab_mg_14, ab_mg_15, ab_mg_16, ab_mg_17, ab_mg_18, ab_mg_19, ab_mg_20, ab_mg_21, ab_mg_22, ab_mg_23, ab_mg_24, ab_mg_25, ab_mg_26, ab_mg_27, ab_mg_28, ab_mg_29, ab_mg_30, ab_mg_31, ab_mg_32, ab_mg_33, ab_ms_8, ab_ms_10, ab_ms_11, ab_ms_17, ab_ms_21, ab_ms_22, ab_ms_24, ab_ms_25, ab_ms_26, ab_ms_29, ab_ms_32, ab_mol_l, Nat.reduceLT, Nat.reduceLeDiff, hmo, hst.2.1, b0, b19, mp_row]
  generalize hr : ab_row m b = r at hrr fin q
  refine ab_lp 0 7 (fun i => [some (vr 68), some (vi m), some (vi b), some (vi (ab_LV b)), some (vi r), some (vi i), none, none, none, none, none, none, none, none]) (fun i => ab_hs h 82 (ab_ia 1463 (ab_fi (fun _ => 0) T r (r + i)))) (by decide) rfl (by rw [Int.add_zero, ab_fi_0, ab_hs_id h82]) ?_ ?_
  rotate_left
  · intro i i0 i9 ih
    have c : ¬ 7 ≤ i := by omega
    have a0 : 0 ≤ r + i := by omega
    have a1 : r + i < ((1463 : Nat) : Int) := by omega
    have es := ab_fi_s (g := fun _ => (0 : Int)) (f := T) (a := r) (i := r + i) (by omega) rfl
    rw [← Int.add_assoc, ← es] at ih
    rw [s135_17]
    simp only [s135_19, s135_21, s135_24, s135_25, s135_28, s135_30, s135_32, s135_33, s135_34, s135_35, s135_38, true_and, and_true, true_implies, Option.toList_some, Option.toList_none, List.nil_append, List.cons_append, List.map_nil, List.map_cons, List.sum_nil, List.sum_cons, Nat.zero_le, ab_nl_n, ab_nl_i, ab_nl_r, ab_nl_0, ab_cat_i, ab_cat_r, ab_cat_l, Nat.reduceAdd, Nat.reduceLeDiff, Nat.add_zero, Nat.zero_add, reduceIte, List.getElem?_cons_succ, List.getElem?_cons_zero, List.length_cons, List.length_nil, List.set_cons_zero, List.set_cons_succ, true_or, or_true, Classical.not_not, not_true_eq_false, not_false_eq_true, ab_01r, ab_01z, ab_01n, false_implies, ab_tt, Nat.reduceLT, Nat.reduceEqDiff, Int.reduceNeg, Int.reduceLT, Int.reduceLE, Int.add_zero, Int.zero_add, List.append_nil, Int.reduceEq, ab_sum1, ab_ri_0, ab_ri_1, ab_ri_2, ab_ri_3, ab_ri_4, ab_ri_5, ab_ri_6, ab_ri_7, ab_ri_8, ab_ri_12, ab_ri_30, ab_ri_60, ab_ri_100, ab_ri_101, ab_ri_127, ab_ri_m1, ab_ri_m2, ab_ri_m3, ab_ri_m4, ab_ri_m5, ab_ri_m11, ab_ri_m13, ab_ri_m14, ab_ri_10, ab_fd, ab_fs, ab_ai, ab_as, ab_fit, ab_tyf, tyX12, ab_mg_0, ab_mg_1, ab_mg_2, ab_mg_3, ab_mg_4, ab_mg_5, ab_mg_6, ab_mg_7, ab_mg_8, ab_mg_9, ab_mg_10, ab_mg_11, ab_mg_12, ab_mg_13, ab_mg_14, ab_mg_15, ab_mg_16, ab_mg_17, ab_mg_18, ab_mg_19, ab_mg_20, ab_mg_21, ab_mg_22, ab_mg_23, ab_mg_24, ab_mg_25, ab_mg_26, ab_mg_27, ab_mg_28, ab_mg_29, ab_mg_30, ab_mg_31, ab_mg_32, ab_mg_33, ab_ms_8, ab_ms_10, ab_ms_11, ab_ms_17, ab_ms_21, ab_ms_22, ab_ms_24, ab_ms_25, ab_ms_26, ab_ms_29, ab_ms_32, ab_mol_l, Nat.reduceLT, Nat.reduceLeDiff, H68, ab_hs_self, ab_hs_hs, h7, c, a0, a1, ih] <;> omega
  have e0 : ab_fi (fun _ => (0 : Int)) T r (r + 7) = ab_rwf T r (fun _ => 0) := rfl
  rw [e0, s135_17]
  have ltr : ab_inR (ab_LV b - m) := by omega
  by_cases c1 : 0 ≤ ab_LV b - m ∧ ab_LV b - m ≤ 5
  rotate_left
  · rw [← fin (fun _ => 0) (fun k k0 k7 => by unfold ab_mte; rw [if_neg (fun z => c1 z.1)])] at q
    simp only [s135_19, s135_21, s135_41, s135_42, s135_43, s135_44, s135_46, s135_48, s135_51, s135_54, true_and, and_true, true_implies, Option.toList_some, Option.toList_none, List.nil_append, List.cons_append, List.map_nil, List.map_cons, List.sum_nil, List.sum_cons, Nat.zero_le, ab_nl_n, ab_nl_i, ab_nl_r, ab_nl_0, ab_cat_i, ab_cat_r, ab_cat_l, Nat.reduceAdd, Nat.reduceLeDiff, Nat.add_zero, Nat.zero_add, reduceIte, List.getElem?_cons_succ, List.getElem?_cons_zero, List.length_cons, List.length_nil, List.set_cons_zero, List.set_cons_succ, true_or, or_true, Classical.not_not, not_true_eq_false, not_false_eq_true, ab_01r, ab_01z, ab_01n, false_implies, ab_tt, Nat.reduceLT, Nat.reduceEqDiff, Int.reduceNeg, Int.reduceLT, Int.reduceLE, Int.add_zero, Int.zero_add, List.append_nil, Int.reduceEq, ab_sum1, ab_ri_0, ab_ri_1, ab_ri_2, ab_ri_3, ab_ri_4, ab_ri_5, ab_ri_6, ab_ri_7, ab_ri_8, ab_ri_12, ab_ri_30, ab_ri_60, ab_ri_100, ab_ri_101, ab_ri_127, ab_ri_m1, ab_ri_m2, ab_ri_m3, ab_ri_m4, ab_ri_m5, ab_ri_m11, ab_ri_m13, ab_ri_m14, ab_ri_10, h7, Int.le_refl, mp_isLevel ltr, ab_01n, ab_01z, c1, q]
  generalize ht : ab_LV b - m = t at c1 ltr
  have hw := ab_wd_eq c1.1 (by omega)
  have t0 := c1.1
  have t7 : t < ((7 : Nat) : Int) := by omega
  have hlenr : ab_inR (ab_LENGTH b) = True := eq_true (by omega)
  have hmte : ∀ k, ab_mte L m b k = if k < ab_wd t then ab_AT L (b * 19 + (ab_START t + k)) else 0 := by
    intro k
    unfold ab_mte
    rw [ht]
    by_cases z : k < ab_wd t
    · rw [if_pos z, if_pos ⟨c1, z⟩]
    · rw [if_neg z, if_neg (fun y => z y.2)]
  simp only [s135_19, s135_21, s135_41, s135_42, s135_43, s135_44, s135_46, s135_48, s135_51, s135_54, s135_55, s135_56, s135_59, s135_61, s135_62, s135_64, s135_65, s135_68, s135_69, true_and, and_true, true_implies, Option.toList_some, Option.toList_none, List.nil_append, List.cons_append, List.map_nil, List.map_cons, List.sum_nil, List.sum_cons, Nat.zero_le, ab_nl_n, ab_nl_i, ab_nl_r, ab_nl_0, ab_cat_i, ab_cat_r, ab_cat_l, Nat.reduceAdd, Nat.reduceLeDiff, Nat.add_zero, Nat.zero_add, reduceIte, List.getElem?_cons_succ, List.getElem?_cons_zero, List.length_cons, List.length_nil, List.set_cons_zero, List.set_cons_succ, true_or, or_true, Classical.not_not, not_true_eq_false, not_false_eq_true, ab_01r, ab_01z, ab_01n, false_implies, ab_tt, Nat.reduceLT, Nat.reduceEqDiff, Int.reduceNeg, Int.reduceLT, Int.reduceLE, Int.add_zero, Int.zero_add, List.append_nil, Int.reduceEq, ab_sum1, ab_ri_0, ab_ri_1, ab_ri_2, ab_ri_3, ab_ri_4, ab_ri_5, ab_ri_6, ab_ri_7, ab_ri_8, ab_ri_12, ab_ri_30, ab_ri_60, ab_ri_100, ab_ri_101, ab_ri_127, ab_ri_m1, ab_ri_m2, ab_ri_m3, ab_ri_m4, ab_ri_m5, ab_ri_m11, ab_ri_m13, ab_ri_m14, ab_ri_10, ab_fd, ab_fs, ab_ai, ab_as, ab_fit, ab_tyf, tyX12, ab_mg_0, ab_mg_1, ab_mg_2, ab_mg_3, ab_mg_4, ab_mg_5, ab_mg_6, ab_mg_7, ab_mg_8, ab_mg_9, ab_mg_10, ab_mg_11, ab_mg_12, ab_mg_13, ab_mg_14, ab_mg_15, ab_mg_16, ab_mg_17, ab_mg_18, ab_mg_19, ab_mg_20, ab_mg_21, ab_mg_22, ab_mg_23, ab_mg_24, ab_mg_25, ab_mg_26, ab_mg_27, ab_mg_28, ab_mg_29, ab_mg_30, ab_mg_31, ab_mg_32, ab_mg_33, ab_ms_8, ab_ms_10, ab_ms_11, ab_ms_17, ab_ms_21, ab_ms_22, ab_ms_24, ab_ms_25, ab_ms_26, ab_ms_29, ab_ms_32, ab_mol_l, Nat.reduceLT, Nat.reduceLeDiff, H68, (HST _).1, (HST _).2.2.1, h7, Int.le_refl, mp_isLevel ltr, ab_01n, ab_01z, ht, c1, t0, t7, b0, b19]
  by_cases c2 : b = 0
  · have el := (ab_len_0 hb).mpr c2
    rw [c2, ab_lv_0] at ht
    have mt : -m = t := by omega
    by_cases c3 : m = 0
    · have c3t : (m = 0) = True := eq_true c3
      have z4 : (2 : Int) < ((4 : Nat) : Int) := by omega
      have a1 : r < ((1463 : Nat) : Int) := by omega
      have a0 := hrr.1
      have er := ab_rwf_ui (T := T) (R := fun _ => 0) (r := r) (k := 0) (x := L 2) (by decide)
      rw [Int.add_zero] at er
      rw [← fin (ab_ui (fun _ => 0) 0 (L 2)) (fun k k0 k7 => by
        rw [hmte, c2]
        have t00 : t = 0 := by omega
        by_cases e : k = 0
        · subst e
          rw [ab_ui_at, if_pos (by omega), t00, ab_AT_eq (by decide) (by decide)]
          rfl
        · rw [ab_ui_ne e, t00, if_neg (by have : ab_wd 0 = 1 := rfl; omega)]), ← er] at q
      simp only [s135_70, s135_73, s135_74, s135_77, s135_78, s135_81, s135_83, s135_84, s135_87, s135_88, s135_89, s135_90, s135_93, s135_94, s135_97, s135_98, s135_101, s135_103, s135_104, s135_105, s135_106, s135_107, s135_108, s135_111, s135_112, s135_114, s135_115, s135_116, s135_117, true_and, and_true, true_implies, Option.toList_some, Option.toList_none, List.nil_append, List.cons_append, List.map_nil, List.map_cons, List.sum_nil, List.sum_cons, Nat.zero_le, ab_nl_n, ab_nl_i, ab_nl_r, ab_nl_0, ab_cat_i, ab_cat_r, ab_cat_l, Nat.reduceAdd, Nat.reduceLeDiff, Nat.add_zero, Nat.zero_add, reduceIte, List.getElem?_cons_succ, List.getElem?_cons_zero, List.length_cons, List.length_nil, List.set_cons_zero, List.set_cons_succ, true_or, or_true, Classical.not_not, not_true_eq_false, not_false_eq_true, ab_01r, ab_01z, ab_01n, false_implies, ab_tt, Nat.reduceLT, Nat.reduceEqDiff, Int.reduceNeg, Int.reduceLT, Int.reduceLE, Int.add_zero, Int.zero_add, List.append_nil, Int.reduceEq, ab_sum1, ab_ri_0, ab_ri_1, ab_ri_2, ab_ri_3, ab_ri_4, ab_ri_5, ab_ri_6, ab_ri_7, ab_ri_8, ab_ri_12, ab_ri_30, ab_ri_60, ab_ri_100, ab_ri_101, ab_ri_127, ab_ri_m1, ab_ri_m2, ab_ri_m3, ab_ri_m4, ab_ri_m5, ab_ri_m11, ab_ri_m13, ab_ri_m14, ab_ri_10, ab_fd, ab_fs, ab_ai, ab_as, ab_fit, ab_tyf, tyX12, ab_mg_0, ab_mg_1, ab_mg_2, ab_mg_3, ab_mg_4, ab_mg_5, ab_mg_6, ab_mg_7, ab_mg_8, ab_mg_9, ab_mg_10, ab_mg_11, ab_mg_12, ab_mg_13, ab_mg_14, ab_mg_15, ab_mg_16, ab_mg_17, ab_mg_18, ab_mg_19, ab_mg_20, ab_mg_21, ab_mg_22, ab_mg_23, ab_mg_24, ab_mg_25, ab_mg_26, ab_mg_27, ab_mg_28, ab_mg_29, ab_mg_30, ab_mg_31, ab_mg_32, ab_mg_33, ab_ms_8, ab_ms_10, ab_ms_11, ab_ms_17, ab_ms_21, ab_ms_22, ab_ms_24, ab_ms_25, ab_ms_26, ab_ms_29, ab_ms_32, ab_mol_l, Nat.reduceLT, Nat.reduceLeDiff, H68, H69, ab_hs_self, ab_hs_hs, el, c3t, hmr, z4, a0, a1, Int.reduceLE, q] <;> omega
    · have mneg : m < 0 := by omega
      have mnn : ¬ 0 ≤ m := by omega
      have pl := ab_pl_join (k := -m) hb (by omega) (by rw [c2, ab_lv_0]; omega) (by rw [c2]; show (0 : Int) ≤ -m; omega)
      rw [c2, ab_lv_0, Int.add_zero, ab_jn_k0 (by omega) (by omega), mt] at pl
      have er := ab_rwf_ui (T := T) (R := fun _ => 0) (r := r) (k := 0) (x := 1) (by decide)
      rw [Int.add_zero] at er
      have ei : r + ab_START t - ab_START t = r := by omega
      have a1 : r < ((1463 : Nat) : Int) := by omega
      have a0 : 0 ≤ r := hrr.1
      rw [← fin (ab_ui (fun _ => 0) 0 1) (fun k k0 k7 => by
        rw [hmte, c2]
        by_cases z : k < ab_wd t
        · have lc := ab_lv_at t0 c1.2 k0 z
          rw [if_pos z, ab_AT_join (b := 0) (k := t) (by decide) ⟨by omega, by omega⟩ lc (by omega) (by rw [ab_lv_0]; omega) (by show (0 : Int) ≤ t; omega) c1.2, ab_jn_k0 (by omega) (by omega)]
          by_cases e : k = 0
          · rw [e, ab_ui_at, if_pos (by omega)]
          · rw [ab_ui_ne e, if_neg (by omega)]
        · rw [if_neg z, ab_ui_ne (by omega)]), ← er] at q
      have bi : ab_inR (-m) := by omega
      simp only [s135_70, s135_73, s135_74, s135_77, s135_78, s135_81, s135_83, s135_84, s135_87, s135_88, s135_89, s135_90, s135_93, s135_94, s135_97, s135_98, s135_101, s135_103, s135_104, s135_105, s135_106, s135_107, s135_108, true_and, and_true, true_implies, Option.toList_some, Option.toList_none, List.nil_append, List.cons_append, List.map_nil, List.map_cons, List.sum_nil, List.sum_cons, Nat.zero_le, ab_nl_n, ab_nl_i, ab_nl_r, ab_nl_0, ab_cat_i, ab_cat_r, ab_cat_l, Nat.reduceAdd, Nat.reduceLeDiff, Nat.add_zero, Nat.zero_add, reduceIte, List.getElem?_cons_succ, List.getElem?_cons_zero, List.length_cons, List.length_nil, List.set_cons_zero, List.set_cons_succ, true_or, or_true, Classical.not_not, not_true_eq_false, not_false_eq_true, ab_01r, ab_01z, ab_01n, false_implies, ab_tt, Nat.reduceLT, Nat.reduceEqDiff, Int.reduceNeg, Int.reduceLT, Int.reduceLE, Int.add_zero, Int.zero_add, List.append_nil, Int.reduceEq, ab_sum1, ab_ri_0, ab_ri_1, ab_ri_2, ab_ri_3, ab_ri_4, ab_ri_5, ab_ri_6, ab_ri_7, ab_ri_8, ab_ri_12, ab_ri_30, ab_ri_60, ab_ri_100, ab_ri_101, ab_ri_127, ab_ri_m1, ab_ri_m2, ab_ri_m3, ab_ri_m4, ab_ri_m5, ab_ri_m11, ab_ri_m13, ab_ri_m14, ab_ri_10, ab_fd, ab_fs, ab_ai, ab_as, ab_fit, ab_tyf, tyX12, ab_mg_0, ab_mg_1, ab_mg_2, ab_mg_3, ab_mg_4, ab_mg_5, ab_mg_6, ab_mg_7, ab_mg_8, ab_mg_9, ab_mg_10, ab_mg_11, ab_mg_12, ab_mg_13, ab_mg_14, ab_mg_15, ab_mg_16, ab_mg_17, ab_mg_18, ab_mg_19, ab_mg_20, ab_mg_21, ab_mg_22, ab_mg_23, ab_mg_24, ab_mg_25, ab_mg_26, ab_mg_27, ab_mg_28, ab_mg_29, ab_mg_30, ab_mg_31, ab_mg_32, ab_mg_33, ab_ms_8, ab_ms_10, ab_ms_11, ab_ms_17, ab_ms_21, ab_ms_22, ab_ms_24, ab_ms_25, ab_ms_26, ab_ms_29, ab_ms_32, ab_mol_l, Nat.reduceLT, Nat.reduceLeDiff, H68, ab_vc, ab_sv_12_119, ab_sv_12_119, ab_sv_12_119, ab_sv_12_100, ab_sv_12_119, ab_sv_12_100, ab_sv_12_123, ab_sv_12_110, ab_sv_12_100, ab_sv_12_123, ab_sv_12_113, el, c3, mneg, mnn, hmr]
      (repeat refine And.intro (by omega) ?_)
      refine mp_placeOf (H68 _) (HST _) (by omega) hb (by decide) (by omega) ?_
      rw [c2, mt, pl]
      simp only [s135_111, s135_112, s135_114, s135_115, s135_116, s135_117, true_and, and_true, true_implies, Option.toList_some, Option.toList_none, List.nil_append, List.cons_append, List.map_nil, List.map_cons, List.sum_nil, List.sum_cons, Nat.zero_le, ab_nl_n, ab_nl_i, ab_nl_r, ab_nl_0, ab_cat_i, ab_cat_r, ab_cat_l, Nat.reduceAdd, Nat.reduceLeDiff, Nat.add_zero, Nat.zero_add, reduceIte, List.getElem?_cons_succ, List.getElem?_cons_zero, List.length_cons, List.length_nil, List.set_cons_zero, List.set_cons_succ, true_or, or_true, Classical.not_not, not_true_eq_false, not_false_eq_true, ab_01r, ab_01z, ab_01n, false_implies, ab_tt, Nat.reduceLT, Nat.reduceEqDiff, Int.reduceNeg, Int.reduceLT, Int.reduceLE, Int.add_zero, Int.zero_add, List.append_nil, Int.reduceEq, ab_sum1, ab_ri_0, ab_ri_1, ab_ri_2, ab_ri_3, ab_ri_4, ab_ri_5, ab_ri_6, ab_ri_7, ab_ri_8, ab_ri_12, ab_ri_30, ab_ri_60, ab_ri_100, ab_ri_101, ab_ri_127, ab_ri_m1, ab_ri_m2, ab_ri_m3, ab_ri_m4, ab_ri_m5, ab_ri_m11, ab_ri_m13, ab_ri_m14, ab_ri_10, ab_fd, ab_fs, ab_ai, ab_as, ab_fit, ab_tyf, tyX12, ab_mg_0, ab_mg_1, ab_mg_2, ab_mg_3, ab_mg_4, ab_mg_5, ab_mg_6, ab_mg_7, ab_mg_8, ab_mg_9, ab_mg_10, ab_mg_11, ab_mg_12, ab_mg_13, ab_mg_14, ab_mg_15, ab_mg_16, ab_mg_17, ab_mg_18, ab_mg_19, ab_mg_20, ab_mg_21, ab_mg_22, ab_mg_23, ab_mg_24, ab_mg_25, ab_mg_26, ab_mg_27, ab_mg_28, ab_mg_29, ab_mg_30, ab_mg_31, ab_mg_32, ab_mg_33, ab_ms_8, ab_ms_10, ab_ms_11, ab_ms_17, ab_ms_21, ab_ms_22, ab_ms_24, ab_ms_25, ab_ms_26, ab_ms_29, ab_ms_32, ab_mol_l, Nat.reduceLT, Nat.reduceLeDiff, ab_hs_self, ab_hs_hs, ei, a0, a1, q]
  · have el : ¬ ab_LENGTH b = 0 := fun z => c2 ((ab_len_0 hb).mp z)
    obtain ⟨k1, k2, k3, k4, k5, k6⟩ := ab_lv_k hb c2
    have nf := ab_num_0 hb
    have x0 : 0 ≤ 5 * b := by omega
    have x1 : 5 * b < ((95 : Nat) : Int) := by omega
    have hkr : ab_inR (ab_FIRST b) = True := eq_true (by omega)
    by_cases c3 : ab_FIRST b ≤ -m
    · have c3n : ¬ -m < ab_FIRST b := by omega
      have pl := ab_pl_join (k := -m) hb (by omega) (by omega) c3
      rw [show -m + ab_LV b = t by omega] at pl
      have ji := ab_jn_in (k := -m) hb (by omega) (by omega : -m + ab_LV b = t) c1.2 c3
      have er := ab_rwf_ui (T := T) (R := fun _ => 0) (r := r) (k := ab_jn (-m) b (ab_START t) (ab_wd t).toNat - ab_START t) (x := 1) (by omega)
      have ei : r + ab_jn (-m) b (ab_START t) (ab_wd t).toNat - ab_START t = r + (ab_jn (-m) b (ab_START t) (ab_wd t).toNat - ab_START t) := by omega
      rw [← fin (ab_ui (fun _ => 0) (ab_jn (-m) b (ab_START t) (ab_wd t).toNat - ab_START t) 1) (fun k k0 k7 => by
        rw [hmte]
        by_cases z : k < ab_wd t
        · have lc := ab_lv_at t0 c1.2 k0 z
          rw [if_pos z, ab_AT_join (b := b) (k := -m) hb ⟨by omega, by omega⟩ lc (by omega) (by omega) c3 c1.2]
          by_cases e : k = ab_jn (-m) b (ab_START t) (ab_wd t).toNat - ab_START t
          · rw [← e, ab_ui_at, if_pos (by omega)]
          · rw [ab_ui_ne e, if_neg (by omega)]
        · rw [if_neg z, ab_ui_ne (by omega)]), ← er] at q
      simp only [s135_70, s135_118, s135_119, s135_122, s135_123, s135_124, s135_125, s135_126, s135_128, s135_129, s135_130, s135_132, s135_135, s135_136, s135_139, s135_141, s135_142, s135_143, s135_144, s135_145, s135_146, true_and, and_true, true_implies, Option.toList_some, Option.toList_none, List.nil_append, List.cons_append, List.map_nil, List.map_cons, List.sum_nil, List.sum_cons, Nat.zero_le, ab_nl_n, ab_nl_i, ab_nl_r, ab_nl_0, ab_cat_i, ab_cat_r, ab_cat_l, Nat.reduceAdd, Nat.reduceLeDiff, Nat.add_zero, Nat.zero_add, reduceIte, List.getElem?_cons_succ, List.getElem?_cons_zero, List.length_cons, List.length_nil, List.set_cons_zero, List.set_cons_succ, true_or, or_true, Classical.not_not, not_true_eq_false, not_false_eq_true, ab_01r, ab_01z, ab_01n, false_implies, ab_tt, Nat.reduceLT, Nat.reduceEqDiff, Int.reduceNeg, Int.reduceLT, Int.reduceLE, Int.add_zero, Int.zero_add, List.append_nil, Int.reduceEq, ab_sum1, ab_ri_0, ab_ri_1, ab_ri_2, ab_ri_3, ab_ri_4, ab_ri_5, ab_ri_6, ab_ri_7, ab_ri_8, ab_ri_12, ab_ri_30, ab_ri_60, ab_ri_100, ab_ri_101, ab_ri_127, ab_ri_m1, ab_ri_m2, ab_ri_m3, ab_ri_m4, ab_ri_m5, ab_ri_m11, ab_ri_m13, ab_ri_m14, ab_ri_10, ab_fd, ab_fs, ab_ai, ab_as, ab_fit, ab_tyf, tyX12, ab_mg_0, ab_mg_1, ab_mg_2, ab_mg_3, ab_mg_4, ab_mg_5, ab_mg_6, ab_mg_7, ab_mg_8, ab_mg_9, ab_mg_10, ab_mg_11, ab_mg_12, ab_mg_13, ab_mg_14, ab_mg_15, ab_mg_16, ab_mg_17, ab_mg_18, ab_mg_19, ab_mg_20, ab_mg_21, ab_mg_22, ab_mg_23, ab_mg_24, ab_mg_25, ab_mg_26, ab_mg_27, ab_mg_28, ab_mg_29, ab_mg_30, ab_mg_31, ab_mg_32, ab_mg_33, ab_ms_8, ab_ms_10, ab_ms_11, ab_ms_17, ab_ms_21, ab_ms_22, ab_ms_24, ab_ms_25, ab_ms_26, ab_ms_29, ab_ms_32, ab_mol_l, Nat.reduceLT, Nat.reduceLeDiff, H68, (HST _).2.2.2, ab_vc, ab_sv_12_119, ab_sv_12_119, ab_sv_12_119, ab_sv_12_100, ab_sv_12_119, ab_sv_12_100, ab_sv_12_123, ab_sv_12_110, ab_sv_12_100, ab_sv_12_123, ab_sv_12_113, el, hlenr, x0, x1, nf, c3, c3n, hkr]
      (repeat refine And.intro (by omega) ?_)
      refine mp_placeOf (H68 _) (HST _) (by omega) hb (by decide) (by omega) ?_
      rw [pl]
      simp only [s135_149, s135_150, s135_152, s135_153, s135_154, s135_155, true_and, and_true, true_implies, Option.toList_some, Option.toList_none, List.nil_append, List.cons_append, List.map_nil, List.map_cons, List.sum_nil, List.sum_cons, Nat.zero_le, ab_nl_n, ab_nl_i, ab_nl_r, ab_nl_0, ab_cat_i, ab_cat_r, ab_cat_l, Nat.reduceAdd, Nat.reduceLeDiff, Nat.add_zero, Nat.zero_add, reduceIte, List.getElem?_cons_succ, List.getElem?_cons_zero, List.length_cons, List.length_nil, List.set_cons_zero, List.set_cons_succ, true_or, or_true, Classical.not_not, not_true_eq_false, not_false_eq_true, ab_01r, ab_01z, ab_01n, false_implies, ab_tt, Nat.reduceLT, Nat.reduceEqDiff, Int.reduceNeg, Int.reduceLT, Int.reduceLE, Int.add_zero, Int.zero_add, List.append_nil, Int.reduceEq, ab_sum1, ab_ri_0, ab_ri_1, ab_ri_2, ab_ri_3, ab_ri_4, ab_ri_5, ab_ri_6, ab_ri_7, ab_ri_8, ab_ri_12, ab_ri_30, ab_ri_60, ab_ri_100, ab_ri_101, ab_ri_127, ab_ri_m1, ab_ri_m2, ab_ri_m3, ab_ri_m4, ab_ri_m5, ab_ri_m11, ab_ri_m13, ab_ri_m14, ab_ri_10, ab_fd, ab_fs, ab_ai, ab_as, ab_fit, ab_tyf, tyX12, ab_mg_0, ab_mg_1, ab_mg_2, ab_mg_3, ab_mg_4, ab_mg_5, ab_mg_6, ab_mg_7, ab_mg_8, ab_mg_9, ab_mg_10, ab_mg_11, ab_mg_12, ab_mg_13, ab_mg_14, ab_mg_15, ab_mg_16, ab_mg_17, ab_mg_18, ab_mg_19, ab_mg_20, ab_mg_21, ab_mg_22, ab_mg_23, ab_mg_24, ab_mg_25, ab_mg_26, ab_mg_27, ab_mg_28, ab_mg_29, ab_mg_30, ab_mg_31, ab_mg_32, ab_mg_33, ab_ms_8, ab_ms_10, ab_ms_11, ab_ms_17, ab_ms_21, ab_ms_22, ab_ms_24, ab_ms_25, ab_ms_26, ab_ms_29, ab_ms_32, ab_mol_l, Nat.reduceLT, Nat.reduceLeDiff, ab_hs_self, ab_hs_hs, ei, q]
      omega
    · have c3n : -m < ab_FIRST b := by omega
      have hnj : ¬ ab_FIRST b ≤ -(ab_LV b - t) := by omega
      simp only [s135_70, s135_118, s135_119, s135_122, s135_123, s135_124, s135_125, s135_126, s135_128, s135_129, s135_130, s135_132, s135_156, s135_157, s135_158, s135_159, s135_160, true_and, and_true, true_implies, Option.toList_some, Option.toList_none, List.nil_append, List.cons_append, List.map_nil, List.map_cons, List.sum_nil, List.sum_cons, Nat.zero_le, ab_nl_n, ab_nl_i, ab_nl_r, ab_nl_0, ab_cat_i, ab_cat_r, ab_cat_l, Nat.reduceAdd, Nat.reduceLeDiff, Nat.add_zero, Nat.zero_add, reduceIte, List.getElem?_cons_succ, List.getElem?_cons_zero, List.length_cons, List.length_nil, List.set_cons_zero, List.set_cons_succ, true_or, or_true, Classical.not_not, not_true_eq_false, not_false_eq_true, ab_01r, ab_01z, ab_01n, false_implies, ab_tt, Nat.reduceLT, Nat.reduceEqDiff, Int.reduceNeg, Int.reduceLT, Int.reduceLE, Int.add_zero, Int.zero_add, List.append_nil, Int.reduceEq, ab_sum1, ab_ri_0, ab_ri_1, ab_ri_2, ab_ri_3, ab_ri_4, ab_ri_5, ab_ri_6, ab_ri_7, ab_ri_8, ab_ri_12, ab_ri_30, ab_ri_60, ab_ri_100, ab_ri_101, ab_ri_127, ab_ri_m1, ab_ri_m2, ab_ri_m3, ab_ri_m4, ab_ri_m5, ab_ri_m11, ab_ri_m13, ab_ri_m14, ab_ri_10, ab_fd, ab_fs, ab_ai, ab_as, ab_fit, ab_tyf, tyX12, ab_mg_0, ab_mg_1, ab_mg_2, ab_mg_3, ab_mg_4, ab_mg_5, ab_mg_6, ab_mg_7, ab_mg_8, ab_mg_9, ab_mg_10, ab_mg_11, ab_mg_12, ab_mg_13, ab_mg_14, ab_mg_15, ab_mg_16, ab_mg_17, ab_mg_18, ab_mg_19, ab_mg_20, ab_mg_21, ab_mg_22, ab_mg_23, ab_mg_24, ab_mg_25, ab_mg_26, ab_mg_27, ab_mg_28, ab_mg_29, ab_mg_30, ab_mg_31, ab_mg_32, ab_mg_33, ab_ms_8, ab_ms_10, ab_ms_11, ab_ms_17, ab_ms_21, ab_ms_22, ab_ms_24, ab_ms_25, ab_ms_26, ab_ms_29, ab_ms_32, ab_mol_l, Nat.reduceLT, Nat.reduceLeDiff, H68, (HST _).2.2.2, ab_vc, ab_sv_12_119, ab_sv_12_119, ab_sv_12_119, ab_sv_12_100, ab_sv_12_119, ab_sv_12_100, ab_sv_12_123, ab_sv_12_110, ab_sv_12_100, ab_sv_12_123, ab_sv_12_113, el, hlenr, x0, x1, nf, c3n, hkr]
      (repeat refine And.intro (by omega) ?_)
      refine mp_placeOf (H68 _) (HST _) (by decide) hb (by decide) (by have := (ab_len_0 hb); omega) ?_
      rw [ab_pl_rest hb c2]
      have ebt : ab_LV b - ab_FIRST b - m = t - ab_FIRST b := by omega
      simp only [s135_163, s135_165, s135_166, s135_168, s135_169, s135_170, s135_171, s135_173, s135_174, true_and, and_true, true_implies, Option.toList_some, Option.toList_none, List.nil_append, List.cons_append, List.map_nil, List.map_cons, List.sum_nil, List.sum_cons, Nat.zero_le, ab_nl_n, ab_nl_i, ab_nl_r, ab_nl_0, ab_cat_i, ab_cat_r, ab_cat_l, Nat.reduceAdd, Nat.reduceLeDiff, Nat.add_zero, Nat.zero_add, reduceIte, List.getElem?_cons_succ, List.getElem?_cons_zero, List.length_cons, List.length_nil, List.set_cons_zero, List.set_cons_succ, true_or, or_true, Classical.not_not, not_true_eq_false, not_false_eq_true, ab_01r, ab_01z, ab_01n, false_implies, ab_tt, Nat.reduceLT, Nat.reduceEqDiff, Int.reduceNeg, Int.reduceLT, Int.reduceLE, Int.add_zero, Int.zero_add, List.append_nil, Int.reduceEq, ab_sum1, ab_ri_0, ab_ri_1, ab_ri_2, ab_ri_3, ab_ri_4, ab_ri_5, ab_ri_6, ab_ri_7, ab_ri_8, ab_ri_12, ab_ri_30, ab_ri_60, ab_ri_100, ab_ri_101, ab_ri_127, ab_ri_m1, ab_ri_m2, ab_ri_m3, ab_ri_m4, ab_ri_m5, ab_ri_m11, ab_ri_m13, ab_ri_m14, ab_ri_10, ebt]
      generalize hbt : t - ab_FIRST b = bt
      have hbt5 : bt ≤ 4 := by omega
      -- behind the sum
      have behind : ∀ R, (∀ k, R k = if 0 ≤ k ∧ k < ab_wd t then ab_exd (ab_AT L) (ab_REST b) bt (ab_START t + k) % 101 else 0) → ∀ i l11 l12 l13, ab_nl [l11, l12, l13] = true → ab_nl [l12, l13] = true → ab_nl [l13] = true → ab_G 135 323 [some (vr 68), some (vi m), some (vi b), some (vi (ab_LV b)), some (vi r), some (vi t), some (vi (ab_START t)), some (vi (ab_FIRST b)), some (vi (ab_REST b)), some (vi bt), some (vi i), l11, l12, l13] [] (ab_hs h 82 (ab_ia 1463 (ab_rwf T r R))) n (0, 0) Q := by
        intro R hR i l11 l12 l13 z11 z12 z13
        have hRr : ∀ k, 0 ≤ R k ∧ R k ≤ 100 := fun k => by rw [hR]; split <;> omega
        have hmk : -5 ≤ m - ab_FIRST b ∧ m - ab_FIRST b ≤ 5 := by
          have := (ab_lv_r k5).1
          omega
        have hmkr : ab_inR (m - ab_FIRST b) := by omega
        have hrn := ab_row_ne (m := m) (m' := m - ab_FIRST b) hb k5 (fun z => by have := ab_len_rest hb c2; rw [z] at this; omega)
        have hr2 := ab_row_r hmk k5
        rw [hr] at hrn
        have hTm : ∀ k, 0 ≤ k → k < 7 → T (ab_row (m - ab_FIRST b) (ab_REST b) + k) = ab_mte L (m - ab_FIRST b) (ab_REST b) k := fun k k0 k7 => hd _ _ k hmk.1 hmk.2 k5 (ab_len_rest hb c2) k0 k7
        have hsl := ab_sl_r (K := L 0) (m := m) (n := -ab_FIRST b) hm.1 hm.2 (by omega) (by omega)
        simp only [s135_323, s135_324, s135_326, s135_327, s135_330, s135_333, s135_334, s135_336, s135_337, s135_339, s135_340, s135_342, s135_345, s135_346, s135_347, s135_349, s135_350, true_and, and_true, true_implies, Option.toList_some, Option.toList_none, List.nil_append, List.cons_append, List.map_nil, List.map_cons, List.sum_nil, List.sum_cons, Nat.zero_le, ab_nl_n, ab_nl_i, ab_nl_r, ab_nl_0, ab_cat_i, ab_cat_r, ab_cat_l, Nat.reduceAdd, Nat.reduceLeDiff, Nat.add_zero, Nat.zero_add, reduceIte, List.getElem?_cons_succ, List.getElem?_cons_zero, List.length_cons, List.length_nil, List.set_cons_zero, List.set_cons_succ, true_or, or_true, Classical.not_not, not_true_eq_false, not_false_eq_true, ab_01r, ab_01z, ab_01n, false_implies, ab_tt, Nat.reduceLT, Nat.reduceEqDiff, Int.reduceNeg, Int.reduceLT, Int.reduceLE, Int.add_zero, Int.zero_add, List.append_nil, Int.reduceEq, ab_sum1, ab_ri_0, ab_ri_1, ab_ri_2, ab_ri_3, ab_ri_4, ab_ri_5, ab_ri_6, ab_ri_7, ab_ri_8, ab_ri_12, ab_ri_30, ab_ri_60, ab_ri_100, ab_ri_101, ab_ri_127, ab_ri_m1, ab_ri_m2, ab_ri_m3, ab_ri_m4, ab_ri_m5, ab_ri_m11, ab_ri_m13, ab_ri_m14, ab_ri_10, ab_fd, ab_fs, ab_ai, ab_as, ab_fit, ab_tyf, tyX12, ab_mg_0, ab_mg_1, ab_mg_2, ab_mg_3, ab_mg_4, ab_mg_5, ab_mg_6, ab_mg_7, ab_mg_8, ab_mg_9, ab_mg_10, ab_mg_11, ab_mg_12, ab_mg_13, ab_mg_14, ab_mg_15, ab_mg_16, ab_mg_17, ab_mg_18, ab_mg_19, ab_mg_20, ab_mg_21, ab_mg_22, ab_mg_23, ab_mg_24, ab_mg_25, ab_mg_26, ab_mg_27, ab_mg_28, ab_mg_29, ab_mg_30, ab_mg_31, ab_mg_32, ab_mg_33, ab_ms_8, ab_ms_10, ab_ms_11, ab_ms_17, ab_ms_21, ab_ms_22, ab_ms_24, ab_ms_25, ab_ms_26, ab_ms_29, ab_ms_32, ab_mol_l, Nat.reduceLT, Nat.reduceLeDiff, H68, ab_vc, ab_sv_12_119, ab_sv_12_119, ab_sv_12_119, ab_sv_12_100, ab_sv_12_119, ab_sv_12_100, ab_sv_12_123, ab_sv_12_110, ab_sv_12_100, ab_sv_12_123, ab_sv_12_113, mp_isMode hmkr, ab_01n, ab_01z, hmk, mp_row]
        refine mp_slope (H68 _) (H69 _) hL hm (by omega) ?_
        simp only [s135_353, s135_354, s135_356, s135_359, true_and, and_true, true_implies, Option.toList_some, Option.toList_none, List.nil_append, List.cons_append, List.map_nil, List.map_cons, List.sum_nil, List.sum_cons, Nat.zero_le, ab_nl_n, ab_nl_i, ab_nl_r, ab_nl_0, ab_cat_i, ab_cat_r, ab_cat_l, Nat.reduceAdd, Nat.reduceLeDiff, Nat.add_zero, Nat.zero_add, reduceIte, List.getElem?_cons_succ, List.getElem?_cons_zero, List.length_cons, List.length_nil, List.set_cons_zero, List.set_cons_succ, true_or, or_true, Classical.not_not, not_true_eq_false, not_false_eq_true, ab_01r, ab_01z, ab_01n, false_implies, ab_tt, Nat.reduceLT, Nat.reduceEqDiff, Int.reduceNeg, Int.reduceLT, Int.reduceLE, Int.add_zero, Int.zero_add, List.append_nil, Int.reduceEq, ab_sum1, ab_ri_0, ab_ri_1, ab_ri_2, ab_ri_3, ab_ri_4, ab_ri_5, ab_ri_6, ab_ri_7, ab_ri_8, ab_ri_12, ab_ri_30, ab_ri_60, ab_ri_100, ab_ri_101, ab_ri_127, ab_ri_m1, ab_ri_m2, ab_ri_m3, ab_ri_m4, ab_ri_m5, ab_ri_m11, ab_ri_m13, ab_ri_m14, ab_ri_10, ab_fd, ab_fs, ab_ai, ab_as, ab_fit, ab_tyf, tyX12, ab_mg_0, ab_mg_1, ab_mg_2, ab_mg_3, ab_mg_4, ab_mg_5, ab_mg_6, ab_mg_7, ab_mg_8, ab_mg_9, ab_mg_10, ab_mg_11, ab_mg_12, ab_mg_13, ab_mg_14, ab_mg_15, ab_mg_16, ab_mg_17, ab_mg_18, ab_mg_19, ab_mg_20, ab_mg_21, ab_mg_22, ab_mg_23, ab_mg_24, ab_mg_25, ab_mg_26, ab_mg_27, ab_mg_28, ab_mg_29, ab_mg_30, ab_mg_31, ab_mg_32, ab_mg_33, ab_ms_8, ab_ms_10, ab_ms_11, ab_ms_17, ab_ms_21, ab_ms_22, ab_ms_24, ab_ms_25, ab_ms_26, ab_ms_29, ab_ms_32, ab_mol_l, Nat.reduceLT, Nat.reduceLeDiff, H68, ab_vc, ab_sv_12_119, ab_sv_12_119, ab_sv_12_119, ab_sv_12_100, ab_sv_12_119, ab_sv_12_100, ab_sv_12_123, ab_sv_12_110, ab_sv_12_100, ab_sv_12_123, ab_sv_12_113, mp_many (H68 _) (HST _) c1]
        refine mp_addsTo (H68 _) ab_hs_self (by omega) (by omega) (by omega) (by omega) (by omega) (fun k k0 k1 => by rw [ab_rwf_at (by omega)]; exact hRr k) (fun k k0 k1 => by rw [ab_rwf_no (by omega), hTm k k0 (by omega)]; exact ab_mte_r hL) ?_
        rw [ab_hs_hs, ab_rwf_add (by omega) hrn]
        -- the row is now what the equation says but for the centre
        have hR2 : ∀ k, 0 ≤ k → k < ab_wd t → (R k + T (ab_row (m - ab_FIRST b) (ab_REST b) + k) * (ab_slp (L 0) m (-ab_FIRST b) % 101)) % 101 = ab_asy L (ab_AT L) b (ab_START t + k) := by
          intro k k0 k7
          have lc := ab_lv_at t0 c1.2 k0 k7
          rw [hR, if_pos ⟨k0, k7⟩, hTm k k0 (by omega), ab_mm]
          unfold ab_asy ab_mte
          rw [lc, hbt, show ab_LV (ab_REST b) - (m - ab_FIRST b) = t by omega, if_pos ⟨c1, k7⟩, show ab_LV b - t = m by omega]
        by_cases c4 : m = ab_FIRST b
        · have er : ab_LV (ab_REST b) = t := by omega
          have lr := ab_lv_r k5
          rw [er] at lr
          have ek : r + ab_REST b - ab_START t = r + (ab_REST b - ab_START t) := by omega
          have a0 : 0 ≤ r + (ab_REST b - ab_START t) := by omega
          have a1 : r + (ab_REST b - ab_START t) < ((1463 : Nat) : Int) := by omega
          have hva := hR2 (ab_REST b - ab_START t) (by omega) (by omega)
          have eat : ∀ R' : Int → Int, ab_rwf T r R' (r + (ab_REST b - ab_START t)) = R' (ab_REST b - ab_START t) := fun R' => ab_rwf_at (by omega)
          have eui : ∀ (R' : Int → Int) x, ab_ui (ab_rwf T r R') (r + (ab_REST b - ab_START t)) x = ab_rwf T r (ab_ui R' (ab_REST b - ab_START t) x) := fun R' x => ab_rwf_ui (by omega)
          have ra := ab_asy_r (L := L) (A := ab_AT L) (b := b) (c := ab_REST b)
          have ra2 : 0 ≤ ab_asy L (ab_AT L) b (ab_REST b) + ab_ce (L 0) m (L 1) (L 3) % 101 := by omega
          have hmt : ab_LV b - t = m := by omega
          rw [← fin (ab_ui (fun k => if 0 ≤ k ∧ k < ab_wd t then (R k + T (ab_row (m - ab_FIRST b) (ab_REST b) + k) * (ab_slp (L 0) m (-ab_FIRST b) % 101)) % 101 else R k) (ab_REST b - ab_START t) ((ab_asy L (ab_AT L) b (ab_REST b) + ab_ce (L 0) m (L 1) (L 3) % 101) % 101)) (fun k k0 k7 => by
            rw [hmte]
            by_cases z : k < ab_wd t
            · have lc := ab_lv_at t0 c1.2 k0 z
              rw [if_pos z, ab_AT_eq hb ⟨by omega, by omega⟩, ab_asx, if_neg c2, lc, if_neg hnj, hmt]
              by_cases e : k = ab_REST b - ab_START t
              · rw [e, ab_ui_at, if_pos ⟨c4, by omega⟩, show ab_START t + (ab_REST b - ab_START t) = ab_REST b by omega]
                generalize ab_ce (L 0) m (L 1) (L 3) = y
                generalize ab_asy L (ab_AT L) b (ab_REST b) = x
                omega
              · rw [ab_ui_ne e, if_pos ⟨k0, z⟩, if_neg (fun y => e (by omega))]
                exact hR2 k k0 z
            · rw [if_neg z, ab_ui_ne (by omega)]
              show (if 0 ≤ k ∧ k < ab_wd t then _ else R k) = _
              rw [if_neg (fun y => z y.2), hR, if_neg (fun y => z y.2)]), ← eui] at q
          have hva' : (if 0 ≤ ab_REST b - ab_START t ∧ ab_REST b - ab_START t < ab_wd t then (R (ab_REST b - ab_START t) + T (ab_row (m - ab_FIRST b) (ab_REST b) + (ab_REST b - ab_START t)) * (ab_slp (L 0) m (-ab_FIRST b) % 101)) % 101 else R (ab_REST b - ab_START t)) = ab_asy L (ab_AT L) b (ab_REST b) := by
            rw [if_pos (by omega), hva, show ab_START t + (ab_REST b - ab_START t) = ab_REST b by omega]
          have c4t : (m = ab_FIRST b) = True := eq_true c4
          simp only [s135_362, s135_363, s135_365, s135_368, s135_370, s135_372, s135_373, s135_375, s135_376, s135_378, s135_379, s135_382, s135_384, s135_385, s135_388, s135_390, s135_391, s135_392, s135_393, true_and, and_true, true_implies, Option.toList_some, Option.toList_none, List.nil_append, List.cons_append, List.map_nil, List.map_cons, List.sum_nil, List.sum_cons, Nat.zero_le, ab_nl_n, ab_nl_i, ab_nl_r, ab_nl_0, ab_cat_i, ab_cat_r, ab_cat_l, Nat.reduceAdd, Nat.reduceLeDiff, Nat.add_zero, Nat.zero_add, reduceIte, List.getElem?_cons_succ, List.getElem?_cons_zero, List.length_cons, List.length_nil, List.set_cons_zero, List.set_cons_succ, true_or, or_true, Classical.not_not, not_true_eq_false, not_false_eq_true, ab_01r, ab_01z, ab_01n, false_implies, ab_tt, Nat.reduceLT, Nat.reduceEqDiff, Int.reduceNeg, Int.reduceLT, Int.reduceLE, Int.add_zero, Int.zero_add, List.append_nil, Int.reduceEq, ab_sum1, ab_ri_0, ab_ri_1, ab_ri_2, ab_ri_3, ab_ri_4, ab_ri_5, ab_ri_6, ab_ri_7, ab_ri_8, ab_ri_12, ab_ri_30, ab_ri_60, ab_ri_100, ab_ri_101, ab_ri_127, ab_ri_m1, ab_ri_m2, ab_ri_m3, ab_ri_m4, ab_ri_m5, ab_ri_m11, ab_ri_m13, ab_ri_m14, ab_ri_10, ab_fd, ab_fs, ab_ai, ab_as, ab_fit, ab_tyf, tyX12, ab_mg_0, ab_mg_1, ab_mg_2, ab_mg_3, ab_mg_4, ab_mg_5, ab_mg_6, ab_mg_7, ab_mg_8, ab_mg_9, ab_mg_10, ab_mg_11, ab_mg_12, ab_mg_13, ab_mg_14, ab_mg_15, ab_mg_16, ab_mg_17, ab_mg_18, ab_mg_19, ab_mg_20, ab_mg_21, ab_mg_22, ab_mg_23, ab_mg_24, ab_mg_25, ab_mg_26, ab_mg_27, ab_mg_28, ab_mg_29, ab_mg_30, ab_mg_31, ab_mg_32, ab_mg_33, ab_ms_8, ab_ms_10, ab_ms_11, ab_ms_17, ab_ms_21, ab_ms_22, ab_ms_24, ab_ms_25, ab_ms_26, ab_ms_29, ab_ms_32, ab_mol_l, Nat.reduceLT, Nat.reduceLeDiff, H68, ab_hs_self, ab_vc, ab_sv_12_119, ab_sv_12_119, ab_sv_12_119, ab_sv_12_100, ab_sv_12_119, ab_sv_12_100, ab_sv_12_123, ab_sv_12_110, ab_sv_12_100, ab_sv_12_123, ab_sv_12_113, c4t, hmr, hkr, ek, a0, a1, eat, hva', z11]
          (repeat refine And.intro (by omega) ?_)
          refine mp_centre (H68 _) (H69 _) hL hm ?_
          simp only [s135_396, s135_397, s135_399, s135_400, s135_401, true_and, and_true, true_implies, Option.toList_some, Option.toList_none, List.nil_append, List.cons_append, List.map_nil, List.map_cons, List.sum_nil, List.sum_cons, Nat.zero_le, ab_nl_n, ab_nl_i, ab_nl_r, ab_nl_0, ab_cat_i, ab_cat_r, ab_cat_l, Nat.reduceAdd, Nat.reduceLeDiff, Nat.add_zero, Nat.zero_add, reduceIte, List.getElem?_cons_succ, List.getElem?_cons_zero, List.length_cons, List.length_nil, List.set_cons_zero, List.set_cons_succ, true_or, or_true, Classical.not_not, not_true_eq_false, not_false_eq_true, ab_01r, ab_01z, ab_01n, false_implies, ab_tt, Nat.reduceLT, Nat.reduceEqDiff, Int.reduceNeg, Int.reduceLT, Int.reduceLE, Int.add_zero, Int.zero_add, List.append_nil, Int.reduceEq, ab_sum1, ab_ri_0, ab_ri_1, ab_ri_2, ab_ri_3, ab_ri_4, ab_ri_5, ab_ri_6, ab_ri_7, ab_ri_8, ab_ri_12, ab_ri_30, ab_ri_60, ab_ri_100, ab_ri_101, ab_ri_127, ab_ri_m1, ab_ri_m2, ab_ri_m3, ab_ri_m4, ab_ri_m5, ab_ri_m11, ab_ri_m13, ab_ri_m14, ab_ri_10, ab_fd, ab_fs, ab_ai, ab_as, ab_fit, ab_tyf, tyX12, ab_mg_0, ab_mg_1, ab_mg_2, ab_mg_3, ab_mg_4, ab_mg_5, ab_mg_6, ab_mg_7, ab_mg_8, ab_mg_9, ab_mg_10, ab_mg_11, ab_mg_12, ab_mg_13, ab_mg_14, ab_mg_15, ab_mg_16, ab_mg_17, ab_mg_18, ab_mg_19, ab_mg_20, ab_mg_21, ab_mg_22, ab_mg_23, ab_mg_24, ab_mg_25, ab_mg_26, ab_mg_27, ab_mg_28, ab_mg_29, ab_mg_30, ab_mg_31, ab_mg_32, ab_mg_33, ab_ms_8, ab_ms_10, ab_ms_11, ab_ms_17, ab_ms_21, ab_ms_22, ab_ms_24, ab_ms_25, ab_ms_26, ab_ms_29, ab_ms_32, ab_mol_l, Nat.reduceLT, Nat.reduceLeDiff, ab_hs_self, ab_hs_hs, a0, a1, ab_md ra2, q] <;> omega
        · rw [← fin (fun k => if 0 ≤ k ∧ k < ab_wd t then (R k + T (ab_row (m - ab_FIRST b) (ab_REST b) + k) * (ab_slp (L 0) m (-ab_FIRST b) % 101)) % 101 else R k) (fun k k0 k7 => by
            rw [hmte]
            by_cases z : k < ab_wd t
            · have lc := ab_lv_at t0 c1.2 k0 z
              rw [if_pos z, ab_AT_eq hb ⟨by omega, by omega⟩, ab_asx, if_neg c2, lc, if_neg hnj, if_pos ⟨k0, z⟩, if_neg (fun y => c4 (by omega))]
              exact hR2 k k0 z
            · rw [if_neg z, if_neg (fun y => z y.2), hR, if_neg (fun y => z y.2)])] at q
          simp only [s135_362, s135_363, s135_365, s135_401, true_and, and_true, true_implies, Option.toList_some, Option.toList_none, List.nil_append, List.cons_append, List.map_nil, List.map_cons, List.sum_nil, List.sum_cons, Nat.zero_le, ab_nl_n, ab_nl_i, ab_nl_r, ab_nl_0, ab_cat_i, ab_cat_r, ab_cat_l, Nat.reduceAdd, Nat.reduceLeDiff, Nat.add_zero, Nat.zero_add, reduceIte, List.getElem?_cons_succ, List.getElem?_cons_zero, List.length_cons, List.length_nil, List.set_cons_zero, List.set_cons_succ, true_or, or_true, Classical.not_not, not_true_eq_false, not_false_eq_true, ab_01r, ab_01z, ab_01n, false_implies, ab_tt, Nat.reduceLT, Nat.reduceEqDiff, Int.reduceNeg, Int.reduceLT, Int.reduceLE, Int.add_zero, Int.zero_add, List.append_nil, Int.reduceEq, ab_sum1, ab_ri_0, ab_ri_1, ab_ri_2, ab_ri_3, ab_ri_4, ab_ri_5, ab_ri_6, ab_ri_7, ab_ri_8, ab_ri_12, ab_ri_30, ab_ri_60, ab_ri_100, ab_ri_101, ab_ri_127, ab_ri_m1, ab_ri_m2, ab_ri_m3, ab_ri_m4, ab_ri_m5, ab_ri_m11, ab_ri_m13, ab_ri_m14, ab_ri_10, c4, hmr, hkr, q]
      have hbtr : ab_inR bt := by omega
      by_cases c5 : 0 ≤ bt
      rotate_left
      · have c5n : ¬ (0 ≤ bt ∧ bt ≤ 5) := fun z => c5 z.1
        have t := behind (fun _ => 0) (fun k => by unfold ab_exd; rw [if_neg c5]; split <;> rfl) 0 none none none rfl rfl rfl
        simp only [s135_176, s135_178, s135_181, true_and, and_true, true_implies, Option.toList_some, Option.toList_none, List.nil_append, List.cons_append, List.map_nil, List.map_cons, List.sum_nil, List.sum_cons, Nat.zero_le, ab_nl_n, ab_nl_i, ab_nl_r, ab_nl_0, ab_cat_i, ab_cat_r, ab_cat_l, Nat.reduceAdd, Nat.reduceLeDiff, Nat.add_zero, Nat.zero_add, reduceIte, List.getElem?_cons_succ, List.getElem?_cons_zero, List.length_cons, List.length_nil, List.set_cons_zero, List.set_cons_succ, true_or, or_true, Classical.not_not, not_true_eq_false, not_false_eq_true, ab_01r, ab_01z, ab_01n, false_implies, ab_tt, Nat.reduceLT, Nat.reduceEqDiff, Int.reduceNeg, Int.reduceLT, Int.reduceLE, Int.add_zero, Int.zero_add, List.append_nil, Int.reduceEq, ab_sum1, ab_ri_0, ab_ri_1, ab_ri_2, ab_ri_3, ab_ri_4, ab_ri_5, ab_ri_6, ab_ri_7, ab_ri_8, ab_ri_12, ab_ri_30, ab_ri_60, ab_ri_100, ab_ri_101, ab_ri_127, ab_ri_m1, ab_ri_m2, ab_ri_m3, ab_ri_m4, ab_ri_m5, ab_ri_m11, ab_ri_m13, ab_ri_m14, ab_ri_10, mp_isLevel hbtr, ab_01n, ab_01z, c5n, t]
      have c55 : 0 ≤ bt ∧ bt ≤ 5 := ⟨c5, by omega⟩
      have hwb := ab_wd_eq c5 (by omega)
      have bt7 : bt < ((7 : Nat) : Int) := by omega
      have key := ab_dn (P := fun i => ∀ l11 l12 l13 : Option ab_V, ab_nl [l11, l12, l13] = true → ab_nl [l12, l13] = true → ab_nl [l13] = true → ab_G 135 176 [some (vr 68), some (vi m), some (vi b), some (vi (ab_LV b)), some (vi r), some (vi t), some (vi (ab_START t)), some (vi (ab_FIRST b)), some (vi (ab_REST b)), some (vi bt), some (vi i), l11, l12, l13] [] (ab_hs h 82 (ab_ia 1463 (ab_rwf T r (ab_rs L b t bt i.toNat)))) n (0, 0) Q) (a := 0) (e := ab_wd bt) (by omega) ?_ ?_
      · have tt0 := key none none none rfl rfl rfl
        have e : ab_rs L b t bt (0 : Int).toNat = fun _ => 0 := by
          funext k
          show (if 0 ≤ k ∧ k < ab_wd t then (0 : Int) % 101 else 0) = 0
          split <;> rfl
        rw [e] at tt0
        exact tt0
      · intro l11 l12 l13 z11 z12 z13
        have t := behind (ab_rs L b t bt (ab_wd bt).toNat) (fun k => by unfold ab_rs ab_exd; rw [if_pos c5]) (ab_wd bt) l11 l12 l13 z11 z12 z13
        rw [s135_176]
        simp only [s135_178, s135_181, s135_184, s135_186, s135_187, s135_189, s135_192, true_and, and_true, true_implies, Option.toList_some, Option.toList_none, List.nil_append, List.cons_append, List.map_nil, List.map_cons, List.sum_nil, List.sum_cons, Nat.zero_le, ab_nl_n, ab_nl_i, ab_nl_r, ab_nl_0, ab_cat_i, ab_cat_r, ab_cat_l, Nat.reduceAdd, Nat.reduceLeDiff, Nat.add_zero, Nat.zero_add, reduceIte, List.getElem?_cons_succ, List.getElem?_cons_zero, List.length_cons, List.length_nil, List.set_cons_zero, List.set_cons_succ, true_or, or_true, Classical.not_not, not_true_eq_false, not_false_eq_true, ab_01r, ab_01z, ab_01n, false_implies, ab_tt, Nat.reduceLT, Nat.reduceEqDiff, Int.reduceNeg, Int.reduceLT, Int.reduceLE, Int.add_zero, Int.zero_add, List.append_nil, Int.reduceEq, ab_sum1, ab_ri_0, ab_ri_1, ab_ri_2, ab_ri_3, ab_ri_4, ab_ri_5, ab_ri_6, ab_ri_7, ab_ri_8, ab_ri_12, ab_ri_30, ab_ri_60, ab_ri_100, ab_ri_101, ab_ri_127, ab_ri_m1, ab_ri_m2, ab_ri_m3, ab_ri_m4, ab_ri_m5, ab_ri_m11, ab_ri_m13, ab_ri_m14, ab_ri_10, ab_fd, ab_fs, ab_ai, ab_as, ab_fit, ab_tyf, tyX12, ab_mg_0, ab_mg_1, ab_mg_2, ab_mg_3, ab_mg_4, ab_mg_5, ab_mg_6, ab_mg_7, ab_mg_8, ab_mg_9, ab_mg_10, ab_mg_11, ab_mg_12, ab_mg_13, ab_mg_14, ab_mg_15, ab_mg_16, ab_mg_17, ab_mg_18, ab_mg_19, ab_mg_20, ab_mg_21, ab_mg_22, ab_mg_23, ab_mg_24, ab_mg_25, ab_mg_26, ab_mg_27, ab_mg_28, ab_mg_29, ab_mg_30, ab_mg_31, ab_mg_32, ab_mg_33, ab_ms_8, ab_ms_10, ab_ms_11, ab_ms_17, ab_ms_21, ab_ms_22, ab_ms_24, ab_ms_25, ab_ms_26, ab_ms_29, ab_ms_32, ab_mol_l, Nat.reduceLT, Nat.reduceLeDiff, H68, ab_vc, ab_sv_12_119, ab_sv_12_119, ab_sv_12_119, ab_sv_12_100, ab_sv_12_119, ab_sv_12_100, ab_sv_12_123, ab_sv_12_110, ab_sv_12_100, ab_sv_12_123, ab_sv_12_113, mp_isLevel hbtr, mp_many (H68 _) (HST _) c55, ab_01n, ab_01z, c55, Int.le_refl, t] <;> omega
      · intro i i0 i9 ih l11 l12 l13 z11 z12 z13
        have ei : (i + 1).toNat = i.toNat + 1 := by omega
        have ec : ((i.toNat : Nat) : Int) = i := Int.toNat_of_nonneg i0
        rw [ei, ab_rs_s, ec] at ih
        have ci : ¬ ab_wd bt ≤ i := by omega
        have bc : ab_bb (ab_START bt + i) := ⟨by omega, by omega⟩
        have lc := ab_lv_at c5 (by omega) i0 i9
        have hR0 : ∀ k, 0 ≤ ab_rs L b t bt i.toNat k ∧ ab_rs L b t bt i.toNat k ≤ 100 := fun k => ab_rs_r
        have hR7 : ∀ k, ¬ (0 ≤ k ∧ k < ab_wd t) → ab_rs L b t bt i.toNat k = 0 := fun k hk => by unfold ab_rs; rw [if_neg hk]
        revert ih hR0 hR7
        generalize ab_rs L b t bt i.toNat = R
        intro ih hR0 hR7
        -- times
        have hrn := ab_row_ne (m := m) (m' := m) hb k5 (fun z => by have := ab_len_rest hb c2; rw [z] at this; omega)
        rw [hr] at hrn
        have hr2 := ab_row_r hm k5
        have a0 : 0 ≤ ab_row m (ab_REST b) + i := by omega
        have a1 : ab_row m (ab_REST b) + i < ((1463 : Nat) : Int) := by omega
        have eT : ab_rwf T r R (ab_row m (ab_REST b) + i) = ab_AT L (ab_REST b * 19 + (ab_START bt + i)) := by
          rw [ab_rwf_no (by omega), hd m (ab_REST b) i hm.1 hm.2 k5 (ab_len_rest hb c2) i0 (by omega)]
          unfold ab_mte
          rw [show ab_LV (ab_REST b) - m = bt by omega, if_pos ⟨c55, i9⟩]
        have hx := ab_AT_r hL (ab_REST b * 19 + (ab_START bt + i))
        have hsup := ab_sup (L := L) k5 bc
        revert hx eT ih hsup
        generalize ab_AT L (ab_REST b * 19 + (ab_START bt + i)) = x
        intro ih eT hx hsup
        have hxr : ab_inR x = True := eq_true (by omega)
        have bi0 : 0 ≤ ab_START bt + i := bc.1
        have bi19 : ab_START bt + i < ((19 : Nat) : Int) := bc.2
        rw [s135_176]
        by_cases c6 : x = 0
        · have ih := ih (some (vi x)) (some (vi (ab_START bt + i))) l13 z13 z13 z13
          have e : (fun k => if 0 ≤ k ∧ k < ab_wd t then (R k + ab_AT L ((ab_START bt + i) * 19 + (ab_START t + k)) * x) % 101 else R k) = R := by
            funext k
            by_cases z : 0 ≤ k ∧ k < ab_wd t
            · rw [if_pos z, c6, Int.mul_zero]
              have := hR0 k
              omega
            · rw [if_neg z]
          rw [e] at ih
          have c6t : (x = 0) = True := eq_true c6
          simp only [s135_178, s135_181, s135_184, s135_186, s135_187, s135_189, s135_192, s135_195, s135_196, s135_199, s135_200, s135_202, s135_205, s135_207, s135_208, s135_209, s135_211, s135_212, s135_215, s135_217, s135_218, s135_220, s135_221, s135_223, s135_225, s135_228, s135_317, s135_320, true_and, and_true, true_implies, Option.toList_some, Option.toList_none, List.nil_append, List.cons_append, List.map_nil, List.map_cons, List.sum_nil, List.sum_cons, Nat.zero_le, ab_nl_n, ab_nl_i, ab_nl_r, ab_nl_0, ab_cat_i, ab_cat_r, ab_cat_l, Nat.reduceAdd, Nat.reduceLeDiff, Nat.add_zero, Nat.zero_add, reduceIte, List.getElem?_cons_succ, List.getElem?_cons_zero, List.length_cons, List.length_nil, List.set_cons_zero, List.set_cons_succ, true_or, or_true, Classical.not_not, not_true_eq_false, not_false_eq_true, ab_01r, ab_01z, ab_01n, false_implies, ab_tt, Nat.reduceLT, Nat.reduceEqDiff, Int.reduceNeg, Int.reduceLT, Int.reduceLE, Int.add_zero, Int.zero_add, List.append_nil, Int.reduceEq, ab_sum1, ab_ri_0, ab_ri_1, ab_ri_2, ab_ri_3, ab_ri_4, ab_ri_5, ab_ri_6, ab_ri_7, ab_ri_8, ab_ri_12, ab_ri_30, ab_ri_60, ab_ri_100, ab_ri_101, ab_ri_127, ab_ri_m1, ab_ri_m2, ab_ri_m3, ab_ri_m4, ab_ri_m5, ab_ri_m11, ab_ri_m13, ab_ri_m14, ab_ri_10, ab_fd, ab_fs, ab_ai, ab_as, ab_fit, ab_tyf, tyX12, ab_mg_0, ab_mg_1, ab_mg_2, ab_mg_3, ab_mg_4, ab_mg_5, ab_mg_6, ab_mg_7, ab_mg_8, ab_mg_9, ab_mg_10, ab_mg_11, ab_mg_12, ab_mg_13, ab_mg_14, ab_mg_15, ab_mg_16, ab_mg_17, ab_mg_18, ab_mg_19, ab_mg_20, ab_mg_21, ab_mg_22, ab_mg_23, ab_mg_24, ab_mg_25, ab_mg_26, ab_mg_27, ab_mg_28, ab_mg_29, ab_mg_30, ab_mg_31, ab_mg_32, ab_mg_33, ab_ms_8, ab_ms_10, ab_ms_11, ab_ms_17, ab_ms_21, ab_ms_22, ab_ms_24, ab_ms_25, ab_ms_26, ab_ms_29, ab_ms_32, ab_mol_l, Nat.reduceLT, Nat.reduceLeDiff, H68, (HST _).1, ab_hs_self, ab_vc, ab_sv_12_119, ab_sv_12_119, ab_sv_12_119, ab_sv_12_100, ab_sv_12_119, ab_sv_12_100, ab_sv_12_123, ab_sv_12_110, ab_sv_12_100, ab_sv_12_123, ab_sv_12_113, mp_isLevel hbtr, mp_many (H68 _) (HST _) c55, mp_row, ab_01n, ab_01z, c55, ci, a0, a1, eT, c5, bt7, c6t, hxr, z11, z12, z13, ih] <;> omega
        · -- put in order at once, or by its own row
          have lcb := ab_first_r bc.1 bc.2
          have nf2 := ab_num_0 bc
          have y0 : 0 ≤ 5 * (ab_START bt + i) := by omega
          have y1 : 5 * (ab_START bt + i) < ((95 : Nat) : Int) := by omega
          have hlr : ab_inR (ab_LENGTH (ab_START bt + i)) = True := eq_true (by omega)
          have hfr : ab_inR (ab_FIRST (ab_START bt + i)) = True := eq_true (by omega)
          have merge : ab_FIRST (ab_START bt + i) ≤ ab_FIRST b → ab_G 135 255 [some (vr 68), some (vi m), some (vi b), some (vi (ab_LV b)), some (vi r), some (vi t), some (vi (ab_START t)), some (vi (ab_FIRST b)), some (vi (ab_REST b)), some (vi bt), some (vi i), some (vi x), some (vi (ab_START bt + i)), l13] [] (ab_hs h 82 (ab_ia 1463 (ab_rwf T r R))) n (0, 0) Q := by
            intro c7
            have pl := ab_pl_join (k := ab_FIRST b) bc (by omega) (by omega) c7
            rw [show ab_FIRST b + ab_LV (ab_START bt + i) = t by omega] at pl
            have ji := ab_jn_in (k := ab_FIRST b) bc (by omega) (by omega : ab_FIRST b + ab_LV (ab_START bt + i) = t) c1.2 c7
            have hjoin : ∀ k, 0 ≤ k → k < ab_wd t → ab_AT L ((ab_START bt + i) * 19 + (ab_START t + k)) = if ab_START t + k = ab_jn (ab_FIRST b) (ab_START bt + i) (ab_START t) (ab_wd t).toNat then 1 else 0 := fun k k0 k7 => ab_AT_join bc ⟨by omega, by omega⟩ (ab_lv_at t0 c1.2 k0 k7) (by omega) (by omega) c7 c1.2
            revert ji hjoin pl
            generalize ab_jn (ab_FIRST b) (ab_START bt + i) (ab_START t) (ab_wd t).toNat = jj
            intro pl ji hjoin
            have ek : r + jj - ab_START t = r + (jj - ab_START t) := by omega
            have b0' : 0 ≤ r + (jj - ab_START t) := by omega
            have b1' : r + (jj - ab_START t) < ((1463 : Nat) : Int) := by omega
            have e : (fun k => if 0 ≤ k ∧ k < ab_wd t then (R k + ab_AT L ((ab_START bt + i) * 19 + (ab_START t + k)) * x) % 101 else R k) = ab_ui R (jj - ab_START t) ((R (jj - ab_START t) + x) % 101) := by
              funext k
              by_cases z : 0 ≤ k ∧ k < ab_wd t
              · rw [if_pos z, hjoin k z.1 z.2]
                by_cases e : k = jj - ab_START t
                · rw [if_pos (by omega), e, ab_ui_at, Int.one_mul]
                · rw [if_neg (by omega), ab_ui_ne e, Int.zero_mul]
                  have := hR0 k
                  omega
              · rw [if_neg z, ab_ui_ne (by omega)]
            have ih := ih (some (vi x)) (some (vi (ab_START bt + i))) (some (vi (r + (jj - ab_START t)))) rfl rfl rfl
            rw [e, ← ab_rwf_ui (by omega)] at ih
            have eat : ab_rwf T r R (r + (jj - ab_START t)) = R (jj - ab_START t) := ab_rwf_at (by omega)
            have rj := hR0 (jj - ab_START t)
            have rj2 : 0 ≤ R (jj - ab_START t) + x := by omega
            simp only [s135_255, s135_257, s135_258, s135_260, s135_262, s135_263, true_and, and_true, true_implies, Option.toList_some, Option.toList_none, List.nil_append, List.cons_append, List.map_nil, List.map_cons, List.sum_nil, List.sum_cons, Nat.zero_le, ab_nl_n, ab_nl_i, ab_nl_r, ab_nl_0, ab_cat_i, ab_cat_r, ab_cat_l, Nat.reduceAdd, Nat.reduceLeDiff, Nat.add_zero, Nat.zero_add, reduceIte, List.getElem?_cons_succ, List.getElem?_cons_zero, List.length_cons, List.length_nil, List.set_cons_zero, List.set_cons_succ, true_or, or_true, Classical.not_not, not_true_eq_false, not_false_eq_true, ab_01r, ab_01z, ab_01n, false_implies, ab_tt, Nat.reduceLT, Nat.reduceEqDiff, Int.reduceNeg, Int.reduceLT, Int.reduceLE, Int.add_zero, Int.zero_add, List.append_nil, Int.reduceEq, ab_sum1, ab_ri_0, ab_ri_1, ab_ri_2, ab_ri_3, ab_ri_4, ab_ri_5, ab_ri_6, ab_ri_7, ab_ri_8, ab_ri_12, ab_ri_30, ab_ri_60, ab_ri_100, ab_ri_101, ab_ri_127, ab_ri_m1, ab_ri_m2, ab_ri_m3, ab_ri_m4, ab_ri_m5, ab_ri_m11, ab_ri_m13, ab_ri_m14, ab_ri_10, ab_fd, ab_fs, ab_ai, ab_as, ab_fit, ab_tyf, tyX12, ab_mg_0, ab_mg_1, ab_mg_2, ab_mg_3, ab_mg_4, ab_mg_5, ab_mg_6, ab_mg_7, ab_mg_8, ab_mg_9, ab_mg_10, ab_mg_11, ab_mg_12, ab_mg_13, ab_mg_14, ab_mg_15, ab_mg_16, ab_mg_17, ab_mg_18, ab_mg_19, ab_mg_20, ab_mg_21, ab_mg_22, ab_mg_23, ab_mg_24, ab_mg_25, ab_mg_26, ab_mg_27, ab_mg_28, ab_mg_29, ab_mg_30, ab_mg_31, ab_mg_32, ab_mg_33, ab_ms_8, ab_ms_10, ab_ms_11, ab_ms_17, ab_ms_21, ab_ms_22, ab_ms_24, ab_ms_25, ab_ms_26, ab_ms_29, ab_ms_32, ab_mol_l, Nat.reduceLT, Nat.reduceLeDiff, H68, ab_vc, ab_sv_12_119, ab_sv_12_119, ab_sv_12_119, ab_sv_12_100, ab_sv_12_119, ab_sv_12_100, ab_sv_12_123, ab_sv_12_110, ab_sv_12_100, ab_sv_12_123, ab_sv_12_113]
            refine mp_placeOf (H68 _) (HST _) (by omega) bc (by decide) (by omega) ?_
            rw [pl]
            simp only [s135_266, s135_267, s135_269, s135_270, s135_272, s135_273, s135_276, s135_278, s135_279, s135_282, s135_284, s135_285, s135_287, s135_288, s135_290, s135_291, s135_292, s135_317, s135_320, true_and, and_true, true_implies, Option.toList_some, Option.toList_none, List.nil_append, List.cons_append, List.map_nil, List.map_cons, List.sum_nil, List.sum_cons, Nat.zero_le, ab_nl_n, ab_nl_i, ab_nl_r, ab_nl_0, ab_cat_i, ab_cat_r, ab_cat_l, Nat.reduceAdd, Nat.reduceLeDiff, Nat.add_zero, Nat.zero_add, reduceIte, List.getElem?_cons_succ, List.getElem?_cons_zero, List.length_cons, List.length_nil, List.set_cons_zero, List.set_cons_succ, true_or, or_true, Classical.not_not, not_true_eq_false, not_false_eq_true, ab_01r, ab_01z, ab_01n, false_implies, ab_tt, Nat.reduceLT, Nat.reduceEqDiff, Int.reduceNeg, Int.reduceLT, Int.reduceLE, Int.add_zero, Int.zero_add, List.append_nil, Int.reduceEq, ab_sum1, ab_ri_0, ab_ri_1, ab_ri_2, ab_ri_3, ab_ri_4, ab_ri_5, ab_ri_6, ab_ri_7, ab_ri_8, ab_ri_12, ab_ri_30, ab_ri_60, ab_ri_100, ab_ri_101, ab_ri_127, ab_ri_m1, ab_ri_m2, ab_ri_m3, ab_ri_m4, ab_ri_m5, ab_ri_m11, ab_ri_m13, ab_ri_m14, ab_ri_10, ab_fd, ab_fs, ab_ai, ab_as, ab_fit, ab_tyf, tyX12, ab_mg_0, ab_mg_1, ab_mg_2, ab_mg_3, ab_mg_4, ab_mg_5, ab_mg_6, ab_mg_7, ab_mg_8, ab_mg_9, ab_mg_10, ab_mg_11, ab_mg_12, ab_mg_13, ab_mg_14, ab_mg_15, ab_mg_16, ab_mg_17, ab_mg_18, ab_mg_19, ab_mg_20, ab_mg_21, ab_mg_22, ab_mg_23, ab_mg_24, ab_mg_25, ab_mg_26, ab_mg_27, ab_mg_28, ab_mg_29, ab_mg_30, ab_mg_31, ab_mg_32, ab_mg_33, ab_ms_8, ab_ms_10, ab_ms_11, ab_ms_17, ab_ms_21, ab_ms_22, ab_ms_24, ab_ms_25, ab_ms_26, ab_ms_29, ab_ms_32, ab_mol_l, Nat.reduceLT, Nat.reduceLeDiff, H68, ab_hs_self, ab_hs_hs, ek, b0', b1', eat, ab_md rj2, z13, ih] <;> omega
          by_cases c8 : ab_LENGTH (ab_START bt + i) = 0
          · have cz := (ab_len_0 bc).mp c8
            have mg := merge (by rw [cz]; show (0 : Int) ≤ _; omega)
            simp only [s135_178, s135_181, s135_184, s135_186, s135_187, s135_189, s135_192, s135_195, s135_196, s135_199, s135_200, s135_202, s135_205, s135_207, s135_208, s135_209, s135_211, s135_212, s135_215, s135_217, s135_218, s135_220, s135_221, s135_223, s135_225, s135_228, s135_231, s135_232, s135_235, s135_237, s135_238, true_and, and_true, true_implies, Option.toList_some, Option.toList_none, List.nil_append, List.cons_append, List.map_nil, List.map_cons, List.sum_nil, List.sum_cons, Nat.zero_le, ab_nl_n, ab_nl_i, ab_nl_r, ab_nl_0, ab_cat_i, ab_cat_r, ab_cat_l, Nat.reduceAdd, Nat.reduceLeDiff, Nat.add_zero, Nat.zero_add, reduceIte, List.getElem?_cons_succ, List.getElem?_cons_zero, List.length_cons, List.length_nil, List.set_cons_zero, List.set_cons_succ, true_or, or_true, Classical.not_not, not_true_eq_false, not_false_eq_true, ab_01r, ab_01z, ab_01n, false_implies, ab_tt, Nat.reduceLT, Nat.reduceEqDiff, Int.reduceNeg, Int.reduceLT, Int.reduceLE, Int.add_zero, Int.zero_add, List.append_nil, Int.reduceEq, ab_sum1, ab_ri_0, ab_ri_1, ab_ri_2, ab_ri_3, ab_ri_4, ab_ri_5, ab_ri_6, ab_ri_7, ab_ri_8, ab_ri_12, ab_ri_30, ab_ri_60, ab_ri_100, ab_ri_101, ab_ri_127, ab_ri_m1, ab_ri_m2, ab_ri_m3, ab_ri_m4, ab_ri_m5, ab_ri_m11, ab_ri_m13, ab_ri_m14, ab_ri_10, ab_fd, ab_fs, ab_ai, ab_as, ab_fit, ab_tyf, tyX12, ab_mg_0, ab_mg_1, ab_mg_2, ab_mg_3, ab_mg_4, ab_mg_5, ab_mg_6, ab_mg_7, ab_mg_8, ab_mg_9, ab_mg_10, ab_mg_11, ab_mg_12, ab_mg_13, ab_mg_14, ab_mg_15, ab_mg_16, ab_mg_17, ab_mg_18, ab_mg_19, ab_mg_20, ab_mg_21, ab_mg_22, ab_mg_23, ab_mg_24, ab_mg_25, ab_mg_26, ab_mg_27, ab_mg_28, ab_mg_29, ab_mg_30, ab_mg_31, ab_mg_32, ab_mg_33, ab_ms_8, ab_ms_10, ab_ms_11, ab_ms_17, ab_ms_21, ab_ms_22, ab_ms_24, ab_ms_25, ab_ms_26, ab_ms_29, ab_ms_32, ab_mol_l, Nat.reduceLT, Nat.reduceLeDiff, H68, (HST _).1, (HST _).2.2.1, ab_hs_self, ab_vc, ab_sv_12_119, ab_sv_12_119, ab_sv_12_119, ab_sv_12_100, ab_sv_12_119, ab_sv_12_100, ab_sv_12_123, ab_sv_12_110, ab_sv_12_100, ab_sv_12_123, ab_sv_12_113, mp_isLevel hbtr, mp_many (H68 _) (HST _) c55, mp_row, ab_01n, ab_01z, c55, ci, a0, a1, eT, c5, bt7, c6, hxr, bi0, bi19, c8, z11, z12, z13, mg] <;> omega
          · by_cases c7 : ab_FIRST (ab_START bt + i) ≤ ab_FIRST b
            · have mg := merge c7
              have c7n : ¬ ab_FIRST b < ab_FIRST (ab_START bt + i) := by omega
              simp only [s135_178, s135_181, s135_184, s135_186, s135_187, s135_189, s135_192, s135_195, s135_196, s135_199, s135_200, s135_202, s135_205, s135_207, s135_208, s135_209, s135_211, s135_212, s135_215, s135_217, s135_218, s135_220, s135_221, s135_223, s135_225, s135_228, s135_231, s135_232, s135_235, s135_237, s135_238, s135_241, s135_242, s135_245, s135_246, s135_248, s135_249, s135_250, s135_252, true_and, and_true, true_implies, Option.toList_some, Option.toList_none, List.nil_append, List.cons_append, List.map_nil, List.map_cons, List.sum_nil, List.sum_cons, Nat.zero_le, ab_nl_n, ab_nl_i, ab_nl_r, ab_nl_0, ab_cat_i, ab_cat_r, ab_cat_l, Nat.reduceAdd, Nat.reduceLeDiff, Nat.add_zero, Nat.zero_add, reduceIte, List.getElem?_cons_succ, List.getElem?_cons_zero, List.length_cons, List.length_nil, List.set_cons_zero, List.set_cons_succ, true_or, or_true, Classical.not_not, not_true_eq_false, not_false_eq_true, ab_01r, ab_01z, ab_01n, false_implies, ab_tt, Nat.reduceLT, Nat.reduceEqDiff, Int.reduceNeg, Int.reduceLT, Int.reduceLE, Int.add_zero, Int.zero_add, List.append_nil, Int.reduceEq, ab_sum1, ab_ri_0, ab_ri_1, ab_ri_2, ab_ri_3, ab_ri_4, ab_ri_5, ab_ri_6, ab_ri_7, ab_ri_8, ab_ri_12, ab_ri_30, ab_ri_60, ab_ri_100, ab_ri_101, ab_ri_127, ab_ri_m1, ab_ri_m2, ab_ri_m3, ab_ri_m4, ab_ri_m5, ab_ri_m11, ab_ri_m13, ab_ri_m14, ab_ri_10, ab_fd, ab_fs, ab_ai, ab_as, ab_fit, ab_tyf, tyX12, ab_mg_0, ab_mg_1, ab_mg_2, ab_mg_3, ab_mg_4, ab_mg_5, ab_mg_6, ab_mg_7, ab_mg_8, ab_mg_9, ab_mg_10, ab_mg_11, ab_mg_12, ab_mg_13, ab_mg_14, ab_mg_15, ab_mg_16, ab_mg_17, ab_mg_18, ab_mg_19, ab_mg_20, ab_mg_21, ab_mg_22, ab_mg_23, ab_mg_24, ab_mg_25, ab_mg_26, ab_mg_27, ab_mg_28, ab_mg_29, ab_mg_30, ab_mg_31, ab_mg_32, ab_mg_33, ab_ms_8, ab_ms_10, ab_ms_11, ab_ms_17, ab_ms_21, ab_ms_22, ab_ms_24, ab_ms_25, ab_ms_26, ab_ms_29, ab_ms_32, ab_mol_l, Nat.reduceLT, Nat.reduceLeDiff, H68, (HST _).1, (HST _).2.2.1, (HST _).2.2.2, ab_hs_self, ab_vc, ab_sv_12_119, ab_sv_12_119, ab_sv_12_119, ab_sv_12_100, ab_sv_12_119, ab_sv_12_100, ab_sv_12_123, ab_sv_12_110, ab_sv_12_100, ab_sv_12_123, ab_sv_12_113, mp_isLevel hbtr, mp_many (H68 _) (HST _) c55, mp_row, ab_01n, ab_01z, c55, ci, a0, a1, eT, c5, bt7, c6, hxr, bi0, bi19, c8, hlr, y0, y1, nf2, c7n, hfr, hkr, z11, z12, z13, mg] <;> omega
            · have c7n : ab_FIRST b < ab_FIRST (ab_START bt + i) := by omega
              have hsh := ab_shorter hb c2 c1 hnj (by omega) bc (by omega) (hsup c6) (fun z => c8 ((ab_len_0 bc).mpr z)) c7
              have hcb : ab_START bt + i ≠ b := fun z => by rw [z] at hsh; omega
              have hrn2 := ab_row_ne (m := m) (m' := -ab_FIRST b) hb bc hcb
              rw [hr] at hrn2
              have hr3 := ab_row_r (m := -ab_FIRST b) (by omega) bc
              have hTm : ∀ k, 0 ≤ k → k < 7 → T (ab_row (-ab_FIRST b) (ab_START bt + i) + k) = ab_mte L (-ab_FIRST b) (ab_START bt + i) k := fun k k0 k7 => hd _ _ k (by omega) (by omega) bc hsh k0 k7
              have e : (fun k => if 0 ≤ k ∧ k < ab_wd t then (R k + ab_AT L ((ab_START bt + i) * 19 + (ab_START t + k)) * x) % 101 else R k) = fun k => if 0 ≤ k ∧ k < ab_wd t then (R k + T (ab_row (-ab_FIRST b) (ab_START bt + i) + k) * x) % 101 else R k := by
                funext k
                by_cases z : 0 ≤ k ∧ k < ab_wd t
                · rw [if_pos z, if_pos z, hTm k z.1 (by omega)]
                  unfold ab_mte
                  rw [show ab_LV (ab_START bt + i) - -ab_FIRST b = t by omega, if_pos ⟨c1, z.2⟩]
                · rw [if_neg z, if_neg z]
              have ih := ih (some (vi x)) (some (vi (ab_START bt + i))) l13 z13 z13 z13
              rw [e, ← ab_rwf_add (by omega) hrn2] at ih
              simp only [s135_178, s135_181, s135_184, s135_186, s135_187, s135_189, s135_192, s135_195, s135_196, s135_199, s135_200, s135_202, s135_205, s135_207, s135_208, s135_209, s135_211, s135_212, s135_215, s135_217, s135_218, s135_220, s135_221, s135_223, s135_225, s135_228, s135_231, s135_232, s135_235, s135_237, s135_238, s135_241, s135_242, s135_245, s135_246, s135_248, s135_249, s135_250, s135_252, s135_295, s135_296, s135_298, s135_300, s135_301, s135_303, s135_306, s135_308, s135_309, s135_311, s135_314, true_and, and_true, true_implies, Option.toList_some, Option.toList_none, List.nil_append, List.cons_append, List.map_nil, List.map_cons, List.sum_nil, List.sum_cons, Nat.zero_le, ab_nl_n, ab_nl_i, ab_nl_r, ab_nl_0, ab_cat_i, ab_cat_r, ab_cat_l, Nat.reduceAdd, Nat.reduceLeDiff, Nat.add_zero, Nat.zero_add, reduceIte, List.getElem?_cons_succ, List.getElem?_cons_zero, List.length_cons, List.length_nil, List.set_cons_zero, List.set_cons_succ, true_or, or_true, Classical.not_not, not_true_eq_false, not_false_eq_true, ab_01r, ab_01z, ab_01n, false_implies, ab_tt, Nat.reduceLT, Nat.reduceEqDiff, Int.reduceNeg, Int.reduceLT, Int.reduceLE, Int.add_zero, Int.zero_add, List.append_nil, Int.reduceEq, ab_sum1, ab_ri_0, ab_ri_1, ab_ri_2, ab_ri_3, ab_ri_4, ab_ri_5, ab_ri_6, ab_ri_7, ab_ri_8, ab_ri_12, ab_ri_30, ab_ri_60, ab_ri_100, ab_ri_101, ab_ri_127, ab_ri_m1, ab_ri_m2, ab_ri_m3, ab_ri_m4, ab_ri_m5, ab_ri_m11, ab_ri_m13, ab_ri_m14, ab_ri_10, ab_fd, ab_fs, ab_ai, ab_as, ab_fit, ab_tyf, tyX12, ab_mg_0, ab_mg_1, ab_mg_2, ab_mg_3, ab_mg_4, ab_mg_5, ab_mg_6, ab_mg_7, ab_mg_8, ab_mg_9, ab_mg_10, ab_mg_11, ab_mg_12, ab_mg_13, ab_mg_14, ab_mg_15, ab_mg_16, ab_mg_17, ab_mg_18, ab_mg_19, ab_mg_20, ab_mg_21, ab_mg_22, ab_mg_23, ab_mg_24, ab_mg_25, ab_mg_26, ab_mg_27, ab_mg_28, ab_mg_29, ab_mg_30, ab_mg_31, ab_mg_32, ab_mg_33, ab_ms_8, ab_ms_10, ab_ms_11, ab_ms_17, ab_ms_21, ab_ms_22, ab_ms_24, ab_ms_25, ab_ms_26, ab_ms_29, ab_ms_32, ab_mol_l, Nat.reduceLT, Nat.reduceLeDiff, H68, (HST _).1, (HST _).2.2.1, (HST _).2.2.2, ab_hs_self, ab_vc, ab_sv_12_119, ab_sv_12_119, ab_sv_12_119, ab_sv_12_100, ab_sv_12_119, ab_sv_12_100, ab_sv_12_123, ab_sv_12_110, ab_sv_12_100, ab_sv_12_123, ab_sv_12_113, mp_isLevel hbtr, mp_many (H68 _) (HST _) c55, mp_many (H68 _) (HST _) c1, mp_row, ab_01n, ab_01z, c55, ci, a0, a1, eT, c5, bt7, c6, hxr, bi0, bi19, c8, hlr, y0, y1, nf2, c7n, hfr, hkr, z11, z12, z13]
              (repeat refine And.intro (by omega) ?_)
              refine mp_addsTo (H68 _) ab_hs_self (by omega) (by omega) (by omega) (by omega) hx (fun k k0 k1 => by rw [ab_rwf_at (by omega)]; exact hR0 k) (fun k k0 k1 => by rw [ab_rwf_no (by omega), hTm k k0 (by omega)]; exact ab_mte_r hL) ?_
              rw [ab_hs_hs]
              simp only [s135_317, s135_320, true_and, and_true, true_implies, Option.toList_some, Option.toList_none, List.nil_append, List.cons_append, List.map_nil, List.map_cons, List.sum_nil, List.sum_cons, Nat.zero_le, ab_nl_n, ab_nl_i, ab_nl_r, ab_nl_0, ab_cat_i, ab_cat_r, ab_cat_l, Nat.reduceAdd, Nat.reduceLeDiff, Nat.add_zero, Nat.zero_add, reduceIte, List.getElem?_cons_succ, List.getElem?_cons_zero, List.length_cons, List.length_nil, List.set_cons_zero, List.set_cons_succ, true_or, or_true, Classical.not_not, not_true_eq_false, not_false_eq_true, ab_01r, ab_01z, ab_01n, false_implies, ab_tt, Nat.reduceLT, Nat.reduceEqDiff, Int.reduceNeg, Int.reduceLT, Int.reduceLE, Int.add_zero, Int.zero_add, List.append_nil, Int.reduceEq, ab_sum1, ab_ri_0, ab_ri_1, ab_ri_2, ab_ri_3, ab_ri_4, ab_ri_5, ab_ri_6, ab_ri_7, ab_ri_8, ab_ri_12, ab_ri_30, ab_ri_60, ab_ri_100, ab_ri_101, ab_ri_127, ab_ri_m1, ab_ri_m2, ab_ri_m3, ab_ri_m4, ab_ri_m5, ab_ri_m11, ab_ri_m13, ab_ri_m14, ab_ri_10, z13, ih]
end MB
