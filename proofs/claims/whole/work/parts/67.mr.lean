/-! ===== the model: read ===== -/
theorem ab_stsc {f g : Int → Int} {s : Int} (h : ∀ i, 0 ≤ i → i < s → f i = g i) : ∀ k : Nat, (k : Int) ≤ s → ab_sts f k = ab_sts g k
  | 0, _ => rfl
  | k + 1, hk => by
    have ih := ab_stsc h k (by omega)
    unfold ab_sts
    rw [ih, h k (by omega) (by omega)]
theorem ab_ft_cg {f g : Int → Int} {s : Int} (h : ∀ i, 0 ≤ i → i < s → f i = g i) : ∀ (k i : Nat), ((i + k : Nat) : Int) ≤ s → ab_ft f i k = ab_ft g i k
  | 0, i, hk => by
    unfold ab_ft
    rw [ab_stsc h i (by omega)]
  | k + 1, i, hk => by
    unfold ab_ft
    rw [ab_stsc h (i + 1) (by omega), ab_ft_cg h k (i + 1) (by omega)]
def ab_sfo (T t : Int → Int) (s : Int) : Nat → Int → Int
  | 0 => fun _ => 0
  | i + 1 => ab_sma T (ab_tx t s i) (ab_sfo T t s i)
theorem ab_sfo_r {T t : Int → Int} {s : Int} : ∀ (k : Nat) (i : Int), 0 ≤ ab_sfo T t s k i ∧ ab_sfo T t s k i ≤ 100
  | 0, i => by unfold ab_sfo; exact ⟨by decide, by decide⟩
  | k + 1, i => by
    have ih := ab_sfo_r (T := T) (t := t) (s := s) k i
    unfold ab_sfo ab_sma
    cases ab_adt T (ab_tx t s k).2.2 (ab_tx t s k).2.1.toNat 0 (ab_un1 0) with
    | some z =>
      show 0 ≤ (ab_sfo T t s k i + (ab_tx t s k).1 * z.2 i) % 101 ∧ (ab_sfo T t s k i + (ab_tx t s k).1 * z.2 i) % 101 ≤ 100
      omega
    | none => exact ih
theorem ab_tls_s {t : Int → Int} {s : Int} {fuel i : Nat} (h : ab_pp t s i < s) : ab_tls t s (fuel + 1) (ab_pp t s i) = ab_tx t s i :: ab_tls t s fuel (ab_pp t s (i + 1)) := by
  rw [ab_tls, if_pos h]
  rfl
theorem ab_tls_e {t : Int → Int} {s : Int} {fuel : Nat} : ab_tls t s fuel s = [] := by
  cases fuel with
  | zero => rfl
  | succ k => rw [ab_tls, if_neg (Int.lt_irrefl s)]
theorem ab_clt_ok {T t : Int → Int} {s lv0 : Int} {k : Nat} (hk : ab_pp t s k = s) (hp : ∀ i : Nat, i < k → ab_pp t s i < s) (hl : ∀ i : Nat, i < k → ab_lvt (ab_tx t s i).2.2 (ab_tx t s i).2.1 = lv0) (h0 : 0 ≤ lv0) : ∀ (d i fuel : Nat) (lv : Int), i + d = k → d ≤ fuel → (0 < i → lv = lv0) → ab_clt T (ab_tls t s fuel (ab_pp t s i)) i lv (ab_sfo T t s i) = (if d = 0 then lv else lv0, ab_sfo T t s k)
  | 0, i, fuel, lv, hd, hf, hlv => by
    have e : i = k := by omega
    rw [e, hk, ab_tls_e, if_pos rfl]
    rfl
  | d + 1, i, 0, lv, hd, hf, hlv => absurd hf (by omega)
  | d + 1, i, fuel + 1, lv, hd, hf, hlv => by
    rw [ab_tls_s (hp i (by omega)), ab_clt, if_neg (by
      rw [hl i (by omega)]
      intro z
      rcases z with z | ⟨z1, z2⟩
      · omega
      · exact z2 (hlv (by omega)).symm), hl i (by omega)]
    have ih := ab_clt_ok (T := T) hk hp hl h0 d (i + 1) fuel lv0 (by omega) (by omega) (fun _ => rfl)
    have e : (if ((i : Nat) : Int) = 0 then (fun _ => 0) else ab_sfo T t s i) = ab_sfo T t s i := by
      by_cases c : i = 0
      · subst c; rfl
      · rw [if_neg (by omega)]
    rw [e, if_neg (by omega)]
    have ih' : ab_clt T (ab_tls t s fuel (ab_pp t s (i + 1))) ((i : Int) + 1) lv0 (ab_sma T (ab_tx t s i) (ab_sfo T t s i)) = _ := ih
    rw [ih', ite_self]
theorem ab_clt_no {T t : Int → Int} {s lv0 : Int} {b : Nat} (hp : ∀ i : Nat, i ≤ b → ab_pp t s i < s) (hl : ∀ i : Nat, i < b → ab_lvt (ab_tx t s i).2.2 (ab_tx t s i).2.1 = lv0) (h0 : 0 < b → 0 ≤ lv0) (hb : ab_lvt (ab_tx t s b).2.2 (ab_tx t s b).2.1 < 0 ∨ (0 < b ∧ ab_lvt (ab_tx t s b).2.2 (ab_tx t s b).2.1 ≠ lv0)) : ∀ (d i fuel : Nat) (lv : Int) (sm : Int → Int), i + d = b → d < fuel → (0 < i → lv = lv0) → (ab_clt T (ab_tls t s fuel (ab_pp t s i)) i lv sm).1 = -3
  | d, i, 0, lv, sm, hd, hf, hlv => absurd hf (by omega)
  | 0, i, fuel + 1, lv, sm, hd, hf, hlv => by
    have e : i = b := by omega
    rw [ab_tls_s (hp i (by omega)), ab_clt, if_pos (by
      rw [e]
      rcases hb with z | ⟨z1, z2⟩
      · exact Or.inl z
      · rw [hlv (by omega)]
        exact Or.inr ⟨by omega, z2⟩)]
  | d + 1, i, fuel + 1, lv, sm, hd, hf, hlv => by
    rw [ab_tls_s (hp i (by omega)), ab_clt, if_neg (by
      rw [hl i (by omega)]
      intro z
      have := h0 (by omega)
      rcases z with z | ⟨z1, z2⟩
      · omega
      · exact z2 (hlv (by omega)).symm), hl i (by omega)]
    exact ab_clt_no hp hl h0 hb d (i + 1) fuel lv0 _ (by omega) (by omega) (fun _ => rfl)
theorem ab_wrk_rd {h h' : ab_H} (hw : ab_wrk h) (he : ∀ a, (a = 85 ∨ a = 86) → h' a = h a) (h82 : ∃ T, h' 82 = some (ab_ia 1463 T)) (h83 : ∃ f, h' 83 = some (ab_ia 7 f)) (h84 : ∃ f, h' 84 = some (ab_ia 7 f)) (h87 : ∃ f, h' 87 = some (ab_ia 30 f)) (h88 : ∃ f, h' 88 = some (ab_ia 31 f)) (h89 : ∃ f, h' 89 = some (ab_ia 60 f)) (h90 : ∃ f, h' 90 = some (ab_ia 7 f)) : ab_wrk h' := by
  obtain ⟨w1, w2, w3, ⟨M, w4, w4'⟩, ⟨f, w5⟩, w6⟩ := hw
  exact ⟨h82, h83, h84, ⟨M, (he 85 (Or.inl rfl)).trans w4, w4'⟩, ⟨f, (he 86 (Or.inr rfl)).trans w5⟩, h87, h88, h89, h90⟩
theorem ab_sv_up {X : ab_X} {v lv : Int} {f g : Int → Int} : ab_sv (ab_up X 5 g) v lv f = ab_up (ab_sv X v lv f) 5 g := by
  funext i
  unfold ab_sv ab_up
  by_cases e : i = 5
  · subst e; rfl
  · by_cases e1 : i = 2
    · subst e1; rfl
    · by_cases e2 : i = 1
      · subst e2; rfl
      · simp only [e, e1, e2, if_false]
/-- the tape is empty then -/
theorem ab_per_tp {h : ab_H} {X : ab_X} {Y : Int → Int64} (hp : ab_per h X Y) : ab_per h (ab_up X 5 (ab_ui (X 5) 1 0)) Y := by
  obtain ⟨⟨la, p1, q1⟩, ⟨lev, p2, q2⟩, ⟨att, p3, q3⟩, ⟨tp, p4, q4⟩, ⟨ppr, p5, q5⟩, ⟨rwh, p6, q6⟩, ⟨rby, p7, q7⟩, ⟨sz, p8, q8⟩, ⟨cl, p9, q9⟩, ⟨im, p10, q10⟩⟩ := hp
  exact ⟨⟨la, p1, q1⟩, ⟨lev, p2, q2⟩, ⟨att, p3, q3⟩, ⟨tp, p4, fun i (i0 : 0 ≤ i) (i1 : i < 0) => absurd i0 (by omega)⟩, ⟨ppr, p5, q5⟩, ⟨rwh, p6, q6⟩, ⟨rby, p7, q7⟩, ⟨sz, p8, q8⟩, ⟨cl, p9, q9⟩, ⟨im, p10, q10⟩⟩
section MR
variable {h : ab_H} {n : Nat} {Q : ab_Q} {X : ab_X} {Y : Int → Int64}
theorem xm_read {v : Int} (J : ab_JM X Y h) (I : ab_XI X) (hv : ab_inR v) (q : ∀ h', ab_eqo 68 91 h h' → ab_JM (ab_n_read X v) Y h' → Q (some (vi (ab_s_read X v))) h' n) : ab_G 165 0 [some (vr 68), some (vi v), none, none, none, none] [] h n (0, 0) Q := by
  have J' := J
  obtain ⟨σ, hmo, hsc, hst, hp, hw⟩ := J'
  obtain ⟨⟨la, p1, q1⟩, ⟨lev, p2, q2⟩, ⟨att, p3, q3⟩, ⟨tp, p4, q4⟩, ⟨ppr, p5, q5⟩, ⟨rwh, p6, q6⟩, ⟨rby, p7, q7⟩, ⟨sz, p8, q8⟩, ⟨cl, p9, q9⟩, ⟨im, p10, q10⟩⟩ := id hp
  obtain ⟨⟨T, w1⟩, ⟨th, w2⟩, ⟨bw, w3⟩, ⟨M, w4, w4'⟩, ⟨pva, w5⟩, ⟨tby, w6⟩, ⟨tfr, w7⟩, ⟨mds, w8⟩, ⟨smm, w9⟩⟩ := id hw
  have hl := ab_lok_cg q1 I.1.1
  unfold ab_s_read ab_n_read at q
  by_cases c1 : ab_isV v
  · rw [if_pos c1, if_pos c1] at q
    have v0 := c1.1
    have v4 : v < ((4 : Nat) : Int) := by omega
    have s8 := hsc.1
    have hs60 := I.2.1
    have r1 : ab_inR 1 = True := eq_true (by omega)
    have r0 : ab_inR 0 = True := eq_true (by omega)
    have h7 : ab_inR 7 = True := eq_true (by omega)
    simp (disch := omega) only [s165_0, s165_1, s165_4, s165_7, s165_8, s165_9, s165_10, true_and, and_true, true_implies, Option.toList_some, Option.toList_none, List.nil_append, List.cons_append, List.map_nil, List.map_cons, List.sum_nil, List.sum_cons, Nat.zero_le, ab_nl_n, ab_nl_i, ab_nl_r, ab_nl_0, ab_cat_i, ab_cat_r, ab_cat_l, Nat.reduceAdd, Nat.reduceLeDiff, Nat.add_zero, Nat.zero_add, reduceIte, List.getElem?_cons_succ, List.getElem?_cons_zero, List.length_cons, List.length_nil, List.set_cons_zero, List.set_cons_succ, true_or, or_true, Classical.not_not, not_true_eq_false, not_false_eq_true, ab_01r, ab_01z, ab_01n, false_implies, ab_tt, Nat.reduceLT, Nat.reduceEqDiff, Int.reduceNeg, Int.reduceLT, Int.reduceLE, Int.add_zero, Int.zero_add, List.append_nil, Int.reduceEq, ab_sum1, ab_ri_0, ab_ri_1, ab_ri_2, ab_ri_3, ab_ri_4, ab_ri_5, ab_ri_6, ab_ri_7, ab_ri_8, ab_ri_12, ab_ri_30, ab_ri_60, ab_ri_100, ab_ri_101, ab_ri_127, ab_ri_m1, ab_ri_m2, ab_ri_m3, ab_ri_m4, ab_ri_m5, ab_ri_m11, ab_ri_m13, ab_ri_m14, ab_ri_10, ab_vc, hmo, ab_sv_12_216, ab_sv_12_210, ab_sv_12_210, ab_sv_12_210, ab_sv_12_139, ab_sv_12_219, mp_isVector, ab_01n, ab_01z, c1, Nat.reduceLeDiff]
    have et : ∀ i, 0 ≤ i → i < X 5 1 → tp i = X 6 i := q4
    have eft : ab_rdf X = ab_ft tp 0 (σ 8).toNat := by
      unfold ab_rdf
      rw [s8]
      exact (ab_ft_cg et _ 0 (by omega)).symm
    have scl2 : ∀ a k m, ab_scl (ab_su (ab_ps σ a k m) 8 0) (ab_up X 5 (ab_ui (X 5) 1 0)) := fun a k m => ⟨ab_su_e, (ab_su_n (by decide)).trans ((ab_ps_o (by decide) (by decide) (by decide)).trans hsc.2.1), (ab_su_n (by decide)).trans ((ab_ps_o (by decide) (by decide) (by decide)).trans hsc.2.2.1), (ab_su_n (by decide)).trans ((ab_ps_o (by decide) (by decide) (by decide)).trans hsc.2.2.2)⟩
    refine mp_readTerms hmo w6 w7 w8 ⟨p4, by omega, by omega, fun i i0 i1 => by rw [q4 i i0 (by omega)]; exact I.2.2.1 i i0 (by omega)⟩ (fun k a m F G M k1 k29 m0 m60 ef ek ep eG eGi eat => ?_) (fun a k m F G M a0 a60 ef => ?_)
    · rw [← eft] at ef
      rw [if_pos (show ab_rdf X < 0 by omega)] at q
      have erd : ab_rdr X = ab_clt (ab_AT (X 0)) (ab_tls tp (σ 8) 60 (ab_pp tp (σ 8) 0)) ((0 : Nat) : Int) (-3) (ab_sfo (ab_AT (X 0)) tp (σ 8) 0) := by
        unfold ab_rdr
        rw [s8, ← ab_tls_cg et 60 0 (Int.le_refl 0)]
        rfl
      rw [s8] at erd ek ep eat
      -- the heap then
      have O : ∀ a', a' ≠ 68 → a' ≠ 87 → a' ≠ 88 → a' ≠ 89 → ab_hs (ab_pz h σ a k m F G M) 68 (ab_mo (ab_su (ab_ps σ a k m) 8 0)) a' = h a' := fun a' h1 h2 h3 h4 => (ab_hs_ne h1).trans (ab_pz_o h1 h2 h3 h4)
      have O68 : ab_hs (ab_pz h σ a k m F G M) 68 (ab_mo (ab_su (ab_ps σ a k m) 8 0)) 68 = some (ab_mo (ab_su (ab_ps σ a k m) 8 0)) := ab_hs_self
      have O87 : ab_hs (ab_pz h σ a k m F G M) 68 (ab_mo (ab_su (ab_ps σ a k m) 8 0)) 87 = some (ab_ia 30 F) := (ab_hs_ne (by decide)).trans ab_pz_87
      have O88 : ab_hs (ab_pz h σ a k m F G M) 68 (ab_mo (ab_su (ab_ps σ a k m) 8 0)) 88 = some (ab_ia 31 G) := (ab_hs_ne (by decide)).trans ab_pz_88
      have O89 : ab_hs (ab_pz h σ a k m F G M) 68 (ab_mo (ab_su (ab_ps σ a k m) 8 0)) 89 = some (ab_ia 60 M) := (ab_hs_ne (by decide)).trans ab_pz_89
      have k26 : ab_su (ab_ps σ a k m) 8 0 26 = k := rfl
      have scl := scl2 a k m
      simp only [s165_13, s165_14, s165_15, s165_16, s165_19, s165_20, s165_31, s165_32, s165_33, true_and, and_true, true_implies, Option.toList_some, Option.toList_none, List.nil_append, List.cons_append, List.map_nil, List.map_cons, List.sum_nil, List.sum_cons, Nat.zero_le, ab_nl_n, ab_nl_i, ab_nl_r, ab_nl_0, ab_cat_i, ab_cat_r, ab_cat_l, Nat.reduceAdd, Nat.reduceLeDiff, Nat.add_zero, Nat.zero_add, reduceIte, List.getElem?_cons_succ, List.getElem?_cons_zero, List.length_cons, List.length_nil, List.set_cons_zero, List.set_cons_succ, true_or, or_true, Classical.not_not, not_true_eq_false, not_false_eq_true, ab_01r, ab_01z, ab_01n, false_implies, ab_tt, Nat.reduceLT, Nat.reduceEqDiff, Int.reduceNeg, Int.reduceLT, Int.reduceLE, Int.add_zero, Int.zero_add, List.append_nil, Int.reduceEq, ab_sum1, ab_ri_0, ab_ri_1, ab_ri_2, ab_ri_3, ab_ri_4, ab_ri_5, ab_ri_6, ab_ri_7, ab_ri_8, ab_ri_12, ab_ri_30, ab_ri_60, ab_ri_100, ab_ri_101, ab_ri_127, ab_ri_m1, ab_ri_m2, ab_ri_m3, ab_ri_m4, ab_ri_m5, ab_ri_m11, ab_ri_m13, ab_ri_m14, ab_ri_10, ab_fd, ab_fs, ab_ai, ab_as, ab_fit, ab_tyf, tyX12, ab_mg_0, ab_mg_1, ab_mg_2, ab_mg_3, ab_mg_4, ab_mg_5, ab_mg_6, ab_mg_7, ab_mg_8, ab_mg_9, ab_mg_10, ab_mg_11, ab_mg_12, ab_mg_13, ab_mg_14, ab_mg_15, ab_mg_16, ab_mg_17, ab_mg_18, ab_mg_19, ab_mg_20, ab_mg_21, ab_mg_22, ab_mg_23, ab_mg_24, ab_mg_25, ab_mg_26, ab_mg_27, ab_mg_28, ab_mg_29, ab_mg_30, ab_mg_31, ab_mg_32, ab_mg_33, ab_ms_8, ab_ms_10, ab_ms_11, ab_ms_17, ab_ms_21, ab_ms_22, ab_ms_24, ab_ms_25, ab_ms_26, ab_ms_29, ab_ms_32, ab_mol_l, Nat.reduceLT, Nat.reduceLeDiff, ab_vc, ab_sv_12_216, ab_sv_12_210, ab_sv_12_210, ab_sv_12_210, ab_sv_12_139, ab_sv_12_219, ab_pz_68, ab_hs_self, r1, Int.one_ne_zero, Nat.reduceLeDiff]
      revert O O68 O87 O88 O89 k26 scl
      generalize ab_hs (ab_pz h σ a k m F G M) 68 (ab_mo (ab_su (ab_ps σ a k m) 8 0)) = h1
      generalize ab_su (ab_ps σ a k m) 8 0 = σ1
      intro O O68 O87 O88 O89 k26 scl
      have hst1 := ab_mst_fr (fun a _ _ => O a (by omega) (by omega) (by omega) (by omega)) hst
      have hp1 := ab_per_tp (ab_per_fr (h' := h1) (fun a _ => O a (by omega) (by omega) (by omega) (by omega)) hp)
      have hG1 : ∀ i : Nat, i < k → 0 ≤ G i ∧ G ((i : Int) + 1) ≤ 60 := fun i hi => ⟨(eGi i (by omega)).1, by
        have := eGi (i + 1) (by omega)
        rw [show ((i : Int) + 1) = ((i + 1 : Nat) : Int) by omega]
        omega⟩
      have hw1 : ab_wrk h1 := ab_wrk_rd hw (fun a _ => O a (by omega) (by omega) (by omega) (by omega)) ⟨T, (O 82 (by decide) (by decide) (by decide) (by decide)).trans w1⟩ ⟨th, (O 83 (by decide) (by decide) (by decide) (by decide)).trans w2⟩ ⟨bw, (O 84 (by decide) (by decide) (by decide) (by decide)).trans w3⟩ ⟨F, O87⟩ ⟨G, O88⟩ ⟨M, O89⟩ ⟨smm, (O 90 (by decide) (by decide) (by decide) (by decide)).trans w9⟩
      have lvr : ∀ i, ab_inR (ab_lvt (ab_tx tp (X 5 1) i).2.2 (ab_tx tp (X 5 1) i).2.1) := fun i => by
        have := @ab_lvt_r (ab_tx tp (X 5 1) i).2.2 (ab_tx tp (X 5 1) i).2.1
        omega
      have kr : ab_inR (k : Int) = True := eq_true (by omega)
      refine mp_levelOfTerm O68 O88 O89 (by decide) (eat 0 (by omega)) (hG1 0 (by omega)) ?_
      simp only [s165_36, s165_37, s165_38, true_and, and_true, true_implies, Option.toList_some, Option.toList_none, List.nil_append, List.cons_append, List.map_nil, List.map_cons, List.sum_nil, List.sum_cons, Nat.zero_le, ab_nl_n, ab_nl_i, ab_nl_r, ab_nl_0, ab_cat_i, ab_cat_r, ab_cat_l, Nat.reduceAdd, Nat.reduceLeDiff, Nat.add_zero, Nat.zero_add, reduceIte, List.getElem?_cons_succ, List.getElem?_cons_zero, List.length_cons, List.length_nil, List.set_cons_zero, List.set_cons_succ, true_or, or_true, Classical.not_not, not_true_eq_false, not_false_eq_true, ab_01r, ab_01z, ab_01n, false_implies, ab_tt, Nat.reduceLT, Nat.reduceEqDiff, Int.reduceNeg, Int.reduceLT, Int.reduceLE, Int.add_zero, Int.zero_add, List.append_nil, Int.reduceEq, ab_sum1, ab_ri_0, ab_ri_1, ab_ri_2, ab_ri_3, ab_ri_4, ab_ri_5, ab_ri_6, ab_ri_7, ab_ri_8, ab_ri_12, ab_ri_30, ab_ri_60, ab_ri_100, ab_ri_101, ab_ri_127, ab_ri_m1, ab_ri_m2, ab_ri_m3, ab_ri_m4, ab_ri_m5, ab_ri_m11, ab_ri_m13, ab_ri_m14, ab_ri_10]
      have lvl0 := ab_lvt_r (g := (ab_tx tp (X 5 1) 0).2.2) (mc := (ab_tx tp (X 5 1) 0).2.1)
      have lvr0 := lvr 0
      have eb : ∀ b : Nat, b < k → (∀ i : Nat, i < b → ab_lvt (ab_tx tp (X 5 1) i).2.2 (ab_tx tp (X 5 1) i).2.1 = ab_lvt (ab_tx tp (X 5 1) 0).2.2 (ab_tx tp (X 5 1) 0).2.1 ∧ 0 ≤ ab_lvt (ab_tx tp (X 5 1) 0).2.2 (ab_tx tp (X 5 1) 0).2.1) → ab_lvt (ab_tx tp (X 5 1) b).2.2 (ab_tx tp (X 5 1) b).2.1 < 0 ∨ ab_lvt (ab_tx tp (X 5 1) b).2.2 (ab_tx tp (X 5 1) b).2.1 ≠ ab_lvt (ab_tx tp (X 5 1) 0).2.2 (ab_tx tp (X 5 1) 0).2.1 → (ab_rdr X).1 = -3 := by
        intro b hb hl hx
        rw [erd]
        refine ab_clt_no (fun i hi => ep i (by omega)) (fun i hi => (hl i hi).1) (fun z => (hl 0 z).2) ?_ b 0 60 _ _ (by omega) (by omega) (fun z => absurd z (by decide))
        rcases hx with z | z
        · exact Or.inl z
        · by_cases e : b = 0
          · rw [e] at z; exact absurd rfl z
          · exact Or.inr ⟨by omega, z⟩
      have key := ab_dn (P := fun i => (∀ j : Nat, (j : Int) < i → ab_lvt (ab_tx tp (X 5 1) j).2.2 (ab_tx tp (X 5 1) j).2.1 = ab_lvt (ab_tx tp (X 5 1) 0).2.2 (ab_tx tp (X 5 1) 0).2.1 ∧ 0 ≤ ab_lvt (ab_tx tp (X 5 1) 0).2.2 (ab_tx tp (X 5 1) 0).2.1) → ab_G 165 40 [some (vr 68), some (vi v), some (vi 1), some (vi (ab_lvt (ab_tx tp (X 5 1) 0).2.2 (ab_tx tp (X 5 1) 0).2.1)), some (vi i), none] [] h1 n (0, 0) Q) (a := 0) (e := k) (by omega) ?_ ?_
      · exact key (fun j hj => absurd hj (by omega))
      · intro hall
        have h0 := (hall 0 (by omega)).2
        have eok := ab_clt_ok (T := ab_AT (X 0)) (lv0 := ab_lvt (ab_tx tp (X 5 1) 0).2.2 (ab_tx tp (X 5 1) 0).2.1) ek ep (fun i hi => (hall i (by omega)).1) h0 k 0 60 (-3) (by omega) (by omega) (fun z => absurd z (by decide))
        rw [eok, if_neg (by omega)] at erd
        have hall' : ∀ j : Nat, j < k → 0 ≤ ab_lvt (ab_tx tp (X 5 1) j).2.2 (ab_tx tp (X 5 1) j).2.1 := fun j hj => by
          rw [(hall j (by omega)).1]; exact h0
        rw [erd, if_pos (show ab_rdf X < 0 ∧ 0 ≤ ab_lvt (ab_tx tp (X 5 1) 0).2.2 (ab_tx tp (X 5 1) 0).2.1 from ⟨by omega, h0⟩)] at q
        clear eok eb hall erd
        revert q lvl0 lvr0 h0
        generalize ab_lvt (ab_tx tp (X 5 1) 0).2.2 (ab_tx tp (X 5 1) 0).2.1 = lv0
        intro q lvl0 lvr0 h0
        have lvr0' : ab_inR lv0 = True := eq_true lvr0
        rw [s165_40]
        simp only [s165_42, s165_43, s165_46, s165_77, s165_78, true_and, and_true, true_implies, Option.toList_some, Option.toList_none, List.nil_append, List.cons_append, List.map_nil, List.map_cons, List.sum_nil, List.sum_cons, Nat.zero_le, ab_nl_n, ab_nl_i, ab_nl_r, ab_nl_0, ab_cat_i, ab_cat_r, ab_cat_l, Nat.reduceAdd, Nat.reduceLeDiff, Nat.add_zero, Nat.zero_add, reduceIte, List.getElem?_cons_succ, List.getElem?_cons_zero, List.length_cons, List.length_nil, List.set_cons_zero, List.set_cons_succ, true_or, or_true, Classical.not_not, not_true_eq_false, not_false_eq_true, ab_01r, ab_01z, ab_01n, false_implies, ab_tt, Nat.reduceLT, Nat.reduceEqDiff, Int.reduceNeg, Int.reduceLT, Int.reduceLE, Int.add_zero, Int.zero_add, List.append_nil, Int.reduceEq, ab_sum1, ab_ri_0, ab_ri_1, ab_ri_2, ab_ri_3, ab_ri_4, ab_ri_5, ab_ri_6, ab_ri_7, ab_ri_8, ab_ri_12, ab_ri_30, ab_ri_60, ab_ri_100, ab_ri_101, ab_ri_127, ab_ri_m1, ab_ri_m2, ab_ri_m3, ab_ri_m4, ab_ri_m5, ab_ri_m11, ab_ri_m13, ab_ri_m14, ab_ri_10, ab_fd, ab_fs, ab_ai, ab_as, ab_fit, ab_tyf, tyX12, ab_mg_0, ab_mg_1, ab_mg_2, ab_mg_3, ab_mg_4, ab_mg_5, ab_mg_6, ab_mg_7, ab_mg_8, ab_mg_9, ab_mg_10, ab_mg_11, ab_mg_12, ab_mg_13, ab_mg_14, ab_mg_15, ab_mg_16, ab_mg_17, ab_mg_18, ab_mg_19, ab_mg_20, ab_mg_21, ab_mg_22, ab_mg_23, ab_mg_24, ab_mg_25, ab_mg_26, ab_mg_27, ab_mg_28, ab_mg_29, ab_mg_30, ab_mg_31, ab_mg_32, ab_mg_33, ab_ms_8, ab_ms_10, ab_ms_11, ab_ms_17, ab_ms_21, ab_ms_22, ab_ms_24, ab_ms_25, ab_ms_26, ab_ms_29, ab_ms_32, ab_mol_l, Nat.reduceLT, Nat.reduceLeDiff, ab_vc, ab_sv_12_216, ab_sv_12_210, ab_sv_12_210, ab_sv_12_210, ab_sv_12_139, ab_sv_12_219, O68, k26, kr, Int.le_refl, Nat.reduceLeDiff]
        refine mp_layAll O68 hst1 ((O 69 (by decide) (by decide) (by decide) (by decide)).trans p1) hl ((O 82 (by decide) (by decide) (by decide) (by decide)).trans w1) fun h2 e2 mad => ?_
        have hw2 := ab_wrk_82 hw1 e2 mad
        have m68 := (e2 68 (by decide)).trans O68
        have m87 := (e2 87 (by decide)).trans O87
        have m88 := (e2 88 (by decide)).trans O88
        have m89 := (e2 89 (by decide)).trans O89
        have m90 := (e2 90 (by decide)).trans ((O 90 (by decide) (by decide) (by decide) (by decide)).trans w9)
        have m83 := (e2 83 (by decide)).trans ((O 83 (by decide) (by decide) (by decide) (by decide)).trans w2)
        have m84 := (e2 84 (by decide)).trans ((O 84 (by decide) (by decide) (by decide) (by decide)).trans w3)
        have hst2 := ab_mst_fr (fun a _ _ => e2 a (by omega)) hst1
        simp only [s165_81, s165_82, true_and, and_true, true_implies, Option.toList_some, Option.toList_none, List.nil_append, List.cons_append, List.map_nil, List.map_cons, List.sum_nil, List.sum_cons, Nat.zero_le, ab_nl_n, ab_nl_i, ab_nl_r, ab_nl_0, ab_cat_i, ab_cat_r, ab_cat_l, Nat.reduceAdd, Nat.reduceLeDiff, Nat.add_zero, Nat.zero_add, reduceIte, List.getElem?_cons_succ, List.getElem?_cons_zero, List.length_cons, List.length_nil, List.set_cons_zero, List.set_cons_succ, true_or, or_true, Classical.not_not, not_true_eq_false, not_false_eq_true, ab_01r, ab_01z, ab_01n, false_implies, ab_tt, Nat.reduceLT, Nat.reduceEqDiff, Int.reduceNeg, Int.reduceLT, Int.reduceLE, Int.add_zero, Int.zero_add, List.append_nil, Int.reduceEq, ab_sum1, ab_ri_0, ab_ri_1, ab_ri_2, ab_ri_3, ab_ri_4, ab_ri_5, ab_ri_6, ab_ri_7, ab_ri_8, ab_ri_12, ab_ri_30, ab_ri_60, ab_ri_100, ab_ri_101, ab_ri_127, ab_ri_m1, ab_ri_m2, ab_ri_m3, ab_ri_m4, ab_ri_m5, ab_ri_m11, ab_ri_m13, ab_ri_m14, ab_ri_10]
        refine ab_lp 0 7 (fun j => [some (vr 68), some (vi v), some (vi 1), some (vi lv0), some (vi j), none]) (fun j => ab_hs h2 90 (ab_ia 7 (ab_fi (fun _ => 0) smm 0 j))) (by decide) rfl (by rw [ab_fi_0, ab_hs_id m90]) ?_ ?_
        · rw [s165_84]
          simp only [s165_86, s165_88, s165_105, s165_106, true_and, and_true, true_implies, Option.toList_some, Option.toList_none, List.nil_append, List.cons_append, List.map_nil, List.map_cons, List.sum_nil, List.sum_cons, Nat.zero_le, ab_nl_n, ab_nl_i, ab_nl_r, ab_nl_0, ab_cat_i, ab_cat_r, ab_cat_l, Nat.reduceAdd, Nat.reduceLeDiff, Nat.add_zero, Nat.zero_add, reduceIte, List.getElem?_cons_succ, List.getElem?_cons_zero, List.length_cons, List.length_nil, List.set_cons_zero, List.set_cons_succ, true_or, or_true, Classical.not_not, not_true_eq_false, not_false_eq_true, ab_01r, ab_01z, ab_01n, false_implies, ab_tt, Nat.reduceLT, Nat.reduceEqDiff, Int.reduceNeg, Int.reduceLT, Int.reduceLE, Int.add_zero, Int.zero_add, List.append_nil, Int.reduceEq, ab_sum1, ab_ri_0, ab_ri_1, ab_ri_2, ab_ri_3, ab_ri_4, ab_ri_5, ab_ri_6, ab_ri_7, ab_ri_8, ab_ri_12, ab_ri_30, ab_ri_60, ab_ri_100, ab_ri_101, ab_ri_127, ab_ri_m1, ab_ri_m2, ab_ri_m3, ab_ri_m4, ab_ri_m5, ab_ri_m11, ab_ri_m13, ab_ri_m14, ab_ri_10, h7, Int.le_refl]
          -- the terms
          have sum := ab_dn (P := fun i => ∀ h' tl S l5, ab_nl [l5] = true → (∀ a, a ≠ 68 → a ≠ 83 → a ≠ 84 → a ≠ 90 → h' a = h2 a) → h' 68 = some (ab_mo (ab_su σ1 17 tl)) → (∃ f, h' 83 = some (ab_ia 7 f)) → (∃ f, h' 84 = some (ab_ia 7 f)) → h' 90 = some (ab_ia 7 S) → (∀ j, 0 ≤ j → j < 7 → S j = ab_sfo (ab_AT (X 0)) tp (X 5 1) i.toNat j) → ab_G 165 108 [some (vr 68), some (vi v), some (vi 1), some (vi lv0), some (vi i), l5] [] h' n (0, 0) Q) (a := 0) (e := k) (by omega) ?_ ?_
          · exact sum _ (σ1 17) _ none rfl (fun a a1 a2 a3 a4 => ab_hs_ne a4) (by
              rw [show ab_su σ1 17 (σ1 17) = σ1 from by
                funext i
                unfold ab_su
                by_cases e : i = 17
                · rw [if_pos e, e]
                · rw [if_neg e]]
              exact (ab_hs_ne (by decide)).trans m68) ⟨th, (ab_hs_ne (by decide)).trans m83⟩ ⟨bw, (ab_hs_ne (by decide)).trans m84⟩ ab_hs_self (fun j j0 j7 => by
              rw [ab_fi_lo ⟨j0, j7⟩]; rfl)
          · intro h3 tl S l5 z5 e3 n68 n83 n84 n90 hS
            rw [Int.toNat_natCast] at hS
            have n74 : h3 74 = some (ab_ia 4 lev) := (e3 74 (by decide) (by decide) (by decide) (by decide)).trans ((e2 74 (by decide)).trans ((O 74 (by decide) (by decide) (by decide) (by decide)).trans p2))
            have n75 : h3 75 = some (ab_ia 28 att) := (e3 75 (by decide) (by decide) (by decide) (by decide)).trans ((e2 75 (by decide)).trans ((O 75 (by decide) (by decide) (by decide) (by decide)).trans p3))
            have k26' : ab_su σ1 17 tl 26 = k := k26
            rw [s165_108]
            simp only [s165_110, s165_111, s165_114, s165_178, s165_179, s165_182, s165_183, s165_184, s165_185, s165_186, true_and, and_true, true_implies, Option.toList_some, Option.toList_none, List.nil_append, List.cons_append, List.map_nil, List.map_cons, List.sum_nil, List.sum_cons, Nat.zero_le, ab_nl_n, ab_nl_i, ab_nl_r, ab_nl_0, ab_cat_i, ab_cat_r, ab_cat_l, Nat.reduceAdd, Nat.reduceLeDiff, Nat.add_zero, Nat.zero_add, reduceIte, List.getElem?_cons_succ, List.getElem?_cons_zero, List.length_cons, List.length_nil, List.set_cons_zero, List.set_cons_succ, true_or, or_true, Classical.not_not, not_true_eq_false, not_false_eq_true, ab_01r, ab_01z, ab_01n, false_implies, ab_tt, Nat.reduceLT, Nat.reduceEqDiff, Int.reduceNeg, Int.reduceLT, Int.reduceLE, Int.add_zero, Int.zero_add, List.append_nil, Int.reduceEq, ab_sum1, ab_ri_0, ab_ri_1, ab_ri_2, ab_ri_3, ab_ri_4, ab_ri_5, ab_ri_6, ab_ri_7, ab_ri_8, ab_ri_12, ab_ri_30, ab_ri_60, ab_ri_100, ab_ri_101, ab_ri_127, ab_ri_m1, ab_ri_m2, ab_ri_m3, ab_ri_m4, ab_ri_m5, ab_ri_m11, ab_ri_m13, ab_ri_m14, ab_ri_10, ab_fd, ab_fs, ab_ai, ab_as, ab_fit, ab_tyf, tyX12, ab_mg_0, ab_mg_1, ab_mg_2, ab_mg_3, ab_mg_4, ab_mg_5, ab_mg_6, ab_mg_7, ab_mg_8, ab_mg_9, ab_mg_10, ab_mg_11, ab_mg_12, ab_mg_13, ab_mg_14, ab_mg_15, ab_mg_16, ab_mg_17, ab_mg_18, ab_mg_19, ab_mg_20, ab_mg_21, ab_mg_22, ab_mg_23, ab_mg_24, ab_mg_25, ab_mg_26, ab_mg_27, ab_mg_28, ab_mg_29, ab_mg_30, ab_mg_31, ab_mg_32, ab_mg_33, ab_ms_8, ab_ms_10, ab_ms_11, ab_ms_17, ab_ms_21, ab_ms_22, ab_ms_24, ab_ms_25, ab_ms_26, ab_ms_29, ab_ms_32, ab_mol_l, Nat.reduceLT, Nat.reduceLeDiff, n68, k26', kr, Int.le_refl, n74, v0, v4, z5]
            refine ab_lp 0 7 (fun j => [some (vr 68), some (vi v), some (vi 1), some (vi lv0), some (vi j), l5]) (fun j => ab_hs (ab_hs h3 74 (ab_ia 4 (ab_ui lev v lv0))) 75 (ab_ia 28 (ab_fi (fun j => S (j - 7 * v)) att (7 * v) (7 * v + j)))) (by decide) rfl (by rw [Int.add_zero, ab_fi_0, ab_hs_id (a := 75) ((ab_hs_ne (by decide)).trans n75)]) ?_ ?_
            · have fr : ∀ a, (a < 68 ∨ (68 < a ∧ a < 74) ∨ (75 < a ∧ a < 82) ∨ 90 < a) → ∀ c d, ab_hs (ab_hs h3 74 c) 75 d a = h1 a := fun a ha c d => (ab_hs_ne (by omega)).trans ((ab_hs_ne (by omega)).trans ((e3 a (by omega) (by omega) (by omega) (by omega)).trans (e2 a (by omega))))
              have q := q (ab_hs (ab_hs h3 74 (ab_ia 4 (ab_ui lev v lv0))) 75 (ab_ia 28 (ab_fi (fun j => S (j - 7 * v)) att (7 * v) (7 * v + 7)))) (fun a ha => (fr a (by omega) _ _).trans (O a (by omega) (by omega) (by omega) (by omega))) (by
                rw [← ab_sv_up]
                refine ab_JM_sv (lev' := ab_ui lev v lv0) (att' := ab_fi (fun j => S (j - 7 * v)) att (7 * v) (7 * v + 7)) (fun a ha => fr a ha _ _) scl hst1 hp1 ((ab_hs_ne (by decide)).trans ((ab_hs_ne (by decide)).trans n68)) (ab_sg_su (by decide)) (ab_wrk_fr (fun a _ _ => (ab_hs_ne (by omega)).trans (ab_hs_ne (by omega))) (ab_wrk_rd hw2 (fun a ha => e3 a (by omega) (by omega) (by omega) (by omega)) ?_ n83 n84 ⟨F, (e3 87 (by decide) (by decide) (by decide) (by decide)).trans m87⟩ ⟨G, (e3 88 (by decide) (by decide) (by decide) (by decide)).trans m88⟩ ⟨M, (e3 89 (by decide) (by decide) (by decide) (by decide)).trans m89⟩ ⟨S, n90⟩)) ((ab_hs_ne (by decide)).trans ab_hs_self) ab_hs_self (fun j j0 j4 => ?_) (fun j j0 j28 => ?_)
                · obtain ⟨TT, mt, -⟩ := mad
                  exact ⟨TT, (e3 82 (by decide) (by decide) (by decide) (by decide)).trans mt⟩
                · show ab_ui lev v lv0 j = ab_ui (X 1) v lv0 j
                  by_cases e : j = v
                  · rw [e, ab_ui_at, ab_ui_at]
                  · rw [ab_ui_ne e, ab_ui_ne e]; exact q2 j j0 j4
                · show ab_fi (fun j => S (j - 7 * v)) att (7 * v) (7 * v + 7) j = if 7 * v ≤ j ∧ j < 7 * v + 7 then ab_sfo (ab_AT (X 0)) tp (X 5 1) k (j - 7 * v) else X 2 j
                  by_cases e : 7 * v ≤ j ∧ j < 7 * v + 7
                  · rw [ab_fi_lo e, if_pos e]
                    exact hS _ (by omega) (by omega)
                  · rw [ab_fi_no e, if_neg e]
                    exact q3 j j0 j28)
              rw [s165_188]
              simp only [s165_190, s165_192, s165_220, s165_221, true_and, and_true, true_implies, Option.toList_some, Option.toList_none, List.nil_append, List.cons_append, List.map_nil, List.map_cons, List.sum_nil, List.sum_cons, Nat.zero_le, ab_nl_n, ab_nl_i, ab_nl_r, ab_nl_0, ab_cat_i, ab_cat_r, ab_cat_l, Nat.reduceAdd, Nat.reduceLeDiff, Nat.add_zero, Nat.zero_add, reduceIte, List.getElem?_cons_succ, List.getElem?_cons_zero, List.length_cons, List.length_nil, List.set_cons_zero, List.set_cons_succ, true_or, or_true, Classical.not_not, not_true_eq_false, not_false_eq_true, ab_01r, ab_01z, ab_01n, false_implies, ab_tt, Nat.reduceLT, Nat.reduceEqDiff, Int.reduceNeg, Int.reduceLT, Int.reduceLE, Int.add_zero, Int.zero_add, List.append_nil, Int.reduceEq, ab_sum1, ab_ri_0, ab_ri_1, ab_ri_2, ab_ri_3, ab_ri_4, ab_ri_5, ab_ri_6, ab_ri_7, ab_ri_8, ab_ri_12, ab_ri_30, ab_ri_60, ab_ri_100, ab_ri_101, ab_ri_127, ab_ri_m1, ab_ri_m2, ab_ri_m3, ab_ri_m4, ab_ri_m5, ab_ri_m11, ab_ri_m13, ab_ri_m14, ab_ri_10, h7, Int.le_refl, lvr0', q]
            · intro j j0 j9 ih
              have es := ab_fi_s (g := fun j => S (j - 7 * v)) (f := att) (a := 7 * v) (i := 7 * v + j) (x := S j) (by omega) (by show S j = S (7 * v + j - 7 * v); rw [show 7 * v + j - 7 * v = j by omega])
              rw [show 7 * v + (j + 1) = 7 * v + j + 1 by omega, ← es] at ih
              have c : ¬ 7 ≤ j := by omega
              have y0 : 0 ≤ 7 * v + j := by omega
              have y28 : 7 * v + j < ((28 : Nat) : Int) := by omega
              have j7 : j < ((7 : Nat) : Int) := j9
              have F68 : ∀ c d, ab_hs (ab_hs h3 74 c) 75 d 68 = some (ab_mo (ab_su σ1 17 tl)) := fun c d => (ab_hs_ne (by decide)).trans ((ab_hs_ne (by decide)).trans n68)
              have F90 : ∀ c d, ab_hs (ab_hs h3 74 c) 75 d 90 = some (ab_ia 7 S) := fun c d => (ab_hs_ne (by decide)).trans ((ab_hs_ne (by decide)).trans n90)
              rw [s165_188]
              simp only [s165_190, s165_192, s165_195, s165_196, s165_199, s165_201, s165_202, s165_203, s165_205, s165_206, s165_207, s165_210, s165_212, s165_213, s165_214, s165_217, true_and, and_true, true_implies, Option.toList_some, Option.toList_none, List.nil_append, List.cons_append, List.map_nil, List.map_cons, List.sum_nil, List.sum_cons, Nat.zero_le, ab_nl_n, ab_nl_i, ab_nl_r, ab_nl_0, ab_cat_i, ab_cat_r, ab_cat_l, Nat.reduceAdd, Nat.reduceLeDiff, Nat.add_zero, Nat.zero_add, reduceIte, List.getElem?_cons_succ, List.getElem?_cons_zero, List.length_cons, List.length_nil, List.set_cons_zero, List.set_cons_succ, true_or, or_true, Classical.not_not, not_true_eq_false, not_false_eq_true, ab_01r, ab_01z, ab_01n, false_implies, ab_tt, Nat.reduceLT, Nat.reduceEqDiff, Int.reduceNeg, Int.reduceLT, Int.reduceLE, Int.add_zero, Int.zero_add, List.append_nil, Int.reduceEq, ab_sum1, ab_ri_0, ab_ri_1, ab_ri_2, ab_ri_3, ab_ri_4, ab_ri_5, ab_ri_6, ab_ri_7, ab_ri_8, ab_ri_12, ab_ri_30, ab_ri_60, ab_ri_100, ab_ri_101, ab_ri_127, ab_ri_m1, ab_ri_m2, ab_ri_m3, ab_ri_m4, ab_ri_m5, ab_ri_m11, ab_ri_m13, ab_ri_m14, ab_ri_10, ab_fd, ab_fs, ab_ai, ab_as, ab_fit, ab_tyf, tyX12, ab_mg_0, ab_mg_1, ab_mg_2, ab_mg_3, ab_mg_4, ab_mg_5, ab_mg_6, ab_mg_7, ab_mg_8, ab_mg_9, ab_mg_10, ab_mg_11, ab_mg_12, ab_mg_13, ab_mg_14, ab_mg_15, ab_mg_16, ab_mg_17, ab_mg_18, ab_mg_19, ab_mg_20, ab_mg_21, ab_mg_22, ab_mg_23, ab_mg_24, ab_mg_25, ab_mg_26, ab_mg_27, ab_mg_28, ab_mg_29, ab_mg_30, ab_mg_31, ab_mg_32, ab_mg_33, ab_ms_8, ab_ms_10, ab_ms_11, ab_ms_17, ab_ms_21, ab_ms_22, ab_ms_24, ab_ms_25, ab_ms_26, ab_ms_29, ab_ms_32, ab_mol_l, Nat.reduceLT, Nat.reduceLeDiff, F68, F90, ab_hs_self, ab_hs_hs, c, h7, j0, j7, y0, y28, z5, ih] <;> omega
          · intro i i0 i9 ih h3 tl S l5 z5 e3 n68 n83 n84 n90 hS
            have ei : (i + 1).toNat = i.toNat + 1 := by omega
            have ec : ((i.toNat : Nat) : Int) = i := Int.toNat_of_nonneg i0
            have hx := eat i.toNat (by omega)
            rw [ec] at hx
            have hGx := hG1 i.toNat (by omega)
            rw [ec] at hGx
            have hlv := hall' i.toNat (by omega)
            have k26' : ab_su σ1 17 tl 26 = k := k26
            have ck : ¬ (k : Int) ≤ i := by omega
            have hir : ab_inR i = True := eq_true (by omega)
            obtain ⟨f3, n83⟩ := n83
            obtain ⟨b3, n84⟩ := n84
            rw [s165_108]
            simp only [s165_110, s165_111, s165_114, s165_117, s165_118, s165_120, true_and, and_true, true_implies, Option.toList_some, Option.toList_none, List.nil_append, List.cons_append, List.map_nil, List.map_cons, List.sum_nil, List.sum_cons, Nat.zero_le, ab_nl_n, ab_nl_i, ab_nl_r, ab_nl_0, ab_cat_i, ab_cat_r, ab_cat_l, Nat.reduceAdd, Nat.reduceLeDiff, Nat.add_zero, Nat.zero_add, reduceIte, List.getElem?_cons_succ, List.getElem?_cons_zero, List.length_cons, List.length_nil, List.set_cons_zero, List.set_cons_succ, true_or, or_true, Classical.not_not, not_true_eq_false, not_false_eq_true, ab_01r, ab_01z, ab_01n, false_implies, ab_tt, Nat.reduceLT, Nat.reduceEqDiff, Int.reduceNeg, Int.reduceLT, Int.reduceLE, Int.add_zero, Int.zero_add, List.append_nil, Int.reduceEq, ab_sum1, ab_ri_0, ab_ri_1, ab_ri_2, ab_ri_3, ab_ri_4, ab_ri_5, ab_ri_6, ab_ri_7, ab_ri_8, ab_ri_12, ab_ri_30, ab_ri_60, ab_ri_100, ab_ri_101, ab_ri_127, ab_ri_m1, ab_ri_m2, ab_ri_m3, ab_ri_m4, ab_ri_m5, ab_ri_m11, ab_ri_m13, ab_ri_m14, ab_ri_10, ab_fd, ab_fs, ab_ai, ab_as, ab_fit, ab_tyf, tyX12, ab_mg_0, ab_mg_1, ab_mg_2, ab_mg_3, ab_mg_4, ab_mg_5, ab_mg_6, ab_mg_7, ab_mg_8, ab_mg_9, ab_mg_10, ab_mg_11, ab_mg_12, ab_mg_13, ab_mg_14, ab_mg_15, ab_mg_16, ab_mg_17, ab_mg_18, ab_mg_19, ab_mg_20, ab_mg_21, ab_mg_22, ab_mg_23, ab_mg_24, ab_mg_25, ab_mg_26, ab_mg_27, ab_mg_28, ab_mg_29, ab_mg_30, ab_mg_31, ab_mg_32, ab_mg_33, ab_ms_8, ab_ms_10, ab_ms_11, ab_ms_17, ab_ms_21, ab_ms_22, ab_ms_24, ab_ms_25, ab_ms_26, ab_ms_29, ab_ms_32, ab_mol_l, Nat.reduceLT, Nat.reduceLeDiff, ab_vc, ab_sv_12_216, ab_sv_12_210, ab_sv_12_210, ab_sv_12_210, ab_sv_12_139, ab_sv_12_219, n68, k26', kr, ck, hir, Nat.reduceLeDiff]
            refine mp_termDone n68 (ab_mst_fr (fun a _ _ => e3 a (by omega) (by omega) (by omega) (by omega)) hst2) hl (ab_mad_fr (e3 82 (by decide) (by decide) (by decide) (by decide)) mad) n83 n84 ((e3 88 (by decide) (by decide) (by decide) (by decide)).trans m88) ((e3 89 (by decide) (by decide) (by decide) (by decide)).trans m89) ⟨i0, by omega⟩ hx hGx hlv fun h4 tl4 th4 e4 t68 t83 t84 t4 => ?_
            rw [ab_su_su] at t68
            rw [ab_AT_cg q1] at t4
            have t90 := (e4 90 (by decide) (by decide) (by decide)).trans n90
            have t87 := (e4 87 (by decide) (by decide) (by decide)).trans ((e3 87 (by decide) (by decide) (by decide) (by decide)).trans m87)
            have G68 : ∀ c, ab_hs h4 90 c 68 = some (ab_mo (ab_su σ1 17 tl4)) := fun c => (ab_hs_ne (by decide)).trans t68
            have G83 : ∀ c, ab_hs h4 90 c 83 = some (ab_ia 7 th4) := fun c => (ab_hs_ne (by decide)).trans t83
            have G87 : ∀ c, ab_hs h4 90 c 87 = some (ab_ia 30 F) := fun c => (ab_hs_ne (by decide)).trans t87
            simp only [s165_123, s165_124, true_and, and_true, true_implies, Option.toList_some, Option.toList_none, List.nil_append, List.cons_append, List.map_nil, List.map_cons, List.sum_nil, List.sum_cons, Nat.zero_le, ab_nl_n, ab_nl_i, ab_nl_r, ab_nl_0, ab_cat_i, ab_cat_r, ab_cat_l, Nat.reduceAdd, Nat.reduceLeDiff, Nat.add_zero, Nat.zero_add, reduceIte, List.getElem?_cons_succ, List.getElem?_cons_zero, List.length_cons, List.length_nil, List.set_cons_zero, List.set_cons_succ, true_or, or_true, Classical.not_not, not_true_eq_false, not_false_eq_true, ab_01r, ab_01z, ab_01n, false_implies, ab_tt, Nat.reduceLT, Nat.reduceEqDiff, Int.reduceNeg, Int.reduceLT, Int.reduceLE, Int.add_zero, Int.zero_add, List.append_nil, Int.reduceEq, ab_sum1, ab_ri_0, ab_ri_1, ab_ri_2, ab_ri_3, ab_ri_4, ab_ri_5, ab_ri_6, ab_ri_7, ab_ri_8, ab_ri_12, ab_ri_30, ab_ri_60, ab_ri_100, ab_ri_101, ab_ri_127, ab_ri_m1, ab_ri_m2, ab_ri_m3, ab_ri_m4, ab_ri_m5, ab_ri_m11, ab_ri_m13, ab_ri_m14, ab_ri_10, z5]
            refine ab_lp 0 7 (fun j => [some (vr 68), some (vi v), some (vi 1), some (vi lv0), some (vi i), some (vi j)]) (fun j => ab_hs h4 90 (ab_ia 7 (ab_fi (fun j => (S j + th4 j * F i) % 101) S 0 j))) (by decide) rfl (by rw [ab_fi_0, ab_hs_id t90]) ?_ ?_
            · have ih := ih (ab_hs h4 90 (ab_ia 7 (ab_fi (fun j => (S j + th4 j * F i) % 101) S 0 7))) tl4 _ (some (vi 7)) rfl (fun a a1 a2 a3 a4 => (ab_hs_ne a4).trans ((e4 a a1 a2 a3).trans (e3 a a1 a2 a3 a4))) (G68 _) ⟨_, G83 _⟩ (by obtain ⟨b4, t84⟩ := t84; exact ⟨b4, (ab_hs_ne (by decide)).trans t84⟩) ab_hs_self (fun j j0 j7 => by
                rw [ab_fi_lo ⟨j0, j7⟩, ei, ab_sfo, ab_sma_eq (fun i _ _ => ab_sfo_r _ i) j j0 j7, ← hS j j0 j7, (t4 j j0 j7).1, hx.1])
              rw [s165_126]
              simp only [s165_128, s165_130, s165_172, s165_175, true_and, and_true, true_implies, Option.toList_some, Option.toList_none, List.nil_append, List.cons_append, List.map_nil, List.map_cons, List.sum_nil, List.sum_cons, Nat.zero_le, ab_nl_n, ab_nl_i, ab_nl_r, ab_nl_0, ab_cat_i, ab_cat_r, ab_cat_l, Nat.reduceAdd, Nat.reduceLeDiff, Nat.add_zero, Nat.zero_add, reduceIte, List.getElem?_cons_succ, List.getElem?_cons_zero, List.length_cons, List.length_nil, List.set_cons_zero, List.set_cons_succ, true_or, or_true, Classical.not_not, not_true_eq_false, not_false_eq_true, ab_01r, ab_01z, ab_01n, false_implies, ab_tt, Nat.reduceLT, Nat.reduceEqDiff, Int.reduceNeg, Int.reduceLT, Int.reduceLE, Int.add_zero, Int.zero_add, List.append_nil, Int.reduceEq, ab_sum1, ab_ri_0, ab_ri_1, ab_ri_2, ab_ri_3, ab_ri_4, ab_ri_5, ab_ri_6, ab_ri_7, ab_ri_8, ab_ri_12, ab_ri_30, ab_ri_60, ab_ri_100, ab_ri_101, ab_ri_127, ab_ri_m1, ab_ri_m2, ab_ri_m3, ab_ri_m4, ab_ri_m5, ab_ri_m11, ab_ri_m13, ab_ri_m14, ab_ri_10, h7, Int.le_refl, ih]
            · intro j j0 j9 ihj
              have c : ¬ 7 ≤ j := by omega
              have j7 : j < ((7 : Nat) : Int) := j9
              have i30 : i < ((30 : Nat) : Int) := by omega
              have sr : 0 ≤ S j ∧ S j ≤ 100 := by rw [hS j j0 j9]; exact ab_sfo_r _ j
              have tr := (t4 j j0 j9).2
              have fr : 1 ≤ F i ∧ F i ≤ 99 := ⟨by rw [hx.1]; exact hx.2.1, by rw [hx.1]; exact hx.2.2.1⟩
              have mr : 0 ≤ th4 j * F i ∧ th4 j * F i ≤ 9900 := ⟨Int.mul_nonneg tr.1 (by omega), Int.le_trans (Int.mul_le_mul tr.2 fr.2 (by omega) (by omega)) (by omega)⟩
              have em : (S j + th4 j * F i).tmod 101 = (S j + th4 j * F i) % 101 := Int.tmod_eq_emod_of_nonneg (by omega)
              have es := ab_fi_s (g := fun j => (S j + th4 j * F i) % 101) (f := S) (a := 0) (i := j) (x := (S j + th4 j * F i) % 101) j0 rfl
              rw [← es] at ihj
              have efi : ab_fi (fun j => (S j + th4 j * F i) % 101) S 0 j j = S j := ab_fi_hi (Int.le_refl j)
              have rr : ab_inR (S j + th4 j * F i) = True := eq_true (by omega)
              have r101 : ab_inR 101 = True := eq_true (by omega)
              rw [s165_126]
              simp only [s165_128, s165_130, s165_133, s165_134, s165_137, s165_139, s165_140, s165_143, s165_145, s165_146, s165_147, s165_150, s165_152, s165_153, s165_154, s165_157, s165_159, s165_160, s165_161, s165_162, s165_164, s165_165, s165_166, s165_169, true_and, and_true, true_implies, Option.toList_some, Option.toList_none, List.nil_append, List.cons_append, List.map_nil, List.map_cons, List.sum_nil, List.sum_cons, Nat.zero_le, ab_nl_n, ab_nl_i, ab_nl_r, ab_nl_0, ab_cat_i, ab_cat_r, ab_cat_l, Nat.reduceAdd, Nat.reduceLeDiff, Nat.add_zero, Nat.zero_add, reduceIte, List.getElem?_cons_succ, List.getElem?_cons_zero, List.length_cons, List.length_nil, List.set_cons_zero, List.set_cons_succ, true_or, or_true, Classical.not_not, not_true_eq_false, not_false_eq_true, ab_01r, ab_01z, ab_01n, false_implies, ab_tt, Nat.reduceLT, Nat.reduceEqDiff, Int.reduceNeg, Int.reduceLT, Int.reduceLE, Int.add_zero, Int.zero_add, List.append_nil, Int.reduceEq, ab_sum1, ab_ri_0, ab_ri_1, ab_ri_2, ab_ri_3, ab_ri_4, ab_ri_5, ab_ri_6, ab_ri_7, ab_ri_8, ab_ri_12, ab_ri_30, ab_ri_60, ab_ri_100, ab_ri_101, ab_ri_127, ab_ri_m1, ab_ri_m2, ab_ri_m3, ab_ri_m4, ab_ri_m5, ab_ri_m11, ab_ri_m13, ab_ri_m14, ab_ri_10, ab_fd, ab_fs, ab_ai, ab_as, ab_fit, ab_tyf, tyX12, ab_mg_0, ab_mg_1, ab_mg_2, ab_mg_3, ab_mg_4, ab_mg_5, ab_mg_6, ab_mg_7, ab_mg_8, ab_mg_9, ab_mg_10, ab_mg_11, ab_mg_12, ab_mg_13, ab_mg_14, ab_mg_15, ab_mg_16, ab_mg_17, ab_mg_18, ab_mg_19, ab_mg_20, ab_mg_21, ab_mg_22, ab_mg_23, ab_mg_24, ab_mg_25, ab_mg_26, ab_mg_27, ab_mg_28, ab_mg_29, ab_mg_30, ab_mg_31, ab_mg_32, ab_mg_33, ab_ms_8, ab_ms_10, ab_ms_11, ab_ms_17, ab_ms_21, ab_ms_22, ab_ms_24, ab_ms_25, ab_ms_26, ab_ms_29, ab_ms_32, ab_mol_l, Nat.reduceLT, Nat.reduceLeDiff, G68, G83, G87, ab_hs_self, ab_hs_hs, c, h7, i0, i30, j0, j7, efi, em, rr, ihj] <;> omega
        · intro j j0 j9 ih
          have c : ¬ 7 ≤ j := by omega
          have j7 : j < ((7 : Nat) : Int) := j9
          have es := ab_fi_s (g := fun _ : Int => (0 : Int)) (f := smm) (a := 0) (i := j) (x := 0) j0 rfl
          rw [← es] at ih
          have G68 : ∀ c, ab_hs h2 90 c 68 = some (ab_mo σ1) := fun c => (ab_hs_ne (by decide)).trans m68
          rw [s165_84]
          simp only [s165_86, s165_88, s165_91, s165_92, s165_95, s165_97, s165_98, s165_99, s165_102, true_and, and_true, true_implies, Option.toList_some, Option.toList_none, List.nil_append, List.cons_append, List.map_nil, List.map_cons, List.sum_nil, List.sum_cons, Nat.zero_le, ab_nl_n, ab_nl_i, ab_nl_r, ab_nl_0, ab_cat_i, ab_cat_r, ab_cat_l, Nat.reduceAdd, Nat.reduceLeDiff, Nat.add_zero, Nat.zero_add, reduceIte, List.getElem?_cons_succ, List.getElem?_cons_zero, List.length_cons, List.length_nil, List.set_cons_zero, List.set_cons_succ, true_or, or_true, Classical.not_not, not_true_eq_false, not_false_eq_true, ab_01r, ab_01z, ab_01n, false_implies, ab_tt, Nat.reduceLT, Nat.reduceEqDiff, Int.reduceNeg, Int.reduceLT, Int.reduceLE, Int.add_zero, Int.zero_add, List.append_nil, Int.reduceEq, ab_sum1, ab_ri_0, ab_ri_1, ab_ri_2, ab_ri_3, ab_ri_4, ab_ri_5, ab_ri_6, ab_ri_7, ab_ri_8, ab_ri_12, ab_ri_30, ab_ri_60, ab_ri_100, ab_ri_101, ab_ri_127, ab_ri_m1, ab_ri_m2, ab_ri_m3, ab_ri_m4, ab_ri_m5, ab_ri_m11, ab_ri_m13, ab_ri_m14, ab_ri_10, ab_fd, ab_fs, ab_ai, ab_as, ab_fit, ab_tyf, tyX12, ab_mg_0, ab_mg_1, ab_mg_2, ab_mg_3, ab_mg_4, ab_mg_5, ab_mg_6, ab_mg_7, ab_mg_8, ab_mg_9, ab_mg_10, ab_mg_11, ab_mg_12, ab_mg_13, ab_mg_14, ab_mg_15, ab_mg_16, ab_mg_17, ab_mg_18, ab_mg_19, ab_mg_20, ab_mg_21, ab_mg_22, ab_mg_23, ab_mg_24, ab_mg_25, ab_mg_26, ab_mg_27, ab_mg_28, ab_mg_29, ab_mg_30, ab_mg_31, ab_mg_32, ab_mg_33, ab_ms_8, ab_ms_10, ab_ms_11, ab_ms_17, ab_ms_21, ab_ms_22, ab_ms_24, ab_ms_25, ab_ms_26, ab_ms_29, ab_ms_32, ab_mol_l, Nat.reduceLT, Nat.reduceLeDiff, G68, ab_hs_self, ab_hs_hs, c, h7, j0, j7, ih] <;> omega
      · intro i i0 i9 ih hall
        have ec : ((i.toNat : Nat) : Int) = i := Int.toNat_of_nonneg i0
        have hx := eat i.toNat (by omega)
        rw [ec] at hx
        have hGx := hG1 i.toNat (by omega)
        rw [ec] at hGx
        have ck : ¬ (k : Int) ≤ i := by omega
        have hir : ab_inR i = True := eq_true (by omega)
        have lvri := lvr i.toNat
        have lvri' := eq_true lvri
        have lvr0' := eq_true lvr0
        have bad : (ab_rdr X).1 = -3 → ab_G 165 68 [some (vr 68), some (vi v), some (vi 1), some (vi (ab_lvt (ab_tx tp (X 5 1) 0).2.2 (ab_tx tp (X 5 1) 0).2.1)), some (vi i), none] [] h1 n (0, 0) Q := by
          intro e
          rw [e, if_neg (fun z => absurd z.2 (by decide))] at q
          have q := q h1 (fun a ha => O a (by omega) (by omega) (by omega) (by omega)) ⟨σ1, O68, scl, hst1, hp1, hw1⟩
          have r3 : ab_inR (-3) = True := eq_true (by omega)
          simp only [s165_68, s165_70, true_and, and_true, true_implies, Option.toList_some, Option.toList_none, List.nil_append, List.cons_append, List.map_nil, List.map_cons, List.sum_nil, List.sum_cons, Nat.zero_le, ab_nl_n, ab_nl_i, ab_nl_r, ab_nl_0, ab_cat_i, ab_cat_r, ab_cat_l, Nat.reduceAdd, Nat.reduceLeDiff, Nat.add_zero, Nat.zero_add, reduceIte, List.getElem?_cons_succ, List.getElem?_cons_zero, List.length_cons, List.length_nil, List.set_cons_zero, List.set_cons_succ, true_or, or_true, Classical.not_not, not_true_eq_false, not_false_eq_true, ab_01r, ab_01z, ab_01n, false_implies, ab_tt, Nat.reduceLT, Nat.reduceEqDiff, Int.reduceNeg, Int.reduceLT, Int.reduceLE, Int.add_zero, Int.zero_add, List.append_nil, Int.reduceEq, ab_sum1, ab_ri_0, ab_ri_1, ab_ri_2, ab_ri_3, ab_ri_4, ab_ri_5, ab_ri_6, ab_ri_7, ab_ri_8, ab_ri_12, ab_ri_30, ab_ri_60, ab_ri_100, ab_ri_101, ab_ri_127, ab_ri_m1, ab_ri_m2, ab_ri_m3, ab_ri_m4, ab_ri_m5, ab_ri_m11, ab_ri_m13, ab_ri_m14, ab_ri_10, q]
        rw [s165_40]
        simp only [s165_42, s165_43, s165_46, s165_49, s165_50, s165_52, true_and, and_true, true_implies, Option.toList_some, Option.toList_none, List.nil_append, List.cons_append, List.map_nil, List.map_cons, List.sum_nil, List.sum_cons, Nat.zero_le, ab_nl_n, ab_nl_i, ab_nl_r, ab_nl_0, ab_cat_i, ab_cat_r, ab_cat_l, Nat.reduceAdd, Nat.reduceLeDiff, Nat.add_zero, Nat.zero_add, reduceIte, List.getElem?_cons_succ, List.getElem?_cons_zero, List.length_cons, List.length_nil, List.set_cons_zero, List.set_cons_succ, true_or, or_true, Classical.not_not, not_true_eq_false, not_false_eq_true, ab_01r, ab_01z, ab_01n, false_implies, ab_tt, Nat.reduceLT, Nat.reduceEqDiff, Int.reduceNeg, Int.reduceLT, Int.reduceLE, Int.add_zero, Int.zero_add, List.append_nil, Int.reduceEq, ab_sum1, ab_ri_0, ab_ri_1, ab_ri_2, ab_ri_3, ab_ri_4, ab_ri_5, ab_ri_6, ab_ri_7, ab_ri_8, ab_ri_12, ab_ri_30, ab_ri_60, ab_ri_100, ab_ri_101, ab_ri_127, ab_ri_m1, ab_ri_m2, ab_ri_m3, ab_ri_m4, ab_ri_m5, ab_ri_m11, ab_ri_m13, ab_ri_m14, ab_ri_10, ab_fd, ab_fs, ab_ai, ab_as, ab_fit, ab_tyf, tyX12, ab_mg_0, ab_mg_1, ab_mg_2, ab_mg_3, ab_mg_4, ab_mg_5, ab_mg_6, ab_mg_7, ab_mg_8, ab_mg_9, ab_mg_10, ab_mg_11, ab_mg_12, ab_mg_13, ab_mg_14, ab_mg_15, ab_mg_16, ab_mg_17, ab_mg_18, ab_mg_19, ab_mg_20, ab_mg_21, ab_mg_22, ab_mg_23, ab_mg_24, ab_mg_25, ab_mg_26, ab_mg_27, ab_mg_28, ab_mg_29, ab_mg_30, ab_mg_31, ab_mg_32, ab_mg_33, ab_ms_8, ab_ms_10, ab_ms_11, ab_ms_17, ab_ms_21, ab_ms_22, ab_ms_24, ab_ms_25, ab_ms_26, ab_ms_29, ab_ms_32, ab_mol_l, Nat.reduceLT, Nat.reduceLeDiff, ab_vc, ab_sv_12_216, ab_sv_12_210, ab_sv_12_210, ab_sv_12_210, ab_sv_12_139, ab_sv_12_219, O68, k26, kr, ck, hir, Nat.reduceLeDiff]
        refine mp_levelOfTerm O68 O88 O89 ⟨i0, by omega⟩ hx hGx ?_
        by_cases cn : ab_lvt (ab_tx tp (X 5 1) i.toNat).2.2 (ab_tx tp (X 5 1) i.toNat).2.1 < 0
        · have b := bad (eb i.toNat (by omega) (fun j hj => hall j (by omega)) (Or.inl cn))
          simp only [s165_55, true_and, and_true, true_implies, Option.toList_some, Option.toList_none, List.nil_append, List.cons_append, List.map_nil, List.map_cons, List.sum_nil, List.sum_cons, Nat.zero_le, ab_nl_n, ab_nl_i, ab_nl_r, ab_nl_0, ab_cat_i, ab_cat_r, ab_cat_l, Nat.reduceAdd, Nat.reduceLeDiff, Nat.add_zero, Nat.zero_add, reduceIte, List.getElem?_cons_succ, List.getElem?_cons_zero, List.length_cons, List.length_nil, List.set_cons_zero, List.set_cons_succ, true_or, or_true, Classical.not_not, not_true_eq_false, not_false_eq_true, ab_01r, ab_01z, ab_01n, false_implies, ab_tt, Nat.reduceLT, Nat.reduceEqDiff, Int.reduceNeg, Int.reduceLT, Int.reduceLE, Int.add_zero, Int.zero_add, List.append_nil, Int.reduceEq, ab_sum1, ab_ri_0, ab_ri_1, ab_ri_2, ab_ri_3, ab_ri_4, ab_ri_5, ab_ri_6, ab_ri_7, ab_ri_8, ab_ri_12, ab_ri_30, ab_ri_60, ab_ri_100, ab_ri_101, ab_ri_127, ab_ri_m1, ab_ri_m2, ab_ri_m3, ab_ri_m4, ab_ri_m5, ab_ri_m11, ab_ri_m13, ab_ri_m14, ab_ri_10, cn, lvri', b]
        · simp only [s165_55, s165_58, s165_59, s165_61, true_and, and_true, true_implies, Option.toList_some, Option.toList_none, List.nil_append, List.cons_append, List.map_nil, List.map_cons, List.sum_nil, List.sum_cons, Nat.zero_le, ab_nl_n, ab_nl_i, ab_nl_r, ab_nl_0, ab_cat_i, ab_cat_r, ab_cat_l, Nat.reduceAdd, Nat.reduceLeDiff, Nat.add_zero, Nat.zero_add, reduceIte, List.getElem?_cons_succ, List.getElem?_cons_zero, List.length_cons, List.length_nil, List.set_cons_zero, List.set_cons_succ, true_or, or_true, Classical.not_not, not_true_eq_false, not_false_eq_true, ab_01r, ab_01z, ab_01n, false_implies, ab_tt, Nat.reduceLT, Nat.reduceEqDiff, Int.reduceNeg, Int.reduceLT, Int.reduceLE, Int.add_zero, Int.zero_add, List.append_nil, Int.reduceEq, ab_sum1, ab_ri_0, ab_ri_1, ab_ri_2, ab_ri_3, ab_ri_4, ab_ri_5, ab_ri_6, ab_ri_7, ab_ri_8, ab_ri_12, ab_ri_30, ab_ri_60, ab_ri_100, ab_ri_101, ab_ri_127, ab_ri_m1, ab_ri_m2, ab_ri_m3, ab_ri_m4, ab_ri_m5, ab_ri_m11, ab_ri_m13, ab_ri_m14, ab_ri_10, ab_vc, ab_sv_12_216, ab_sv_12_210, ab_sv_12_210, ab_sv_12_210, ab_sv_12_139, ab_sv_12_219, O68, cn, lvri', Nat.reduceLeDiff]
          refine mp_levelOfTerm O68 O88 O89 ⟨i0, by omega⟩ hx hGx ?_
          by_cases ce : ab_lvt (ab_tx tp (X 5 1) i.toNat).2.2 (ab_tx tp (X 5 1) i.toNat).2.1 = ab_lvt (ab_tx tp (X 5 1) 0).2.2 (ab_tx tp (X 5 1) 0).2.1
          · have ih := ih (fun j hj => by
              by_cases e : (j : Int) = i
              · rw [show j = i.toNat by omega]
                exact ⟨ce, by omega⟩
              · exact hall j (by omega))
            have cet := eq_true ce
            simp only [s165_64, s165_65, s165_71, s165_74, true_and, and_true, true_implies, Option.toList_some, Option.toList_none, List.nil_append, List.cons_append, List.map_nil, List.map_cons, List.sum_nil, List.sum_cons, Nat.zero_le, ab_nl_n, ab_nl_i, ab_nl_r, ab_nl_0, ab_cat_i, ab_cat_r, ab_cat_l, Nat.reduceAdd, Nat.reduceLeDiff, Nat.add_zero, Nat.zero_add, reduceIte, List.getElem?_cons_succ, List.getElem?_cons_zero, List.length_cons, List.length_nil, List.set_cons_zero, List.set_cons_succ, true_or, or_true, Classical.not_not, not_true_eq_false, not_false_eq_true, ab_01r, ab_01z, ab_01n, false_implies, ab_tt, Nat.reduceLT, Nat.reduceEqDiff, Int.reduceNeg, Int.reduceLT, Int.reduceLE, Int.add_zero, Int.zero_add, List.append_nil, Int.reduceEq, ab_sum1, ab_ri_0, ab_ri_1, ab_ri_2, ab_ri_3, ab_ri_4, ab_ri_5, ab_ri_6, ab_ri_7, ab_ri_8, ab_ri_12, ab_ri_30, ab_ri_60, ab_ri_100, ab_ri_101, ab_ri_127, ab_ri_m1, ab_ri_m2, ab_ri_m3, ab_ri_m4, ab_ri_m5, ab_ri_m11, ab_ri_m13, ab_ri_m14, ab_ri_10, cet, lvri', lvr0', ih]
          · have b := bad (eb i.toNat (by omega) (fun j hj => hall j (by omega)) (Or.inr ce))
            simp only [s165_64, s165_65, true_and, and_true, true_implies, Option.toList_some, Option.toList_none, List.nil_append, List.cons_append, List.map_nil, List.map_cons, List.sum_nil, List.sum_cons, Nat.zero_le, ab_nl_n, ab_nl_i, ab_nl_r, ab_nl_0, ab_cat_i, ab_cat_r, ab_cat_l, Nat.reduceAdd, Nat.reduceLeDiff, Nat.add_zero, Nat.zero_add, reduceIte, List.getElem?_cons_succ, List.getElem?_cons_zero, List.length_cons, List.length_nil, List.set_cons_zero, List.set_cons_succ, true_or, or_true, Classical.not_not, not_true_eq_false, not_false_eq_true, ab_01r, ab_01z, ab_01n, false_implies, ab_tt, Nat.reduceLT, Nat.reduceEqDiff, Int.reduceNeg, Int.reduceLT, Int.reduceLE, Int.add_zero, Int.zero_add, List.append_nil, Int.reduceEq, ab_sum1, ab_ri_0, ab_ri_1, ab_ri_2, ab_ri_3, ab_ri_4, ab_ri_5, ab_ri_6, ab_ri_7, ab_ri_8, ab_ri_12, ab_ri_30, ab_ri_60, ab_ri_100, ab_ri_101, ab_ri_127, ab_ri_m1, ab_ri_m2, ab_ri_m3, ab_ri_m4, ab_ri_m5, ab_ri_m11, ab_ri_m13, ab_ri_m14, ab_ri_10, ce, lvri', lvr0', b]
    · have eq := eft.trans ef
      rw [if_neg (show ¬ ab_rdf X < 0 by omega), if_neg (show ¬ (ab_rdf X < 0 ∧ 0 ≤ (ab_rdr X).1) from fun z => absurd z.1 (by omega)), eq] at q
      have O : ∀ a', a' ≠ 68 → a' ≠ 87 → a' ≠ 88 → a' ≠ 89 → ab_hs (ab_pz h σ a k m F G M) 68 (ab_mo (ab_su (ab_ps σ a k m) 8 0)) a' = h a' := fun a' h1 h2 h3 h4 => (ab_hs_ne h1).trans (ab_pz_o h1 h2 h3 h4)
      have q := q (ab_hs (ab_pz h σ a k m F G M) 68 (ab_mo (ab_su (ab_ps σ a k m) 8 0))) (fun a ha => O a (by omega) (by omega) (by omega) (by omega)) ⟨_, ab_hs_self, scl2 a k m, ab_mst_fr (fun a _ _ => O a (by omega) (by omega) (by omega) (by omega)) hst, ab_per_tp (ab_per_fr (fun a _ => O a (by omega) (by omega) (by omega) (by omega)) hp), ab_wrk_rd hw (fun a _ => O a (by omega) (by omega) (by omega) (by omega)) ⟨T, (O 82 (by decide) (by decide) (by decide) (by decide)).trans w1⟩ ⟨th, (O 83 (by decide) (by decide) (by decide) (by decide)).trans w2⟩ ⟨bw, (O 84 (by decide) (by decide) (by decide) (by decide)).trans w3⟩ ⟨F, (ab_hs_ne (by decide)).trans ab_pz_87⟩ ⟨G, (ab_hs_ne (by decide)).trans ab_pz_88⟩ ⟨M, (ab_hs_ne (by decide)).trans ab_pz_89⟩ ⟨smm, (O 90 (by decide) (by decide) (by decide) (by decide)).trans w9⟩⟩
      have e25 : ab_su (ab_ps σ a k m) 8 0 25 = a := rfl
      have ar : ab_inR (-100 - a) = True := eq_true (by omega)
      simp only [s165_13, s165_14, s165_15, s165_16, s165_19, s165_20, s165_23, s165_25, s165_26, s165_29, s165_30, true_and, and_true, true_implies, Option.toList_some, Option.toList_none, List.nil_append, List.cons_append, List.map_nil, List.map_cons, List.sum_nil, List.sum_cons, Nat.zero_le, ab_nl_n, ab_nl_i, ab_nl_r, ab_nl_0, ab_cat_i, ab_cat_r, ab_cat_l, Nat.reduceAdd, Nat.reduceLeDiff, Nat.add_zero, Nat.zero_add, reduceIte, List.getElem?_cons_succ, List.getElem?_cons_zero, List.length_cons, List.length_nil, List.set_cons_zero, List.set_cons_succ, true_or, or_true, Classical.not_not, not_true_eq_false, not_false_eq_true, ab_01r, ab_01z, ab_01n, false_implies, ab_tt, Nat.reduceLT, Nat.reduceEqDiff, Int.reduceNeg, Int.reduceLT, Int.reduceLE, Int.add_zero, Int.zero_add, List.append_nil, Int.reduceEq, ab_sum1, ab_ri_0, ab_ri_1, ab_ri_2, ab_ri_3, ab_ri_4, ab_ri_5, ab_ri_6, ab_ri_7, ab_ri_8, ab_ri_12, ab_ri_30, ab_ri_60, ab_ri_100, ab_ri_101, ab_ri_127, ab_ri_m1, ab_ri_m2, ab_ri_m3, ab_ri_m4, ab_ri_m5, ab_ri_m11, ab_ri_m13, ab_ri_m14, ab_ri_10, ab_fd, ab_fs, ab_ai, ab_as, ab_fit, ab_tyf, tyX12, ab_mg_0, ab_mg_1, ab_mg_2, ab_mg_3, ab_mg_4, ab_mg_5, ab_mg_6, ab_mg_7, ab_mg_8, ab_mg_9, ab_mg_10, ab_mg_11, ab_mg_12, ab_mg_13, ab_mg_14, ab_mg_15, ab_mg_16, ab_mg_17, ab_mg_18, ab_mg_19, ab_mg_20, ab_mg_21, ab_mg_22, ab_mg_23, ab_mg_24, ab_mg_25, ab_mg_26, ab_mg_27, ab_mg_28, ab_mg_29, ab_mg_30, ab_mg_31, ab_mg_32, ab_mg_33, ab_ms_8, ab_ms_10, ab_ms_11, ab_ms_17, ab_ms_21, ab_ms_22, ab_ms_24, ab_ms_25, ab_ms_26, ab_ms_29, ab_ms_32, ab_mol_l, Nat.reduceLT, Nat.reduceLeDiff, ab_pz_68, ab_hs_self, r0, e25, ar, q]
  · rw [if_neg c1, if_neg c1] at q
    have q := q h (fun _ _ => rfl) J
    simp (disch := omega) only [s165_0, s165_1, s165_4, s165_7, s165_8, true_and, and_true, true_implies, Option.toList_some, Option.toList_none, List.nil_append, List.cons_append, List.map_nil, List.map_cons, List.sum_nil, List.sum_cons, Nat.zero_le, ab_nl_n, ab_nl_i, ab_nl_r, ab_nl_0, ab_cat_i, ab_cat_r, ab_cat_l, Nat.reduceAdd, Nat.reduceLeDiff, Nat.add_zero, Nat.zero_add, reduceIte, List.getElem?_cons_succ, List.getElem?_cons_zero, List.length_cons, List.length_nil, List.set_cons_zero, List.set_cons_succ, true_or, or_true, Classical.not_not, not_true_eq_false, not_false_eq_true, ab_01r, ab_01z, ab_01n, false_implies, ab_tt, Nat.reduceLT, Nat.reduceEqDiff, Int.reduceNeg, Int.reduceLT, Int.reduceLE, Int.add_zero, Int.zero_add, List.append_nil, Int.reduceEq, ab_sum1, ab_ri_0, ab_ri_1, ab_ri_2, ab_ri_3, ab_ri_4, ab_ri_5, ab_ri_6, ab_ri_7, ab_ri_8, ab_ri_12, ab_ri_30, ab_ri_60, ab_ri_100, ab_ri_101, ab_ri_127, ab_ri_m1, ab_ri_m2, ab_ri_m3, ab_ri_m4, ab_ri_m5, ab_ri_m11, ab_ri_m13, ab_ri_m14, ab_ri_10, mp_isVector, ab_01n, ab_01z, c1, q]
end MR
