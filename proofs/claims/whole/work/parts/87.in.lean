/-! ===== a new object, a new model ===== -/
def ab_X0 : ab_X := fun i => if i = 0 then ab_tb [0, 0, 0, 1] else if i = 8 then fun _ => -1 else fun _ => 0
def ab_Y0 : Int → Int64 := fun _ => 0
theorem ab_law0 : ab_lok (ab_tb [0, 0, 0, 1]) := by decide
theorem ab_XI_0 : ab_XI ab_X0 := by
  refine ⟨⟨ab_law0, fun v _ _ => ⟨Int.le_refl 0, show (0 : Int) ≤ 5 by decide⟩, fun i _ _ => ⟨Int.le_refl 0, show (0 : Int) ≤ 100 by decide⟩, ⟨Int.le_refl 0, show (0 : Int) ≤ 8 by decide⟩, fun i h0 (h1 : i < 0) => absurd h0 (by omega)⟩, ⟨Int.le_refl 0, show (0 : Int) ≤ 60 by decide⟩, fun i h0 (h1 : i < 0) => absurd h0 (by omega), ⟨Int.le_refl 0, show (0 : Int) ≤ 94 by decide⟩, fun i h0 (h1 : i < 0) => absurd h0 (by omega), Or.inl rfl, fun l _ _ => ⟨show (-1 : Int) ≤ -1 by decide, show (-1 : Int) ≤ 12 by decide⟩, fun z => absurd z (show ¬ (0 : Int) = 1 by decide)⟩
theorem ab_law0_u : ab_eqf 4 (ab_ui (ab_ui (ab_ui (ab_ui (fun _ => 0) 0 0) 1 0) 2 0) 3 1) (ab_tb [0, 0, 0, 1]) := by
  intro j h0 h4
  have e : j = 0 ∨ j = 1 ∨ j = 2 ∨ j = 3 := by omega
  rcases e with rfl | rfl | rfl | rfl <;> rfl
theorem ab_siz0_u : ab_eqf 4 (ab_ui (ab_ui (ab_ui (ab_ui (fun _ => 0) 0 (-1)) 1 (-1)) 2 (-1)) 3 (-1)) (fun _ => -1) := by
  intro j h0 h4
  have e : j = 0 ∨ j = 1 ∨ j = 2 ∨ j = 3 := by omega
  rcases e with rfl | rfl | rfl | rfl <;> rfl
theorem ab_ref4 {x0 x1 x2 x3 s : Nat} (e0 : x0 = s + 3) (e1 : x1 = s + 5) (e2 : x2 = s + 7) (e3 : x3 = s + 9) : ab_ui (ab_ui (ab_ui (ab_ui (fun _ => none) 0 (some x0)) 1 (some x1)) 2 (some x2)) 3 (some x3) = fun i => if 0 ≤ i ∧ i < 4 then some (ab_va s i) else none := by
  subst e0; subst e1; subst e2; subst e3
  funext i
  by_cases h : 0 ≤ i ∧ i < 4
  · rw [if_pos h]
    have e : i = 0 ∨ i = 1 ∨ i = 2 ∨ i = 3 := by omega
    rcases e with rfl | rfl | rfl | rfl <;> rfl
  · rw [if_neg h, ab_ui_ne (by omega), ab_ui_ne (by omega), ab_ui_ne (by omega), ab_ui_ne (by omega)]
theorem ab_ref5 : ab_ui (ab_ui (ab_ui (ab_ui (ab_ui (fun _ => none) 0 (some 35)) 1 (some 36)) 2 (some 37)) 3 (some 38)) 4 (some 39) = fun i => if 0 ≤ i ∧ i < 5 then some (35 + i.toNat) else none := by
  funext i
  by_cases h : 0 ≤ i ∧ i < 5
  · rw [if_pos h]
    have e : i = 0 ∨ i = 1 ∨ i = 2 ∨ i = 3 ∨ i = 4 := by omega
    rcases e with rfl | rfl | rfl | rfl | rfl <;> rfl
  · rw [if_neg h, ab_ui_ne (by omega), ab_ui_ne (by omega), ab_ui_ne (by omega), ab_ui_ne (by omega), ab_ui_ne (by omega)]
theorem ab_st0 : ab_ui (ab_ui (ab_ui (ab_ui (ab_ui (ab_ui (ab_ui (fun _ => 0) 0 0) 1 1) 2 2) 3 4) 4 7) 5 12) 6 19 = ab_START := by
  have e0 : (fun _ => (0 : Int)) = ab_pf ab_START 0 := ab_pf_0.symm
  have e1 : ab_ui (ab_pf ab_START 0) 0 0 = ab_pf ab_START 1 := ab_pf_u rfl
  have e2 : ab_ui (ab_pf ab_START 1) 1 1 = ab_pf ab_START 2 := ab_pf_u rfl
  have e3 : ab_ui (ab_pf ab_START 2) 2 2 = ab_pf ab_START 3 := ab_pf_u rfl
  have e4 : ab_ui (ab_pf ab_START 3) 3 4 = ab_pf ab_START 4 := ab_pf_u rfl
  have e5 : ab_ui (ab_pf ab_START 4) 4 7 = ab_pf ab_START 5 := ab_pf_u rfl
  have e6 : ab_ui (ab_pf ab_START 5) 5 12 = ab_pf ab_START 6 := ab_pf_u rfl
  have e7 : ab_ui (ab_pf ab_START 6) 6 19 = ab_pf ab_START 7 := ab_pf_u rfl
  rw [e0, e1, e2, e3, e4, e5, e6, e7]
  exact ab_pf_all rfl
theorem ab_stx_0 {h : ab_H} {s : Nat} {f : Int → Option Nat} (h1 : h s = some (.inl (4, [vr (s + 1), vr (s + 2), vr (s + 11), vr (s + 12), vi 0]))) (h2 : h (s + 1) = some (ab_ia 4 (ab_ui (ab_ui (ab_ui (ab_ui (fun _ => 0) 0 0) 1 0) 2 0) 3 1))) (h3 : h (s + 2) = some (.inr (.inr (.inr (4, 4, f))))) (hf : f = fun i => if 0 ≤ i ∧ i < 4 then some (ab_va s i) else none)
    (h4 : h (s + 3) = some (ab_vec (s + 4) 0)) (h5 : h (s + 4) = some (ab_ia 7 (fun _ => 0))) (h6 : h (s + 5) = some (ab_vec (s + 6) 0)) (h7 : h (s + 6) = some (ab_ia 7 (fun _ => 0))) (h8 : h (s + 7) = some (ab_vec (s + 8) 0)) (h9 : h (s + 8) = some (ab_ia 7 (fun _ => 0))) (h10 : h (s + 9) = some (ab_vec (s + 10) 0)) (h11 : h (s + 10) = some (ab_ia 7 (fun _ => 0))) (h12 : h (s + 11) = some (ab_ia 8 (fun _ => 0))) (h13 : h (s + 12) = some (ab_ia 8 (fun _ => 0))) :
    ab_stx h s (ab_ui (ab_ui (ab_ui (ab_ui (fun _ => 0) 0 0) 1 0) 2 0) 3 1) (fun _ => 0) (fun _ _ => 0) (fun _ => 0) (fun _ => 0) 0 := by
  subst hf
  refine ⟨h1, h2, h3, fun v v0 v4 => ?_, h12, h13⟩
  have e : v = 0 ∨ v = 1 ∨ v = 2 ∨ v = 3 := by omega
  rcases e with rfl | rfl | rfl | rfl
  · exact ⟨h4, h5⟩
  · exact ⟨h6, h7⟩
  · exact ⟨h8, h9⟩
  · exact ⟨h10, h11⟩
set_option maxRecDepth 10000 in
theorem ab_JC_0 {h h' : ab_H} (he : ∀ a, a < 68 → h' a = ab_mkc h 6 (ab_c68 6) a) : ab_JC ab_X0 ab_Y0 h' := by
  have t : ∀ (k : Nat) (c : ab_C), 6 + k < 68 → k < 62 → (ab_c68 6)[k]? = some c → h' (6 + k) = some c := fun k c h1 h2 h3 => (he _ h1).trans ((ab_mkc_at h2).trans h3)
  have s1 := ab_stx_0 (h := h') (s := 7) (t 1 _ (by decide) (by decide) rfl) (t 2 _ (by decide) (by decide) rfl) (t 3 _ (by decide) (by decide) rfl) (ab_ref4 rfl rfl rfl rfl) (t 4 _ (by decide) (by decide) rfl) (t 5 _ (by decide) (by decide) rfl) (t 6 _ (by decide) (by decide) rfl) (t 7 _ (by decide) (by decide) rfl) (t 8 _ (by decide) (by decide) rfl) (t 9 _ (by decide) (by decide) rfl) (t 10 _ (by decide) (by decide) rfl) (t 11 _ (by decide) (by decide) rfl) (t 12 _ (by decide) (by decide) rfl) (t 13 _ (by decide) (by decide) rfl)
  have s2 := ab_stx_0 (h := h') (s := 20) (t 14 _ (by decide) (by decide) rfl) (t 15 _ (by decide) (by decide) rfl) (t 16 _ (by decide) (by decide) rfl) (ab_ref4 rfl rfl rfl rfl) (t 17 _ (by decide) (by decide) rfl) (t 18 _ (by decide) (by decide) rfl) (t 19 _ (by decide) (by decide) rfl) (t 20 _ (by decide) (by decide) rfl) (t 21 _ (by decide) (by decide) rfl) (t 22 _ (by decide) (by decide) rfl) (t 23 _ (by decide) (by decide) rfl) (t 24 _ (by decide) (by decide) rfl) (t 25 _ (by decide) (by decide) rfl) (t 26 _ (by decide) (by decide) rfl)
  refine ⟨t 0 _ (by decide) (by decide) rfl, ?_, ?_, ?_, ?_, ?_, ?_, ?_, ?_⟩
  · exact ⟨_, _, _, _, _, s1, ab_law0_u, fun _ _ _ => rfl, fun _ _ _ _ _ _ => rfl, fun _ _ _ => rfl, fun _ _ _ => rfl⟩
  · exact ⟨_, _, _, _, _, _, s2, fun z => absurd z (show ¬ (0 : Int) = 1 by decide)⟩
  · have k34 : h' 34 = some (.inr (.inr (.inr (5, 5, fun i => if 0 ≤ i ∧ i < 5 then some (35 + i.toNat) else none)))) := by
      rw [← ab_ref5]
      exact t 28 _ (by decide) (by decide) rfl
    exact ⟨fun _ => 0, fun _ => 0, fun _ => 0, fun _ => 0, -1, ⟨t 27 _ (by decide) (by decide) rfl, ⟨k34, t 29 _ (by decide) (by decide) rfl, t 30 _ (by decide) (by decide) rfl, t 31 _ (by decide) (by decide) rfl, t 32 _ (by decide) (by decide) rfl, t 33 _ (by decide) (by decide) rfl⟩, t 34 _ (by decide) (by decide) rfl, t 35 _ (by decide) (by decide) rfl, t 36 _ (by decide) (by decide) rfl, t 37 _ (by decide) (by decide) rfl, fun _ _ _ => ⟨Int.le_refl 0, show (0 : Int) ≤ 100 by decide⟩, fun _ _ _ => ⟨Int.le_refl 0, show (0 : Int) ≤ 100 by decide⟩⟩, ⟨fun _ _ => 0, fun _ => 0, 0, 0, 0, 0, t 38 _ (by decide) (by decide) rfl, t 39 _ (by decide) (by decide) rfl, t 40 _ (by decide) (by decide) rfl, fun _ _ _ _ _ _ => ⟨Int.le_refl 0, show (0 : Int) ≤ 100 by decide⟩⟩, ab_bt_no, ab_bt_no, by decide, by decide, fun _ _ _ => ⟨show (-2147483648 : Int) ≤ 0 by decide, show (0 : Int) < 2147483648 by decide⟩⟩
  · exact ⟨fun _ => 0, fun _ => 0, fun _ => 0, fun _ => 0, ⟨t 41 _ (by decide) (by decide) rfl, t 42 _ (by decide) (by decide) rfl, t 43 _ (by decide) (by decide) rfl, t 44 _ (by decide) (by decide) rfl, t 45 _ (by decide) (by decide) rfl⟩, fun _ _ _ => Or.inl rfl, fun _ _ _ => ⟨show (-2147483648 : Int) ≤ 0 by decide, show (0 : Int) < 2147483648 by decide⟩⟩
  · exact ⟨0, 0, 0, fun _ => 0, fun _ => 0, t 46 _ (by decide) (by decide) rfl, t 47 _ (by decide) (by decide) rfl, t 48 _ (by decide) (by decide) rfl, fun i h0 (h1 : i < 0) => absurd h0 (by omega)⟩
  · exact ⟨0, 0, 0, fun _ => 0, fun _ => 0, t 49 _ (by decide) (by decide) rfl, t 50 _ (by decide) (by decide) rfl, t 51 _ (by decide) (by decide) rfl, fun i h0 (h1 : i < 0) => absurd h0 (by omega)⟩
  · exact ⟨0, 0, fun _ => 0, fun _ => 0, t 52 _ (by decide) (by decide) rfl, t 53 _ (by decide) (by decide) rfl, t 54 _ (by decide) (by decide) rfl, t 55 _ (by decide) (by decide) rfl⟩
  · refine ⟨_, fun _ _ => 0, t 56 _ (by decide) (by decide) rfl, fun l l0 l4 => ?_, t 61 _ (by decide) (by decide) rfl, ab_siz0_u, fun _ _ _ _ _ _ => rfl⟩
    have e : l = 0 ∨ l = 1 ∨ l = 2 ∨ l = 3 := by omega
    rcases e with rfl | rfl | rfl | rfl
    · exact t 57 _ (by decide) (by decide) rfl
    · exact t 58 _ (by decide) (by decide) rfl
    · exact t 59 _ (by decide) (by decide) rfl
    · exact t 60 _ (by decide) (by decide) rfl
set_option maxRecDepth 10000 in
theorem ab_JM_0 {h h' : ab_H} (he : ∀ a, 68 ≤ a → a ≠ 71 → a ≠ 72 → a ≠ 73 → h' a = ab_mkc h 68 (ab_c117 68) a) (h71 : h' 71 = some (ab_ia 19 ab_LV)) (h72 : h' 72 = some (ab_ia 19 ab_LENGTH)) (h73 : h' 73 = some (ab_ia 95 ab_NUM)) : ab_JM ab_X0 ab_Y0 h' := by
  have t : ∀ (k : Nat) (c : ab_C), k ≠ 3 ∧ k ≠ 4 ∧ k ≠ 5 → k < 24 → (ab_c117 68)[k]? = some c → h' (68 + k) = some c := fun k c h1 h2 h3 => (he _ (by omega) (by omega) (by omega) (by omega)).trans ((ab_mkc_at h2).trans h3)
  have h70 : h' 70 = some (ab_ia 7 ab_START) := by
    rw [← ab_st0]
    exact t 2 _ (by decide) (by decide) rfl
  refine ⟨fun _ => 0, t 0 _ (by decide) (by decide) rfl, ⟨rfl, rfl, rfl, rfl⟩, ⟨h70, h71, h72, h73⟩, ⟨⟨_, t 1 _ (by decide) (by decide) rfl, ab_law0_u⟩, ⟨_, t 6 _ (by decide) (by decide) rfl, fun _ _ _ => rfl⟩, ⟨_, t 7 _ (by decide) (by decide) rfl, fun _ _ _ => rfl⟩, ⟨_, t 8 _ (by decide) (by decide) rfl, fun i h0 (h1 : i < 0) => absurd h0 (by omega)⟩, ⟨_, t 9 _ (by decide) (by decide) rfl, fun i h0 (h1 : i < 0) => absurd h0 (by omega)⟩, ⟨_, t 10 _ (by decide) (by decide) rfl, fun _ _ _ => rfl⟩, ⟨_, t 11 _ (by decide) (by decide) rfl, fun _ _ _ => rfl⟩, ⟨_, t 12 _ (by decide) (by decide) rfl, ab_siz0_u⟩, ⟨_, t 13 _ (by decide) (by decide) rfl, fun _ _ _ => rfl⟩, ⟨_, t 23 _ (by decide) (by decide) rfl, fun z => absurd z (show ¬ (0 : Int) = 1 by decide)⟩⟩, ⟨_, t 14 _ (by decide) (by decide) rfl⟩, ⟨_, t 15 _ (by decide) (by decide) rfl⟩, ⟨_, t 16 _ (by decide) (by decide) rfl⟩, ⟨fun _ _ => 0, t 17 _ (by decide) (by decide) rfl, fun _ _ _ _ _ _ => ⟨Int.le_refl 0, show (0 : Int) ≤ 100 by decide⟩⟩, ⟨_, t 18 _ (by decide) (by decide) rfl⟩, ⟨_, t 19 _ (by decide) (by decide) rfl⟩, ⟨_, t 20 _ (by decide) (by decide) rfl⟩, ⟨_, t 21 _ (by decide) (by decide) rfl⟩, ⟨_, t 22 _ (by decide) (by decide) rfl⟩⟩
theorem ab_mkc_nil {h : ab_H} {a : Nat} : ab_mkc h a [] = h := by
  funext x
  unfold ab_mkc
  rw [if_neg (by intro z; have z2 : x < a + 0 := z.2; omega)]
set_option maxRecDepth 10000 in
set_option maxHeartbeats 4000000 in
/-- the law from its entry -/
theorem lw_begin {m : Nat} {f : Int → Int} {h : ab_H} (hm : m ≤ 2560) (hf : ∀ j, 0 ≤ j → j < (m : Int) → ab_inR (f j)) (h0 : h 0 = some (ab_ia m f)) (hst : ab_stat h) : ab_G 196 0 [some (vr 0), none, none, none] [] h 6 (0, 0) (fun r _ _ => r = some (vi 1)) := by
  have start : ab_G 196 0 [some (vr 0), none, none, none] [] (ab_mkc h 6 []) (6 + 0) (0, 0) (fun r _ _ => r = some (vi 1)) := by
    refine ab_w_new 0 [.inl (11, [vo none, vo none, vi 0, vo none, vo none, vo none, vo none, vo none, vo none, vo none, vo none])] (1, 11) ab_e196 dL_law_0 (by rw [ab_n196, ab_w196]; exact ab_nw_14_7) rfl rfl rfl rfl (by decide) rfl ?_
    refine (ab_r_dup ab_e196 dL_law_3).mpr ⟨rfl, ?_⟩
    refine ab_w_init (As := []) 0 62 [] (ab_c68 6) (62, 1958) sp_i68c (by decide) ab_e196 dL_law_4 (by rw [ab_n196, ab_lk_14_9]) (by rw [ab_w196]; exact ab_si_14_9) (Nat.le_of_ble_eq_true rfl) (by decide) rfl rfl rfl rfl rfl rfl (Nat.le_of_ble_eq_true rfl) (by decide) rfl rfl ?_
    refine (ab_r_astore_n ab_e196 dL_law_7 (Nat.le_of_ble_eq_true rfl)).mpr ⟨rfl, ?_⟩
    refine ab_w_new 62 (ab_c68 6 ++ [.inl (12, [vo none, vo none, vo none, vo none, vo none, vo none, vo none, vo none, vi 0, vo none, vi 0, vi 0, vo none, vo none, vo none, vo none, vo none, vi 0, vo none, vo none, vo none, vi 0, vi 0, vo none, vi 0, vi 0, vi 0, vo none, vo none, vi 0, vo none, vo none, vi 0, vo none])]) (63, 1992) ab_e196 dL_law_8 (by rw [ab_n196, ab_w196]; exact ab_nw_14_10) rfl rfl rfl rfl (by decide) rfl ?_
    refine (ab_r_dup ab_e196 dL_law_11).mpr ⟨rfl, ?_⟩
    refine ab_r_init (As := []) (a := 6 + 62) ab_e196 dL_law_12 (by rw [ab_n196, ab_lk_14_12]) (by rw [ab_w196]; exact ab_si_14_12) (Nat.le_of_ble_eq_true rfl) (by decide) rfl rfl ⟨Nat.le_of_ble_eq_true rfl, by decide, ?_⟩
    rw [← ab_mkc_nest]
    refine sp_i117c (h := ab_mkc h 6 (ab_c68 6)) (a := 68) (by decide) ?_
    refine mp_tab (σ := fun _ => 0) rfl (by rw [← ab_st0]; rfl) rfl rfl rfl fun h2 e2 m1 m2 m3 => ?_
    have hlo : ∀ a, a < 68 → h2 a = ab_mkc h 6 (ab_c68 6) a := fun a ha => (e2 a (by omega) (by omega) (by omega)).trans (ab_mkc_o ha)
    have h6 : ∀ a, a < 6 → h2 a = h a := fun a ha => (hlo a (by omega)).trans (ab_mkc_o ha)
    have lp := lw_loop (Q := fun r _ _ => r = some (vi 1)) hm hf (fun _ => rfl) 512 0 ab_X0 ab_Y0 h2 (by omega) (by omega) (by omega) ((h6 0 (by decide)).trans h0) ⟨(h6 1 (by decide)).trans hst.1, (h6 2 (by decide)).trans hst.2.1, (h6 3 (by decide)).trans hst.2.2.1, (h6 4 (by decide)).trans hst.2.2.2.1, (h6 5 (by decide)).trans hst.2.2.2.2⟩ (ab_JC_0 hlo) (ab_JM_0 (fun a a0 a1 a2 a3 => e2 a a1 a2 a3) m1 m2 m3) ab_XI_0
    show ab_G 196 15 [some (vr 0), some (vr 6), none, none] [vr 68] h2 92 (86, 4245) _
    simp only [s196_15, s196_16, s196_17, true_and, and_true, true_implies, Option.toList_some, Option.toList_none, List.nil_append, List.cons_append, List.map_nil, List.map_cons, List.sum_nil, List.sum_cons, Nat.zero_le, ab_nl_n, ab_nl_i, ab_nl_r, ab_nl_0, ab_cat_i, ab_cat_r, ab_cat_l, Nat.reduceAdd, Nat.reduceLeDiff, Nat.add_zero, Nat.zero_add, reduceIte, List.getElem?_cons_succ, List.getElem?_cons_zero, List.length_cons, List.length_nil, List.set_cons_zero, List.set_cons_succ, true_or, or_true, Classical.not_not, not_true_eq_false, not_false_eq_true, ab_01r, ab_01z, ab_01n, false_implies, ab_tt, Nat.reduceLT, Nat.reduceEqDiff, Int.reduceNeg, Int.reduceLT, Int.reduceLE, Int.add_zero, Int.zero_add, List.append_nil, Int.reduceEq, ab_sum1, ab_ri_0, ab_ri_1, ab_ri_2, ab_ri_3, ab_ri_4, ab_ri_5, ab_ri_6, ab_ri_7, ab_ri_8, ab_ri_12, ab_ri_30, ab_ri_60, ab_ri_100, ab_ri_101, ab_ri_127, ab_ri_m1, ab_ri_m2, ab_ri_m3, ab_ri_m4, ab_ri_m5, ab_ri_m11, ab_ri_m13, ab_ri_m14, ab_ri_10, lp]
  rw [ab_mkc_nil] at start
  exact start
