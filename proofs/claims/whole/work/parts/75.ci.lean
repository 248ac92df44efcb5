/-! ===== constructors, row by row ===== -/
theorem ab_w0 : ab_own 0 = RX0 := rfl
theorem ab_n0 : ab_on 0 = 0 := rfl
theorem ab_w2 : ab_own 2 = RX1 := rfl
theorem ab_n2 : ab_on 2 = 1 := rfl
theorem ab_w5 : ab_own 5 = RX2 := rfl
theorem ab_n5 : ab_on 5 = 2 := rfl
theorem ab_w16 : ab_own 16 = RX3 := rfl
theorem ab_n16 : ab_on 16 = 3 := rfl
theorem ab_w30 : ab_own 30 = RX4 := rfl
theorem ab_n30 : ab_on 30 = 4 := rfl
theorem ab_w33 : ab_own 33 = RX5 := rfl
theorem ab_n33 : ab_on 33 = 5 := rfl
theorem ab_w36 : ab_own 36 = RX6 := rfl
theorem ab_n36 : ab_on 36 = 6 := rfl
theorem ab_w41 : ab_own 41 = RX7 := rfl
theorem ab_n41 : ab_on 41 = 7 := rfl
theorem ab_w55 : ab_own 55 = RX8 := rfl
theorem ab_n55 : ab_on 55 = 8 := rfl
theorem ab_w58 : ab_own 58 = RX9 := rfl
theorem ab_n58 : ab_on 58 = 9 := rfl
theorem ab_w60 : ab_own 60 = RX10 := rfl
theorem ab_n60 : ab_on 60 = 10 := rfl
theorem ab_w68 : ab_own 68 = RX11 := rfl
theorem ab_n68 : ab_on 68 = 11 := rfl
theorem ab_w117 : ab_own 117 = RX12 := rfl
theorem ab_n117 : ab_on 117 = 12 := rfl
theorem sp_i2 {c : ab_C} : ab_ci 2 [] c (fun _ => [c]) := by
  intro h a Q h6 q
  show ab_G 2 0 [some (vr a)] [] (ab_mkc h a [c]) (a + 1) (0, 0) Q
  refine (ab_r_aload_n ab_e2 dX1_init_0 rfl).mpr ?_
  refine ab_r_objinit ab_e2 dX1_init_1 (by rw [ab_n2, ab_lk_1_1]) (by rw [ab_w2]; exact ab_mo_1_1) (by decide) ⟨by decide, ?_⟩
  refine (ab_r_return (hc := ab_e2) dX1_init_4 rfl).mpr ⟨⟨by decide, by decide⟩, ?_⟩
  exact q
theorem sp_i0 {c : ab_C} : ab_ci 0 [] c (fun _ => [c]) := by
  intro h a Q h6 q
  show ab_G 0 0 [some (vr a)] [] (ab_mkc h a [c]) (a + 1) (0, 0) Q
  refine (ab_r_aload_n ab_e0 dX0_init_0 rfl).mpr ?_
  refine ab_w_init (As := []) 0 1 [] [c] (0, 0) (sp_i2 (c := c)) h6 ab_e0 dX0_init_1 (by rw [ab_n0, ab_lk_0_1]) (by rw [ab_w0]; exact ab_si_0_1) (Nat.le_of_ble_eq_true rfl) (by decide) rfl rfl rfl rfl rfl rfl (Nat.le_of_ble_eq_true rfl) (by decide) rfl rfl ?_
  refine (ab_r_return (hc := ab_e0) dX0_init_4 rfl).mpr ⟨⟨by decide, by decide⟩, ?_⟩
  exact q
theorem sp_i55 {c : ab_C} : ab_ci 55 [] c (fun _ => [c]) := by
  intro h a Q h6 q
  show ab_G 55 0 [some (vr a)] [] (ab_mkc h a [c]) (a + 1) (0, 0) Q
  refine (ab_r_aload_n ab_e55 dX8_init_0 rfl).mpr ?_
  refine ab_w_init (As := []) 0 1 [] [c] (0, 0) (sp_i0 (c := c)) h6 ab_e55 dX8_init_1 (by rw [ab_n55, ab_lk_8_1]) (by rw [ab_w55]; exact ab_si_8_1) (Nat.le_of_ble_eq_true rfl) (by decide) rfl rfl rfl rfl rfl rfl (Nat.le_of_ble_eq_true rfl) (by decide) rfl rfl ?_
  refine (ab_r_return (hc := ab_e55) dX8_init_4 rfl).mpr ⟨⟨by decide, by decide⟩, ?_⟩
  exact q
theorem sp_i33 {c : ab_C} : ab_ci 33 [] c (fun _ => [c]) := by
  intro h a Q h6 q
  show ab_G 33 0 [some (vr a)] [] (ab_mkc h a [c]) (a + 1) (0, 0) Q
  refine (ab_r_aload_n ab_e33 dX5_init_0 rfl).mpr ?_
  refine ab_w_init (As := []) 0 1 [] [c] (0, 0) (sp_i2 (c := c)) h6 ab_e33 dX5_init_1 (by rw [ab_n33, ab_lk_5_1]) (by rw [ab_w33]; exact ab_si_5_1) (Nat.le_of_ble_eq_true rfl) (by decide) rfl rfl rfl rfl rfl rfl (Nat.le_of_ble_eq_true rfl) (by decide) rfl rfl ?_
  refine (ab_r_return (hc := ab_e33) dX5_init_4 rfl).mpr ⟨⟨by decide, by decide⟩, ?_⟩
  exact q
theorem sp_i58 {c : ab_C} : ab_ci 58 [] c (fun _ => [c]) := by
  intro h a Q h6 q
  show ab_G 58 0 [some (vr a)] [] (ab_mkc h a [c]) (a + 1) (0, 0) Q
  refine (ab_r_aload_n ab_e58 dX9_init_0 rfl).mpr ?_
  refine ab_w_init (As := []) 0 1 [] [c] (0, 0) (sp_i33 (c := c)) h6 ab_e58 dX9_init_1 (by rw [ab_n58, ab_lk_9_1]) (by rw [ab_w58]; exact ab_si_9_1) (Nat.le_of_ble_eq_true rfl) (by decide) rfl rfl rfl rfl rfl rfl (Nat.le_of_ble_eq_true rfl) (by decide) rfl rfl ?_
  refine (ab_r_return (hc := ab_e58) dX9_init_4 rfl).mpr ⟨⟨by decide, by decide⟩, ?_⟩
  exact q
set_option maxHeartbeats 4000000 in
theorem sp_i60 : ab_ci 60 [] (.inl (10, [vi 0, vo none])) (fun a => [.inl (10, [vi 0, vr (a + 1)]), ab_ia 7 (fun _ => 0)]) := by
  intro h a Q h6 q
  show ab_G 60 0 [some (vr a)] [] (ab_mkc h a [.inl (10, [vi 0, vo none])]) (a + 1) (0, 0) Q
  refine (ab_r_aload_n ab_e60 dX10_init_0 rfl).mpr ?_
  refine ab_r_objinit ab_e60 dX10_init_1 (by rw [ab_n60, ab_lk_10_3]) (by rw [ab_w60]; exact ab_mo_10_3) (by decide) ⟨Nat.le_of_ble_eq_true rfl, ?_⟩
  refine (ab_r_aload_n ab_e60 dX10_init_4 rfl).mpr ?_
  refine (ab_r_bipush ab_e60 dX10_init_5 (by decide)).mpr ?_
  refine ab_w_na 7 1 [.inl (10, [vi 0, vo none]), ab_ia 7 (fun _ => 0)] (1, 7) ab_e60 dX10_init_7 rfl (by decide) rfl rfl rfl rfl (by decide) rfl ?_
  refine ab_w_put (ci := 10) (kf := 1) 0 [.inl (10, [vi 0, vr (a + 1)]), ab_ia 7 (fun _ => 0)] rfl h6 ab_e60 dX10_init_9 ⟨⟨by rw [ab_n60, ab_lk_10_9], by decide⟩, by rw [ab_w60]; exact ab_fp_10_9⟩ rfl (Nat.le_of_ble_eq_true rfl) (by trivial) rfl ?_
  refine (ab_r_return (hc := ab_e60) dX10_init_12 rfl).mpr ⟨⟨by decide, by decide⟩, ?_⟩
  exact q
set_option maxHeartbeats 4000000 in
theorem sp_i5 : ab_ci 5 [] (.inl (2, [vo none, vo none, vi 0, vi 0, vi 0, vi 0])) (fun a => [.inl (2, [vr (a + 1), vr (a + 2), vi 0, vi 0, vi 0, vi 0]), ab_ia 84 (fun _ => 0), ab_ia 7 (fun _ => 0)]) := by
  intro h a Q h6 q
  show ab_G 5 0 [some (vr a)] [] (ab_mkc h a [.inl (2, [vo none, vo none, vi 0, vi 0, vi 0, vi 0])]) (a + 1) (0, 0) Q
  refine (ab_r_aload_n ab_e5 dX2_init_0 rfl).mpr ?_
  refine ab_r_objinit ab_e5 dX2_init_1 (by rw [ab_n5, ab_lk_2_3]) (by rw [ab_w5]; exact ab_mo_2_3) (by decide) ⟨Nat.le_of_ble_eq_true rfl, ?_⟩
  refine (ab_r_aload_n ab_e5 dX2_init_4 rfl).mpr ?_
  refine (ab_r_bipush ab_e5 dX2_init_5 (by decide)).mpr ?_
  refine ab_w_na 84 1 [.inl (2, [vo none, vo none, vi 0, vi 0, vi 0, vi 0]), ab_ia 84 (fun _ => 0)] (1, 84) ab_e5 dX2_init_7 rfl (by decide) rfl rfl rfl rfl (by decide) rfl ?_
  refine ab_w_put (ci := 2) (kf := 0) 0 [.inl (2, [vr (a + 1), vo none, vi 0, vi 0, vi 0, vi 0]), ab_ia 84 (fun _ => 0)] rfl h6 ab_e5 dX2_init_9 ⟨⟨by rw [ab_n5, ab_lk_2_11], by decide⟩, by rw [ab_w5]; exact ab_fp_2_11⟩ rfl (Nat.le_of_ble_eq_true rfl) (by trivial) rfl ?_
  refine (ab_r_aload_n ab_e5 dX2_init_12 rfl).mpr ?_
  refine (ab_r_bipush ab_e5 dX2_init_13 (by decide)).mpr ?_
  refine ab_w_na 7 2 [.inl (2, [vr (a + 1), vo none, vi 0, vi 0, vi 0, vi 0]), ab_ia 84 (fun _ => 0), ab_ia 7 (fun _ => 0)] (2, 91) ab_e5 dX2_init_15 rfl (by decide) rfl rfl rfl rfl (by decide) rfl ?_
  refine ab_w_put (ci := 2) (kf := 1) 0 [.inl (2, [vr (a + 1), vr (a + 2), vi 0, vi 0, vi 0, vi 0]), ab_ia 84 (fun _ => 0), ab_ia 7 (fun _ => 0)] rfl h6 ab_e5 dX2_init_17 ⟨⟨by rw [ab_n5, ab_lk_2_15], by decide⟩, by rw [ab_w5]; exact ab_fp_2_15⟩ rfl (Nat.le_of_ble_eq_true rfl) (by trivial) rfl ?_
  refine (ab_r_return (hc := ab_e5) dX2_init_20 rfl).mpr ⟨⟨by decide, by decide⟩, ?_⟩
  exact q
set_option maxHeartbeats 4000000 in
theorem sp_i36 : ab_ci 36 [] (.inl (6, [vo none, vo none, vo none, vo none])) (fun a => [.inl (6, [vr (a + 1), vr (a + 2), vr (a + 3), vr (a + 4)]), ab_ia 606 (fun _ => 0), .inr (.inl (2, 6, (fun _ => 0))), ab_ia 4 (fun _ => 0), ab_ia 21 (fun _ => 0)]) := by
  intro h a Q h6 q
  show ab_G 36 0 [some (vr a)] [] (ab_mkc h a [.inl (6, [vo none, vo none, vo none, vo none])]) (a + 1) (0, 0) Q
  refine (ab_r_aload_n ab_e36 dX6_init_0 rfl).mpr ?_
  refine ab_r_objinit ab_e36 dX6_init_1 (by rw [ab_n36, ab_lk_6_3]) (by rw [ab_w36]; exact ab_mo_6_3) (by decide) ⟨Nat.le_of_ble_eq_true rfl, ?_⟩
  refine (ab_r_aload_n ab_e36 dX6_init_4 rfl).mpr ?_
  refine (ab_r_sipush ab_e36 dX6_init_5 (by decide)).mpr ?_
  refine ab_w_na 606 1 [.inl (6, [vo none, vo none, vo none, vo none]), ab_ia 606 (fun _ => 0)] (1, 606) ab_e36 dX6_init_8 rfl (by decide) rfl rfl rfl rfl (by decide) rfl ?_
  refine ab_w_put (ci := 6) (kf := 0) 0 [.inl (6, [vr (a + 1), vo none, vo none, vo none]), ab_ia 606 (fun _ => 0)] rfl h6 ab_e36 dX6_init_10 ⟨⟨by rw [ab_n36, ab_lk_6_9], by decide⟩, by rw [ab_w36]; exact ab_fp_6_9⟩ rfl (Nat.le_of_ble_eq_true rfl) (by trivial) rfl ?_
  refine (ab_r_aload_n ab_e36 dX6_init_13 rfl).mpr ?_
  refine (ab_r_bipush ab_e36 dX6_init_14 (by decide)).mpr ?_
  refine ab_w_na 6 2 [.inl (6, [vr (a + 1), vo none, vo none, vo none]), ab_ia 606 (fun _ => 0), .inr (.inl (2, 6, (fun _ => 0)))] (2, 612) ab_e36 dX6_init_16 rfl (by decide) rfl rfl rfl rfl (by decide) rfl ?_
  refine ab_w_put (ci := 6) (kf := 1) 0 [.inl (6, [vr (a + 1), vr (a + 2), vo none, vo none]), ab_ia 606 (fun _ => 0), .inr (.inl (2, 6, (fun _ => 0)))] rfl h6 ab_e36 dX6_init_18 ⟨⟨by rw [ab_n36, ab_lk_6_15], by decide⟩, by rw [ab_w36]; exact ab_fp_6_15⟩ rfl (Nat.le_of_ble_eq_true rfl) (by trivial) rfl ?_
  refine (ab_r_aload_n ab_e36 dX6_init_21 rfl).mpr ?_
  refine (ab_r_iconst ab_e36 dX6_init_22).mpr ?_
  refine ab_w_na 4 3 [.inl (6, [vr (a + 1), vr (a + 2), vo none, vo none]), ab_ia 606 (fun _ => 0), .inr (.inl (2, 6, (fun _ => 0))), ab_ia 4 (fun _ => 0)] (3, 616) ab_e36 dX6_init_23 rfl (by decide) rfl rfl rfl rfl (by decide) rfl ?_
  refine ab_w_put (ci := 6) (kf := 2) 0 [.inl (6, [vr (a + 1), vr (a + 2), vr (a + 3), vo none]), ab_ia 606 (fun _ => 0), .inr (.inl (2, 6, (fun _ => 0))), ab_ia 4 (fun _ => 0)] rfl h6 ab_e36 dX6_init_25 ⟨⟨by rw [ab_n36, ab_lk_6_19], by decide⟩, by rw [ab_w36]; exact ab_fp_6_19⟩ rfl (Nat.le_of_ble_eq_true rfl) (by trivial) rfl ?_
  refine (ab_r_aload_n ab_e36 dX6_init_28 rfl).mpr ?_
  refine (ab_r_bipush ab_e36 dX6_init_29 (by decide)).mpr ?_
  refine ab_w_na 21 4 [.inl (6, [vr (a + 1), vr (a + 2), vr (a + 3), vo none]), ab_ia 606 (fun _ => 0), .inr (.inl (2, 6, (fun _ => 0))), ab_ia 4 (fun _ => 0), ab_ia 21 (fun _ => 0)] (4, 637) ab_e36 dX6_init_31 rfl (by decide) rfl rfl rfl rfl (by decide) rfl ?_
  refine ab_w_put (ci := 6) (kf := 3) 0 [.inl (6, [vr (a + 1), vr (a + 2), vr (a + 3), vr (a + 4)]), ab_ia 606 (fun _ => 0), .inr (.inl (2, 6, (fun _ => 0))), ab_ia 4 (fun _ => 0), ab_ia 21 (fun _ => 0)] rfl h6 ab_e36 dX6_init_33 ⟨⟨by rw [ab_n36, ab_lk_6_22], by decide⟩, by rw [ab_w36]; exact ab_fp_6_22⟩ rfl (Nat.le_of_ble_eq_true rfl) (by trivial) rfl ?_
  refine (ab_r_return (hc := ab_e36) dX6_init_36 rfl).mpr ⟨⟨by decide, by decide⟩, ?_⟩
  exact q
set_option maxHeartbeats 4000000 in
theorem sp_i30 : ab_ci 30 [] (.inl (4, [vo none, vo none, vo none, vo none, vi 0])) (fun a => [.inl (4, [vr (a + 1), vr (a + 2), vr (a + 11), vr (a + 12), vi 0]), ab_ia 4 (ab_ui (ab_ui (ab_ui (ab_ui (fun _ => 0) 0 0) 1 0) 2 0) 3 1), .inr (.inr (.inr (4, 4, (ab_ui (ab_ui (ab_ui (ab_ui (fun _ => none) 0 (some (a + 3))) 1 (some (a + 5))) 2 (some (a + 7))) 3 (some (a + 9)))))), .inl (10, [vi 0, vr (a + 4)]), ab_ia 7 (fun _ => 0), .inl (10, [vi 0, vr (a + 6)]), ab_ia 7 (fun _ => 0), .inl (10, [vi 0, vr (a + 8)]), ab_ia 7 (fun _ => 0), .inl (10, [vi 0, vr (a + 10)]), ab_ia 7 (fun _ => 0), ab_ia 8 (fun _ => 0), ab_ia 8 (fun _ => 0)]) := by
  intro h a Q h6 q
  show ab_G 30 0 [some (vr a)] [] (ab_mkc h a [.inl (4, [vo none, vo none, vo none, vo none, vi 0])]) (a + 1) (0, 0) Q
  refine (ab_r_aload_n ab_e30 dX4_init_0 rfl).mpr ?_
  refine ab_r_objinit ab_e30 dX4_init_1 (by rw [ab_n30, ab_lk_4_3]) (by rw [ab_w30]; exact ab_mo_4_3) (by decide) ⟨Nat.le_of_ble_eq_true rfl, ?_⟩
  refine (ab_r_aload_n ab_e30 dX4_init_4 rfl).mpr ?_
  refine (ab_r_iconst ab_e30 dX4_init_5).mpr ?_
  refine ab_w_na 4 1 [.inl (4, [vo none, vo none, vo none, vo none, vi 0]), ab_ia 4 (fun _ => 0)] (1, 4) ab_e30 dX4_init_6 rfl (by decide) rfl rfl rfl rfl (by decide) rfl ?_
  refine (ab_r_dup ab_e30 dX4_init_8).mpr ⟨rfl, ?_⟩
  refine (ab_r_iconst ab_e30 dX4_init_9).mpr ?_
  refine (ab_r_iconst ab_e30 dX4_init_10).mpr ?_
  refine ab_w_ias 1 [.inl (4, [vo none, vo none, vo none, vo none, vi 0]), ab_ia 4 (ab_ui (fun _ => 0) 0 0)] rfl h6 ab_e30 dX4_init_11 rfl (by decide) rfl ?_
  refine (ab_r_dup ab_e30 dX4_init_12).mpr ⟨rfl, ?_⟩
  refine (ab_r_iconst ab_e30 dX4_init_13).mpr ?_
  refine (ab_r_iconst ab_e30 dX4_init_14).mpr ?_
  refine ab_w_ias 1 [.inl (4, [vo none, vo none, vo none, vo none, vi 0]), ab_ia 4 (ab_ui (ab_ui (fun _ => 0) 0 0) 1 0)] rfl h6 ab_e30 dX4_init_15 rfl (by decide) rfl ?_
  refine (ab_r_dup ab_e30 dX4_init_16).mpr ⟨rfl, ?_⟩
  refine (ab_r_iconst ab_e30 dX4_init_17).mpr ?_
  refine (ab_r_iconst ab_e30 dX4_init_18).mpr ?_
  refine ab_w_ias 1 [.inl (4, [vo none, vo none, vo none, vo none, vi 0]), ab_ia 4 (ab_ui (ab_ui (ab_ui (fun _ => 0) 0 0) 1 0) 2 0)] rfl h6 ab_e30 dX4_init_19 rfl (by decide) rfl ?_
  refine (ab_r_dup ab_e30 dX4_init_20).mpr ⟨rfl, ?_⟩
  refine (ab_r_iconst ab_e30 dX4_init_21).mpr ?_
  refine (ab_r_iconst ab_e30 dX4_init_22).mpr ?_
  refine ab_w_ias 1 [.inl (4, [vo none, vo none, vo none, vo none, vi 0]), ab_ia 4 (ab_ui (ab_ui (ab_ui (ab_ui (fun _ => 0) 0 0) 1 0) 2 0) 3 1)] rfl h6 ab_e30 dX4_init_23 rfl (by decide) rfl ?_
  refine ab_w_put (ci := 4) (kf := 0) 0 [.inl (4, [vr (a + 1), vo none, vo none, vo none, vi 0]), ab_ia 4 (ab_ui (ab_ui (ab_ui (ab_ui (fun _ => 0) 0 0) 1 0) 2 0) 3 1)] rfl h6 ab_e30 dX4_init_24 ⟨⟨by rw [ab_n30, ab_lk_4_9], by decide⟩, by rw [ab_w30]; exact ab_fp_4_9⟩ rfl (Nat.le_of_ble_eq_true rfl) (by trivial) rfl ?_
  refine (ab_r_aload_n ab_e30 dX4_init_27 rfl).mpr ?_
  refine (ab_r_iconst ab_e30 dX4_init_28).mpr ?_
  refine ab_w_an 4 2 [.inl (4, [vr (a + 1), vo none, vo none, vo none, vi 0]), ab_ia 4 (ab_ui (ab_ui (ab_ui (ab_ui (fun _ => 0) 0 0) 1 0) 2 0) 3 1), .inr (.inr (.inr (4, 4, (fun _ => none))))] (2, 8) ab_e30 dX4_init_29 rfl (by decide) (by decide) (E := "LevelLadders$Vector") rfl (by rw [ab_w30]; exact ab_an_4_15) rfl rfl rfl (by decide) rfl ?_
  refine (ab_r_dup ab_e30 dX4_init_32).mpr ⟨rfl, ?_⟩
  refine (ab_r_iconst ab_e30 dX4_init_33).mpr ?_
  refine ab_w_new 3 [.inl (4, [vr (a + 1), vo none, vo none, vo none, vi 0]), ab_ia 4 (ab_ui (ab_ui (ab_ui (ab_ui (fun _ => 0) 0 0) 1 0) 2 0) 3 1), .inr (.inr (.inr (4, 4, (fun _ => none)))), .inl (10, [vi 0, vo none])] (3, 10) ab_e30 dX4_init_34 (by rw [ab_n30, ab_w30]; exact ab_nw_4_15) rfl (fs := [vi 0, vo none]) rfl rfl rfl (by decide) rfl ?_
  refine (ab_r_dup ab_e30 dX4_init_37).mpr ⟨rfl, ?_⟩
  refine ab_w_init (As := []) 3 5 [.inl (4, [vr (a + 1), vo none, vo none, vo none, vi 0]), ab_ia 4 (ab_ui (ab_ui (ab_ui (ab_ui (fun _ => 0) 0 0) 1 0) 2 0) 3 1), .inr (.inr (.inr (4, 4, (fun _ => none))))] [.inl (4, [vr (a + 1), vo none, vo none, vo none, vi 0]), ab_ia 4 (ab_ui (ab_ui (ab_ui (ab_ui (fun _ => 0) 0 0) 1 0) 2 0) 3 1), .inr (.inr (.inr (4, 4, (fun _ => none)))), .inl (10, [vi 0, vr (a + 4)]), ab_ia 7 (fun _ => 0)] (4, 17) (sp_i60) h6 ab_e30 dX4_init_38 (by rw [ab_n30, ab_lk_4_17]) (by rw [ab_w30]; exact ab_si_4_17) (Nat.le_of_ble_eq_true rfl) (by decide) rfl rfl rfl rfl rfl rfl (Nat.le_of_ble_eq_true rfl) (by decide) rfl rfl ?_
  refine ab_w_aas (C := RX10) (T := TX10) (N := 2) (E := "LevelLadders$Vector") 2 3 [.inl (4, [vr (a + 1), vo none, vo none, vo none, vi 0]), ab_ia 4 (ab_ui (ab_ui (ab_ui (ab_ui (fun _ => 0) 0 0) 1 0) 2 0) 3 1), .inr (.inr (.inr (4, 4, (ab_ui (fun _ => none) 0 (some (a + 3)))))), .inl (10, [vi 0, vr (a + 4)]), ab_ia 7 (fun _ => 0)] rfl rfl h6 ab_e30 dX4_init_41 rfl rfl rfl rfl (Or.inl rfl) (by decide) rfl ?_
  refine (ab_r_dup ab_e30 dX4_init_42).mpr ⟨rfl, ?_⟩
  refine (ab_r_iconst ab_e30 dX4_init_43).mpr ?_
  refine ab_w_new 5 [.inl (4, [vr (a + 1), vo none, vo none, vo none, vi 0]), ab_ia 4 (ab_ui (ab_ui (ab_ui (ab_ui (fun _ => 0) 0 0) 1 0) 2 0) 3 1), .inr (.inr (.inr (4, 4, (ab_ui (fun _ => none) 0 (some (a + 3)))))), .inl (10, [vi 0, vr (a + 4)]), ab_ia 7 (fun _ => 0), .inl (10, [vi 0, vo none])] (5, 19) ab_e30 dX4_init_44 (by rw [ab_n30, ab_w30]; exact ab_nw_4_15) rfl (fs := [vi 0, vo none]) rfl rfl rfl (by decide) rfl ?_
  refine (ab_r_dup ab_e30 dX4_init_47).mpr ⟨rfl, ?_⟩
  refine ab_w_init (As := []) 5 7 [.inl (4, [vr (a + 1), vo none, vo none, vo none, vi 0]), ab_ia 4 (ab_ui (ab_ui (ab_ui (ab_ui (fun _ => 0) 0 0) 1 0) 2 0) 3 1), .inr (.inr (.inr (4, 4, (ab_ui (fun _ => none) 0 (some (a + 3)))))), .inl (10, [vi 0, vr (a + 4)]), ab_ia 7 (fun _ => 0)] [.inl (4, [vr (a + 1), vo none, vo none, vo none, vi 0]), ab_ia 4 (ab_ui (ab_ui (ab_ui (ab_ui (fun _ => 0) 0 0) 1 0) 2 0) 3 1), .inr (.inr (.inr (4, 4, (ab_ui (fun _ => none) 0 (some (a + 3)))))), .inl (10, [vi 0, vr (a + 4)]), ab_ia 7 (fun _ => 0), .inl (10, [vi 0, vr (a + 6)]), ab_ia 7 (fun _ => 0)] (6, 26) (sp_i60) h6 ab_e30 dX4_init_48 (by rw [ab_n30, ab_lk_4_17]) (by rw [ab_w30]; exact ab_si_4_17) (Nat.le_of_ble_eq_true rfl) (by decide) rfl rfl rfl rfl rfl rfl (Nat.le_of_ble_eq_true rfl) (by decide) rfl rfl ?_
  refine ab_w_aas (C := RX10) (T := TX10) (N := 2) (E := "LevelLadders$Vector") 2 5 [.inl (4, [vr (a + 1), vo none, vo none, vo none, vi 0]), ab_ia 4 (ab_ui (ab_ui (ab_ui (ab_ui (fun _ => 0) 0 0) 1 0) 2 0) 3 1), .inr (.inr (.inr (4, 4, (ab_ui (ab_ui (fun _ => none) 0 (some (a + 3))) 1 (some (a + 5)))))), .inl (10, [vi 0, vr (a + 4)]), ab_ia 7 (fun _ => 0), .inl (10, [vi 0, vr (a + 6)]), ab_ia 7 (fun _ => 0)] rfl rfl h6 ab_e30 dX4_init_51 rfl rfl rfl rfl (Or.inl rfl) (by decide) rfl ?_
  refine (ab_r_dup ab_e30 dX4_init_52).mpr ⟨rfl, ?_⟩
  refine (ab_r_iconst ab_e30 dX4_init_53).mpr ?_
  refine ab_w_new 7 [.inl (4, [vr (a + 1), vo none, vo none, vo none, vi 0]), ab_ia 4 (ab_ui (ab_ui (ab_ui (ab_ui (fun _ => 0) 0 0) 1 0) 2 0) 3 1), .inr (.inr (.inr (4, 4, (ab_ui (ab_ui (fun _ => none) 0 (some (a + 3))) 1 (some (a + 5)))))), .inl (10, [vi 0, vr (a + 4)]), ab_ia 7 (fun _ => 0), .inl (10, [vi 0, vr (a + 6)]), ab_ia 7 (fun _ => 0), .inl (10, [vi 0, vo none])] (7, 28) ab_e30 dX4_init_54 (by rw [ab_n30, ab_w30]; exact ab_nw_4_15) rfl (fs := [vi 0, vo none]) rfl rfl rfl (by decide) rfl ?_
  refine (ab_r_dup ab_e30 dX4_init_57).mpr ⟨rfl, ?_⟩
  refine ab_w_init (As := []) 7 9 [.inl (4, [vr (a + 1), vo none, vo none, vo none, vi 0]), ab_ia 4 (ab_ui (ab_ui (ab_ui (ab_ui (fun _ => 0) 0 0) 1 0) 2 0) 3 1), .inr (.inr (.inr (4, 4, (ab_ui (ab_ui (fun _ => none) 0 (some (a + 3))) 1 (some (a + 5)))))), .inl (10, [vi 0, vr (a + 4)]), ab_ia 7 (fun _ => 0), .inl (10, [vi 0, vr (a + 6)]), ab_ia 7 (fun _ => 0)] [.inl (4, [vr (a + 1), vo none, vo none, vo none, vi 0]), ab_ia 4 (ab_ui (ab_ui (ab_ui (ab_ui (fun _ => 0) 0 0) 1 0) 2 0) 3 1), .inr (.inr (.inr (4, 4, (ab_ui (ab_ui (fun _ => none) 0 (some (a + 3))) 1 (some (a + 5)))))), .inl (10, [vi 0, vr (a + 4)]), ab_ia 7 (fun _ => 0), .inl (10, [vi 0, vr (a + 6)]), ab_ia 7 (fun _ => 0), .inl (10, [vi 0, vr (a + 8)]), ab_ia 7 (fun _ => 0)] (8, 35) (sp_i60) h6 ab_e30 dX4_init_58 (by rw [ab_n30, ab_lk_4_17]) (by rw [ab_w30]; exact ab_si_4_17) (Nat.le_of_ble_eq_true rfl) (by decide) rfl rfl rfl rfl rfl rfl (Nat.le_of_ble_eq_true rfl) (by decide) rfl rfl ?_
  refine ab_w_aas (C := RX10) (T := TX10) (N := 2) (E := "LevelLadders$Vector") 2 7 [.inl (4, [vr (a + 1), vo none, vo none, vo none, vi 0]), ab_ia 4 (ab_ui (ab_ui (ab_ui (ab_ui (fun _ => 0) 0 0) 1 0) 2 0) 3 1), .inr (.inr (.inr (4, 4, (ab_ui (ab_ui (ab_ui (fun _ => none) 0 (some (a + 3))) 1 (some (a + 5))) 2 (some (a + 7)))))), .inl (10, [vi 0, vr (a + 4)]), ab_ia 7 (fun _ => 0), .inl (10, [vi 0, vr (a + 6)]), ab_ia 7 (fun _ => 0), .inl (10, [vi 0, vr (a + 8)]), ab_ia 7 (fun _ => 0)] rfl rfl h6 ab_e30 dX4_init_61 rfl rfl rfl rfl (Or.inl rfl) (by decide) rfl ?_
  refine (ab_r_dup ab_e30 dX4_init_62).mpr ⟨rfl, ?_⟩
  refine (ab_r_iconst ab_e30 dX4_init_63).mpr ?_
  refine ab_w_new 9 [.inl (4, [vr (a + 1), vo none, vo none, vo none, vi 0]), ab_ia 4 (ab_ui (ab_ui (ab_ui (ab_ui (fun _ => 0) 0 0) 1 0) 2 0) 3 1), .inr (.inr (.inr (4, 4, (ab_ui (ab_ui (ab_ui (fun _ => none) 0 (some (a + 3))) 1 (some (a + 5))) 2 (some (a + 7)))))), .inl (10, [vi 0, vr (a + 4)]), ab_ia 7 (fun _ => 0), .inl (10, [vi 0, vr (a + 6)]), ab_ia 7 (fun _ => 0), .inl (10, [vi 0, vr (a + 8)]), ab_ia 7 (fun _ => 0), .inl (10, [vi 0, vo none])] (9, 37) ab_e30 dX4_init_64 (by rw [ab_n30, ab_w30]; exact ab_nw_4_15) rfl (fs := [vi 0, vo none]) rfl rfl rfl (by decide) rfl ?_
  refine (ab_r_dup ab_e30 dX4_init_67).mpr ⟨rfl, ?_⟩
  refine ab_w_init (As := []) 9 11 [.inl (4, [vr (a + 1), vo none, vo none, vo none, vi 0]), ab_ia 4 (ab_ui (ab_ui (ab_ui (ab_ui (fun _ => 0) 0 0) 1 0) 2 0) 3 1), .inr (.inr (.inr (4, 4, (ab_ui (ab_ui (ab_ui (fun _ => none) 0 (some (a + 3))) 1 (some (a + 5))) 2 (some (a + 7)))))), .inl (10, [vi 0, vr (a + 4)]), ab_ia 7 (fun _ => 0), .inl (10, [vi 0, vr (a + 6)]), ab_ia 7 (fun _ => 0), .inl (10, [vi 0, vr (a + 8)]), ab_ia 7 (fun _ => 0)] [.inl (4, [vr (a + 1), vo none, vo none, vo none, vi 0]), ab_ia 4 (ab_ui (ab_ui (ab_ui (ab_ui (fun _ => 0) 0 0) 1 0) 2 0) 3 1), .inr (.inr (.inr (4, 4, (ab_ui (ab_ui (ab_ui (fun _ => none) 0 (some (a + 3))) 1 (some (a + 5))) 2 (some (a + 7)))))), .inl (10, [vi 0, vr (a + 4)]), ab_ia 7 (fun _ => 0), .inl (10, [vi 0, vr (a + 6)]), ab_ia 7 (fun _ => 0), .inl (10, [vi 0, vr (a + 8)]), ab_ia 7 (fun _ => 0), .inl (10, [vi 0, vr (a + 10)]), ab_ia 7 (fun _ => 0)] (10, 44) (sp_i60) h6 ab_e30 dX4_init_68 (by rw [ab_n30, ab_lk_4_17]) (by rw [ab_w30]; exact ab_si_4_17) (Nat.le_of_ble_eq_true rfl) (by decide) rfl rfl rfl rfl rfl rfl (Nat.le_of_ble_eq_true rfl) (by decide) rfl rfl ?_
  refine ab_w_aas (C := RX10) (T := TX10) (N := 2) (E := "LevelLadders$Vector") 2 9 [.inl (4, [vr (a + 1), vo none, vo none, vo none, vi 0]), ab_ia 4 (ab_ui (ab_ui (ab_ui (ab_ui (fun _ => 0) 0 0) 1 0) 2 0) 3 1), .inr (.inr (.inr (4, 4, (ab_ui (ab_ui (ab_ui (ab_ui (fun _ => none) 0 (some (a + 3))) 1 (some (a + 5))) 2 (some (a + 7))) 3 (some (a + 9)))))), .inl (10, [vi 0, vr (a + 4)]), ab_ia 7 (fun _ => 0), .inl (10, [vi 0, vr (a + 6)]), ab_ia 7 (fun _ => 0), .inl (10, [vi 0, vr (a + 8)]), ab_ia 7 (fun _ => 0), .inl (10, [vi 0, vr (a + 10)]), ab_ia 7 (fun _ => 0)] rfl rfl h6 ab_e30 dX4_init_71 rfl rfl rfl rfl (Or.inl rfl) (by decide) rfl ?_
  refine ab_w_put (ci := 4) (kf := 1) 0 [.inl (4, [vr (a + 1), vr (a + 2), vo none, vo none, vi 0]), ab_ia 4 (ab_ui (ab_ui (ab_ui (ab_ui (fun _ => 0) 0 0) 1 0) 2 0) 3 1), .inr (.inr (.inr (4, 4, (ab_ui (ab_ui (ab_ui (ab_ui (fun _ => none) 0 (some (a + 3))) 1 (some (a + 5))) 2 (some (a + 7))) 3 (some (a + 9)))))), .inl (10, [vi 0, vr (a + 4)]), ab_ia 7 (fun _ => 0), .inl (10, [vi 0, vr (a + 6)]), ab_ia 7 (fun _ => 0), .inl (10, [vi 0, vr (a + 8)]), ab_ia 7 (fun _ => 0), .inl (10, [vi 0, vr (a + 10)]), ab_ia 7 (fun _ => 0)] rfl h6 ab_e30 dX4_init_72 ⟨⟨by rw [ab_n30, ab_lk_4_18], by decide⟩, by rw [ab_w30]; exact ab_fp_4_18⟩ rfl (Nat.le_of_ble_eq_true rfl) (by trivial) rfl ?_
  refine (ab_r_aload_n ab_e30 dX4_init_75 rfl).mpr ?_
  refine (ab_r_bipush ab_e30 dX4_init_76 (by decide)).mpr ?_
  refine ab_w_na 8 11 [.inl (4, [vr (a + 1), vr (a + 2), vo none, vo none, vi 0]), ab_ia 4 (ab_ui (ab_ui (ab_ui (ab_ui (fun _ => 0) 0 0) 1 0) 2 0) 3 1), .inr (.inr (.inr (4, 4, (ab_ui (ab_ui (ab_ui (ab_ui (fun _ => none) 0 (some (a + 3))) 1 (some (a + 5))) 2 (some (a + 7))) 3 (some (a + 9)))))), .inl (10, [vi 0, vr (a + 4)]), ab_ia 7 (fun _ => 0), .inl (10, [vi 0, vr (a + 6)]), ab_ia 7 (fun _ => 0), .inl (10, [vi 0, vr (a + 8)]), ab_ia 7 (fun _ => 0), .inl (10, [vi 0, vr (a + 10)]), ab_ia 7 (fun _ => 0), ab_ia 8 (fun _ => 0)] (11, 52) ab_e30 dX4_init_78 rfl (by decide) rfl rfl rfl rfl (by decide) rfl ?_
  refine ab_w_put (ci := 4) (kf := 2) 0 [.inl (4, [vr (a + 1), vr (a + 2), vr (a + 11), vo none, vi 0]), ab_ia 4 (ab_ui (ab_ui (ab_ui (ab_ui (fun _ => 0) 0 0) 1 0) 2 0) 3 1), .inr (.inr (.inr (4, 4, (ab_ui (ab_ui (ab_ui (ab_ui (fun _ => none) 0 (some (a + 3))) 1 (some (a + 5))) 2 (some (a + 7))) 3 (some (a + 9)))))), .inl (10, [vi 0, vr (a + 4)]), ab_ia 7 (fun _ => 0), .inl (10, [vi 0, vr (a + 6)]), ab_ia 7 (fun _ => 0), .inl (10, [vi 0, vr (a + 8)]), ab_ia 7 (fun _ => 0), .inl (10, [vi 0, vr (a + 10)]), ab_ia 7 (fun _ => 0), ab_ia 8 (fun _ => 0)] rfl h6 ab_e30 dX4_init_80 ⟨⟨by rw [ab_n30, ab_lk_4_22], by decide⟩, by rw [ab_w30]; exact ab_fp_4_22⟩ rfl (Nat.le_of_ble_eq_true rfl) (by trivial) rfl ?_
  refine (ab_r_aload_n ab_e30 dX4_init_83 rfl).mpr ?_
  refine (ab_r_bipush ab_e30 dX4_init_84 (by decide)).mpr ?_
  refine ab_w_na 8 12 [.inl (4, [vr (a + 1), vr (a + 2), vr (a + 11), vo none, vi 0]), ab_ia 4 (ab_ui (ab_ui (ab_ui (ab_ui (fun _ => 0) 0 0) 1 0) 2 0) 3 1), .inr (.inr (.inr (4, 4, (ab_ui (ab_ui (ab_ui (ab_ui (fun _ => none) 0 (some (a + 3))) 1 (some (a + 5))) 2 (some (a + 7))) 3 (some (a + 9)))))), .inl (10, [vi 0, vr (a + 4)]), ab_ia 7 (fun _ => 0), .inl (10, [vi 0, vr (a + 6)]), ab_ia 7 (fun _ => 0), .inl (10, [vi 0, vr (a + 8)]), ab_ia 7 (fun _ => 0), .inl (10, [vi 0, vr (a + 10)]), ab_ia 7 (fun _ => 0), ab_ia 8 (fun _ => 0), ab_ia 8 (fun _ => 0)] (12, 60) ab_e30 dX4_init_86 rfl (by decide) rfl rfl rfl rfl (by decide) rfl ?_
  refine ab_w_put (ci := 4) (kf := 3) 0 [.inl (4, [vr (a + 1), vr (a + 2), vr (a + 11), vr (a + 12), vi 0]), ab_ia 4 (ab_ui (ab_ui (ab_ui (ab_ui (fun _ => 0) 0 0) 1 0) 2 0) 3 1), .inr (.inr (.inr (4, 4, (ab_ui (ab_ui (ab_ui (ab_ui (fun _ => none) 0 (some (a + 3))) 1 (some (a + 5))) 2 (some (a + 7))) 3 (some (a + 9)))))), .inl (10, [vi 0, vr (a + 4)]), ab_ia 7 (fun _ => 0), .inl (10, [vi 0, vr (a + 6)]), ab_ia 7 (fun _ => 0), .inl (10, [vi 0, vr (a + 8)]), ab_ia 7 (fun _ => 0), .inl (10, [vi 0, vr (a + 10)]), ab_ia 7 (fun _ => 0), ab_ia 8 (fun _ => 0), ab_ia 8 (fun _ => 0)] rfl h6 ab_e30 dX4_init_88 ⟨⟨by rw [ab_n30, ab_lk_4_25], by decide⟩, by rw [ab_w30]; exact ab_fp_4_25⟩ rfl (Nat.le_of_ble_eq_true rfl) (by trivial) rfl ?_
  refine (ab_r_return (hc := ab_e30) dX4_init_91 rfl).mpr ⟨⟨by decide, by decide⟩, ?_⟩
  exact q
set_option maxHeartbeats 4000000 in
theorem sp_i16 : ab_ci 16 [] (.inl (3, [vo none, vo none, vi 0, vo none, vo none, vo none, vo none])) (fun a => [.inl (3, [vr (a + 1), vr (a + 7), vi (-1), vr (a + 8), vr (a + 9), vr (a + 10), vr (a + 11)]), .inr (.inr (.inr (5, 5, (ab_ui (ab_ui (ab_ui (ab_ui (ab_ui (fun _ => none) 0 (some (a + 2))) 1 (some (a + 3))) 2 (some (a + 4))) 3 (some (a + 5))) 4 (some (a + 6)))))), .inl (1, []), .inl (0, []), .inl (8, []), .inl (5, []), .inl (9, []), ab_ia 4 (fun _ => 0), ab_ia 361 (fun _ => 0), ab_ia 361 (fun _ => 0), ab_ia 7 (fun _ => 0), .inl (2, [vr (a + 12), vr (a + 13), vi 0, vi 0, vi 0, vi 0]), ab_ia 84 (fun _ => 0), ab_ia 7 (fun _ => 0)]) := by
  intro h a Q h6 q
  show ab_G 16 0 [some (vr a)] [] (ab_mkc h a [.inl (3, [vo none, vo none, vi 0, vo none, vo none, vo none, vo none])]) (a + 1) (0, 0) Q
  refine (ab_r_aload_n ab_e16 dX3_init_0 rfl).mpr ?_
  refine ab_r_objinit ab_e16 dX3_init_1 (by rw [ab_n16, ab_lk_3_3]) (by rw [ab_w16]; exact ab_mo_3_3) (by decide) ⟨Nat.le_of_ble_eq_true rfl, ?_⟩
  refine (ab_r_aload_n ab_e16 dX3_init_4 rfl).mpr ?_
  refine (ab_r_iconst ab_e16 dX3_init_5).mpr ?_
  refine ab_w_an 5 1 [.inl (3, [vo none, vo none, vi 0, vo none, vo none, vo none, vo none]), .inr (.inr (.inr (5, 5, (fun _ => none))))] (1, 5) ab_e16 dX3_init_6 rfl (by decide) (by decide) (E := "LevelLadders$Free") rfl (by rw [ab_w16]; exact ab_an_3_9) rfl rfl rfl (by decide) rfl ?_
  refine (ab_r_dup ab_e16 dX3_init_9).mpr ⟨rfl, ?_⟩
  refine (ab_r_iconst ab_e16 dX3_init_10).mpr ?_
  refine ab_w_new 2 [.inl (3, [vo none, vo none, vi 0, vo none, vo none, vo none, vo none]), .inr (.inr (.inr (5, 5, (fun _ => none)))), .inl (1, [])] (2, 5) ab_e16 dX3_init_11 (by rw [ab_n16, ab_w16]; exact ab_nw_3_9) rfl (fs := []) rfl rfl rfl (by decide) rfl ?_
  refine (ab_r_dup ab_e16 dX3_init_14).mpr ⟨rfl, ?_⟩
  refine ab_w_init (As := []) 2 3 [.inl (3, [vo none, vo none, vi 0, vo none, vo none, vo none, vo none]), .inr (.inr (.inr (5, 5, (fun _ => none))))] [.inl (3, [vo none, vo none, vi 0, vo none, vo none, vo none, vo none]), .inr (.inr (.inr (5, 5, (fun _ => none)))), .inl (1, [])] (2, 5) (sp_i2) h6 ab_e16 dX3_init_15 (by rw [ab_n16, ab_lk_3_11]) (by rw [ab_w16]; exact ab_si_3_11) (Nat.le_of_ble_eq_true rfl) (by decide) rfl rfl rfl rfl rfl rfl (Nat.le_of_ble_eq_true rfl) (by decide) rfl rfl ?_
  refine ab_w_aas (C := RX1) (T := TX1) (N := 0) (E := "LevelLadders$Free") 1 2 [.inl (3, [vo none, vo none, vi 0, vo none, vo none, vo none, vo none]), .inr (.inr (.inr (5, 5, (ab_ui (fun _ => none) 0 (some (a + 2)))))), .inl (1, [])] rfl rfl h6 ab_e16 dX3_init_18 rfl rfl rfl rfl (Or.inl rfl) (by decide) rfl ?_
  refine (ab_r_dup ab_e16 dX3_init_19).mpr ⟨rfl, ?_⟩
  refine (ab_r_iconst ab_e16 dX3_init_20).mpr ?_
  refine ab_w_new 3 [.inl (3, [vo none, vo none, vi 0, vo none, vo none, vo none, vo none]), .inr (.inr (.inr (5, 5, (ab_ui (fun _ => none) 0 (some (a + 2)))))), .inl (1, []), .inl (0, [])] (3, 5) ab_e16 dX3_init_21 (by rw [ab_n16, ab_w16]; exact ab_nw_3_12) rfl (fs := []) rfl rfl rfl (by decide) rfl ?_
  refine (ab_r_dup ab_e16 dX3_init_24).mpr ⟨rfl, ?_⟩
  refine ab_w_init (As := []) 3 4 [.inl (3, [vo none, vo none, vi 0, vo none, vo none, vo none, vo none]), .inr (.inr (.inr (5, 5, (ab_ui (fun _ => none) 0 (some (a + 2)))))), .inl (1, [])] [.inl (3, [vo none, vo none, vi 0, vo none, vo none, vo none, vo none]), .inr (.inr (.inr (5, 5, (ab_ui (fun _ => none) 0 (some (a + 2)))))), .inl (1, []), .inl (0, [])] (3, 5) (sp_i0) h6 ab_e16 dX3_init_25 (by rw [ab_n16, ab_lk_3_14]) (by rw [ab_w16]; exact ab_si_3_14) (Nat.le_of_ble_eq_true rfl) (by decide) rfl rfl rfl rfl rfl rfl (Nat.le_of_ble_eq_true rfl) (by decide) rfl rfl ?_
  refine ab_w_aas (C := RX0) (T := TX0) (N := 0) (E := "LevelLadders$Free") 1 3 [.inl (3, [vo none, vo none, vi 0, vo none, vo none, vo none, vo none]), .inr (.inr (.inr (5, 5, (ab_ui (ab_ui (fun _ => none) 0 (some (a + 2))) 1 (some (a + 3)))))), .inl (1, []), .inl (0, [])] rfl rfl h6 ab_e16 dX3_init_28 rfl rfl rfl rfl (Or.inr (List.mem_of_getElem? (i := 1172) (by decide +kernel))) (by decide) rfl ?_
  refine (ab_r_dup ab_e16 dX3_init_29).mpr ⟨rfl, ?_⟩
  refine (ab_r_iconst ab_e16 dX3_init_30).mpr ?_
  refine ab_w_new 4 [.inl (3, [vo none, vo none, vi 0, vo none, vo none, vo none, vo none]), .inr (.inr (.inr (5, 5, (ab_ui (ab_ui (fun _ => none) 0 (some (a + 2))) 1 (some (a + 3)))))), .inl (1, []), .inl (0, []), .inl (8, [])] (4, 5) ab_e16 dX3_init_31 (by rw [ab_n16, ab_w16]; exact ab_nw_3_15) rfl (fs := []) rfl rfl rfl (by decide) rfl ?_
  refine (ab_r_dup ab_e16 dX3_init_34).mpr ⟨rfl, ?_⟩
  refine ab_w_init (As := []) 4 5 [.inl (3, [vo none, vo none, vi 0, vo none, vo none, vo none, vo none]), .inr (.inr (.inr (5, 5, (ab_ui (ab_ui (fun _ => none) 0 (some (a + 2))) 1 (some (a + 3)))))), .inl (1, []), .inl (0, [])] [.inl (3, [vo none, vo none, vi 0, vo none, vo none, vo none, vo none]), .inr (.inr (.inr (5, 5, (ab_ui (ab_ui (fun _ => none) 0 (some (a + 2))) 1 (some (a + 3)))))), .inl (1, []), .inl (0, []), .inl (8, [])] (4, 5) (sp_i55) h6 ab_e16 dX3_init_35 (by rw [ab_n16, ab_lk_3_17]) (by rw [ab_w16]; exact ab_si_3_17) (Nat.le_of_ble_eq_true rfl) (by decide) rfl rfl rfl rfl rfl rfl (Nat.le_of_ble_eq_true rfl) (by decide) rfl rfl ?_
  refine ab_w_aas (C := RX8) (T := TX8) (N := 0) (E := "LevelLadders$Free") 1 4 [.inl (3, [vo none, vo none, vi 0, vo none, vo none, vo none, vo none]), .inr (.inr (.inr (5, 5, (ab_ui (ab_ui (ab_ui (fun _ => none) 0 (some (a + 2))) 1 (some (a + 3))) 2 (some (a + 4)))))), .inl (1, []), .inl (0, []), .inl (8, [])] rfl rfl h6 ab_e16 dX3_init_38 rfl rfl rfl rfl (Or.inr (List.mem_of_getElem? (i := 1173) (by decide +kernel))) (by decide) rfl ?_
  refine (ab_r_dup ab_e16 dX3_init_39).mpr ⟨rfl, ?_⟩
  refine (ab_r_iconst ab_e16 dX3_init_40).mpr ?_
  refine ab_w_new 5 [.inl (3, [vo none, vo none, vi 0, vo none, vo none, vo none, vo none]), .inr (.inr (.inr (5, 5, (ab_ui (ab_ui (ab_ui (fun _ => none) 0 (some (a + 2))) 1 (some (a + 3))) 2 (some (a + 4)))))), .inl (1, []), .inl (0, []), .inl (8, []), .inl (5, [])] (5, 5) ab_e16 dX3_init_41 (by rw [ab_n16, ab_w16]; exact ab_nw_3_18) rfl (fs := []) rfl rfl rfl (by decide) rfl ?_
  refine (ab_r_dup ab_e16 dX3_init_44).mpr ⟨rfl, ?_⟩
  refine ab_w_init (As := []) 5 6 [.inl (3, [vo none, vo none, vi 0, vo none, vo none, vo none, vo none]), .inr (.inr (.inr (5, 5, (ab_ui (ab_ui (ab_ui (fun _ => none) 0 (some (a + 2))) 1 (some (a + 3))) 2 (some (a + 4)))))), .inl (1, []), .inl (0, []), .inl (8, [])] [.inl (3, [vo none, vo none, vi 0, vo none, vo none, vo none, vo none]), .inr (.inr (.inr (5, 5, (ab_ui (ab_ui (ab_ui (fun _ => none) 0 (some (a + 2))) 1 (some (a + 3))) 2 (some (a + 4)))))), .inl (1, []), .inl (0, []), .inl (8, []), .inl (5, [])] (5, 5) (sp_i33) h6 ab_e16 dX3_init_45 (by rw [ab_n16, ab_lk_3_20]) (by rw [ab_w16]; exact ab_si_3_20) (Nat.le_of_ble_eq_true rfl) (by decide) rfl rfl rfl rfl rfl rfl (Nat.le_of_ble_eq_true rfl) (by decide) rfl rfl ?_
  refine ab_w_aas (C := RX5) (T := TX5) (N := 0) (E := "LevelLadders$Free") 1 5 [.inl (3, [vo none, vo none, vi 0, vo none, vo none, vo none, vo none]), .inr (.inr (.inr (5, 5, (ab_ui (ab_ui (ab_ui (ab_ui (fun _ => none) 0 (some (a + 2))) 1 (some (a + 3))) 2 (some (a + 4))) 3 (some (a + 5)))))), .inl (1, []), .inl (0, []), .inl (8, []), .inl (5, [])] rfl rfl h6 ab_e16 dX3_init_48 rfl rfl rfl rfl (Or.inr (List.mem_of_getElem? (i := 1174) (by decide +kernel))) (by decide) rfl ?_
  refine (ab_r_dup ab_e16 dX3_init_49).mpr ⟨rfl, ?_⟩
  refine (ab_r_iconst ab_e16 dX3_init_50).mpr ?_
  refine ab_w_new 6 [.inl (3, [vo none, vo none, vi 0, vo none, vo none, vo none, vo none]), .inr (.inr (.inr (5, 5, (ab_ui (ab_ui (ab_ui (ab_ui (fun _ => none) 0 (some (a + 2))) 1 (some (a + 3))) 2 (some (a + 4))) 3 (some (a + 5)))))), .inl (1, []), .inl (0, []), .inl (8, []), .inl (5, []), .inl (9, [])] (6, 5) ab_e16 dX3_init_51 (by rw [ab_n16, ab_w16]; exact ab_nw_3_21) rfl (fs := []) rfl rfl rfl (by decide) rfl ?_
  refine (ab_r_dup ab_e16 dX3_init_54).mpr ⟨rfl, ?_⟩
  refine ab_w_init (As := []) 6 7 [.inl (3, [vo none, vo none, vi 0, vo none, vo none, vo none, vo none]), .inr (.inr (.inr (5, 5, (ab_ui (ab_ui (ab_ui (ab_ui (fun _ => none) 0 (some (a + 2))) 1 (some (a + 3))) 2 (some (a + 4))) 3 (some (a + 5)))))), .inl (1, []), .inl (0, []), .inl (8, []), .inl (5, [])] [.inl (3, [vo none, vo none, vi 0, vo none, vo none, vo none, vo none]), .inr (.inr (.inr (5, 5, (ab_ui (ab_ui (ab_ui (ab_ui (fun _ => none) 0 (some (a + 2))) 1 (some (a + 3))) 2 (some (a + 4))) 3 (some (a + 5)))))), .inl (1, []), .inl (0, []), .inl (8, []), .inl (5, []), .inl (9, [])] (6, 5) (sp_i58) h6 ab_e16 dX3_init_55 (by rw [ab_n16, ab_lk_3_23]) (by rw [ab_w16]; exact ab_si_3_23) (Nat.le_of_ble_eq_true rfl) (by decide) rfl rfl rfl rfl rfl rfl (Nat.le_of_ble_eq_true rfl) (by decide) rfl rfl ?_
  refine ab_w_aas (C := RX9) (T := TX9) (N := 0) (E := "LevelLadders$Free") 1 6 [.inl (3, [vo none, vo none, vi 0, vo none, vo none, vo none, vo none]), .inr (.inr (.inr (5, 5, (ab_ui (ab_ui (ab_ui (ab_ui (ab_ui (fun _ => none) 0 (some (a + 2))) 1 (some (a + 3))) 2 (some (a + 4))) 3 (some (a + 5))) 4 (some (a + 6)))))), .inl (1, []), .inl (0, []), .inl (8, []), .inl (5, []), .inl (9, [])] rfl rfl h6 ab_e16 dX3_init_58 rfl rfl rfl rfl (Or.inr (List.mem_of_getElem? (i := 1175) (by decide +kernel))) (by decide) rfl ?_
  refine ab_w_put (ci := 3) (kf := 0) 0 [.inl (3, [vr (a + 1), vo none, vi 0, vo none, vo none, vo none, vo none]), .inr (.inr (.inr (5, 5, (ab_ui (ab_ui (ab_ui (ab_ui (ab_ui (fun _ => none) 0 (some (a + 2))) 1 (some (a + 3))) 2 (some (a + 4))) 3 (some (a + 5))) 4 (some (a + 6)))))), .inl (1, []), .inl (0, []), .inl (8, []), .inl (5, []), .inl (9, [])] rfl h6 ab_e16 dX3_init_59 ⟨⟨by rw [ab_n16, ab_lk_3_24], by decide⟩, by rw [ab_w16]; exact ab_fp_3_24⟩ rfl (Nat.le_of_ble_eq_true rfl) (by trivial) rfl ?_
  refine (ab_r_aload_n ab_e16 dX3_init_62 rfl).mpr ?_
  refine (ab_r_iconst ab_e16 dX3_init_63).mpr ?_
  refine ab_w_na 4 7 [.inl (3, [vr (a + 1), vo none, vi 0, vo none, vo none, vo none, vo none]), .inr (.inr (.inr (5, 5, (ab_ui (ab_ui (ab_ui (ab_ui (ab_ui (fun _ => none) 0 (some (a + 2))) 1 (some (a + 3))) 2 (some (a + 4))) 3 (some (a + 5))) 4 (some (a + 6)))))), .inl (1, []), .inl (0, []), .inl (8, []), .inl (5, []), .inl (9, []), ab_ia 4 (fun _ => 0)] (7, 9) ab_e16 dX3_init_64 rfl (by decide) rfl rfl rfl rfl (by decide) rfl ?_
  refine ab_w_put (ci := 3) (kf := 1) 0 [.inl (3, [vr (a + 1), vr (a + 7), vi 0, vo none, vo none, vo none, vo none]), .inr (.inr (.inr (5, 5, (ab_ui (ab_ui (ab_ui (ab_ui (ab_ui (fun _ => none) 0 (some (a + 2))) 1 (some (a + 3))) 2 (some (a + 4))) 3 (some (a + 5))) 4 (some (a + 6)))))), .inl (1, []), .inl (0, []), .inl (8, []), .inl (5, []), .inl (9, []), ab_ia 4 (fun _ => 0)] rfl h6 ab_e16 dX3_init_66 ⟨⟨by rw [ab_n16, ab_lk_3_30], by decide⟩, by rw [ab_w16]; exact ab_fp_3_30⟩ rfl (Nat.le_of_ble_eq_true rfl) (by trivial) rfl ?_
  refine (ab_r_aload_n ab_e16 dX3_init_69 rfl).mpr ?_
  refine (ab_r_iconst ab_e16 dX3_init_70).mpr ?_
  refine ab_w_put (ci := 3) (kf := 2) 0 [.inl (3, [vr (a + 1), vr (a + 7), vi (-1), vo none, vo none, vo none, vo none]), .inr (.inr (.inr (5, 5, (ab_ui (ab_ui (ab_ui (ab_ui (ab_ui (fun _ => none) 0 (some (a + 2))) 1 (some (a + 3))) 2 (some (a + 4))) 3 (some (a + 5))) 4 (some (a + 6)))))), .inl (1, []), .inl (0, []), .inl (8, []), .inl (5, []), .inl (9, []), ab_ia 4 (fun _ => 0)] rfl h6 ab_e16 dX3_init_71 ⟨⟨by rw [ab_n16, ab_lk_3_34], by decide⟩, by rw [ab_w16]; exact ab_fp_3_34 _⟩ rfl (Nat.le_of_ble_eq_true rfl) (by trivial) rfl ?_
  refine (ab_r_aload_n ab_e16 dX3_init_74 rfl).mpr ?_
  refine (ab_r_sipush ab_e16 dX3_init_75 (by decide)).mpr ?_
  refine ab_w_na 361 8 [.inl (3, [vr (a + 1), vr (a + 7), vi (-1), vo none, vo none, vo none, vo none]), .inr (.inr (.inr (5, 5, (ab_ui (ab_ui (ab_ui (ab_ui (ab_ui (fun _ => none) 0 (some (a + 2))) 1 (some (a + 3))) 2 (some (a + 4))) 3 (some (a + 5))) 4 (some (a + 6)))))), .inl (1, []), .inl (0, []), .inl (8, []), .inl (5, []), .inl (9, []), ab_ia 4 (fun _ => 0), ab_ia 361 (fun _ => 0)] (8, 370) ab_e16 dX3_init_78 rfl (by decide) rfl rfl rfl rfl (by decide) rfl ?_
  refine ab_w_put (ci := 3) (kf := 3) 0 [.inl (3, [vr (a + 1), vr (a + 7), vi (-1), vr (a + 8), vo none, vo none, vo none]), .inr (.inr (.inr (5, 5, (ab_ui (ab_ui (ab_ui (ab_ui (ab_ui (fun _ => none) 0 (some (a + 2))) 1 (some (a + 3))) 2 (some (a + 4))) 3 (some (a + 5))) 4 (some (a + 6)))))), .inl (1, []), .inl (0, []), .inl (8, []), .inl (5, []), .inl (9, []), ab_ia 4 (fun _ => 0), ab_ia 361 (fun _ => 0)] rfl h6 ab_e16 dX3_init_80 ⟨⟨by rw [ab_n16, ab_lk_3_38], by decide⟩, by rw [ab_w16]; exact ab_fp_3_38⟩ rfl (Nat.le_of_ble_eq_true rfl) (by trivial) rfl ?_
  refine (ab_r_aload_n ab_e16 dX3_init_83 rfl).mpr ?_
  refine (ab_r_sipush ab_e16 dX3_init_84 (by decide)).mpr ?_
  refine ab_w_na 361 9 [.inl (3, [vr (a + 1), vr (a + 7), vi (-1), vr (a + 8), vo none, vo none, vo none]), .inr (.inr (.inr (5, 5, (ab_ui (ab_ui (ab_ui (ab_ui (ab_ui (fun _ => none) 0 (some (a + 2))) 1 (some (a + 3))) 2 (some (a + 4))) 3 (some (a + 5))) 4 (some (a + 6)))))), .inl (1, []), .inl (0, []), .inl (8, []), .inl (5, []), .inl (9, []), ab_ia 4 (fun _ => 0), ab_ia 361 (fun _ => 0), ab_ia 361 (fun _ => 0)] (9, 731) ab_e16 dX3_init_87 rfl (by decide) rfl rfl rfl rfl (by decide) rfl ?_
  refine ab_w_put (ci := 3) (kf := 4) 0 [.inl (3, [vr (a + 1), vr (a + 7), vi (-1), vr (a + 8), vr (a + 9), vo none, vo none]), .inr (.inr (.inr (5, 5, (ab_ui (ab_ui (ab_ui (ab_ui (ab_ui (fun _ => none) 0 (some (a + 2))) 1 (some (a + 3))) 2 (some (a + 4))) 3 (some (a + 5))) 4 (some (a + 6)))))), .inl (1, []), .inl (0, []), .inl (8, []), .inl (5, []), .inl (9, []), ab_ia 4 (fun _ => 0), ab_ia 361 (fun _ => 0), ab_ia 361 (fun _ => 0)] rfl h6 ab_e16 dX3_init_89 ⟨⟨by rw [ab_n16, ab_lk_3_41], by decide⟩, by rw [ab_w16]; exact ab_fp_3_41⟩ rfl (Nat.le_of_ble_eq_true rfl) (by trivial) rfl ?_
  refine (ab_r_aload_n ab_e16 dX3_init_92 rfl).mpr ?_
  refine (ab_r_bipush ab_e16 dX3_init_93 (by decide)).mpr ?_
  refine ab_w_na 7 10 [.inl (3, [vr (a + 1), vr (a + 7), vi (-1), vr (a + 8), vr (a + 9), vo none, vo none]), .inr (.inr (.inr (5, 5, (ab_ui (ab_ui (ab_ui (ab_ui (ab_ui (fun _ => none) 0 (some (a + 2))) 1 (some (a + 3))) 2 (some (a + 4))) 3 (some (a + 5))) 4 (some (a + 6)))))), .inl (1, []), .inl (0, []), .inl (8, []), .inl (5, []), .inl (9, []), ab_ia 4 (fun _ => 0), ab_ia 361 (fun _ => 0), ab_ia 361 (fun _ => 0), ab_ia 7 (fun _ => 0)] (10, 738) ab_e16 dX3_init_95 rfl (by decide) rfl rfl rfl rfl (by decide) rfl ?_
  refine ab_w_put (ci := 3) (kf := 5) 0 [.inl (3, [vr (a + 1), vr (a + 7), vi (-1), vr (a + 8), vr (a + 9), vr (a + 10), vo none]), .inr (.inr (.inr (5, 5, (ab_ui (ab_ui (ab_ui (ab_ui (ab_ui (fun _ => none) 0 (some (a + 2))) 1 (some (a + 3))) 2 (some (a + 4))) 3 (some (a + 5))) 4 (some (a + 6)))))), .inl (1, []), .inl (0, []), .inl (8, []), .inl (5, []), .inl (9, []), ab_ia 4 (fun _ => 0), ab_ia 361 (fun _ => 0), ab_ia 361 (fun _ => 0), ab_ia 7 (fun _ => 0)] rfl h6 ab_e16 dX3_init_97 ⟨⟨by rw [ab_n16, ab_lk_3_44], by decide⟩, by rw [ab_w16]; exact ab_fp_3_44⟩ rfl (Nat.le_of_ble_eq_true rfl) (by trivial) rfl ?_
  refine (ab_r_aload_n ab_e16 dX3_init_100 rfl).mpr ?_
  refine ab_w_new 11 [.inl (3, [vr (a + 1), vr (a + 7), vi (-1), vr (a + 8), vr (a + 9), vr (a + 10), vo none]), .inr (.inr (.inr (5, 5, (ab_ui (ab_ui (ab_ui (ab_ui (ab_ui (fun _ => none) 0 (some (a + 2))) 1 (some (a + 3))) 2 (some (a + 4))) 3 (some (a + 5))) 4 (some (a + 6)))))), .inl (1, []), .inl (0, []), .inl (8, []), .inl (5, []), .inl (9, []), ab_ia 4 (fun _ => 0), ab_ia 361 (fun _ => 0), ab_ia 361 (fun _ => 0), ab_ia 7 (fun _ => 0), .inl (2, [vo none, vo none, vi 0, vi 0, vi 0, vi 0])] (11, 744) ab_e16 dX3_init_101 (by rw [ab_n16, ab_w16]; exact ab_nw_3_47) rfl (fs := [vo none, vo none, vi 0, vi 0, vi 0, vi 0]) rfl rfl rfl (by decide) rfl ?_
  refine (ab_r_dup ab_e16 dX3_init_104).mpr ⟨rfl, ?_⟩
  refine ab_w_init (As := []) 11 14 [.inl (3, [vr (a + 1), vr (a + 7), vi (-1), vr (a + 8), vr (a + 9), vr (a + 10), vo none]), .inr (.inr (.inr (5, 5, (ab_ui (ab_ui (ab_ui (ab_ui (ab_ui (fun _ => none) 0 (some (a + 2))) 1 (some (a + 3))) 2 (some (a + 4))) 3 (some (a + 5))) 4 (some (a + 6)))))), .inl (1, []), .inl (0, []), .inl (8, []), .inl (5, []), .inl (9, []), ab_ia 4 (fun _ => 0), ab_ia 361 (fun _ => 0), ab_ia 361 (fun _ => 0), ab_ia 7 (fun _ => 0)] [.inl (3, [vr (a + 1), vr (a + 7), vi (-1), vr (a + 8), vr (a + 9), vr (a + 10), vo none]), .inr (.inr (.inr (5, 5, (ab_ui (ab_ui (ab_ui (ab_ui (ab_ui (fun _ => none) 0 (some (a + 2))) 1 (some (a + 3))) 2 (some (a + 4))) 3 (some (a + 5))) 4 (some (a + 6)))))), .inl (1, []), .inl (0, []), .inl (8, []), .inl (5, []), .inl (9, []), ab_ia 4 (fun _ => 0), ab_ia 361 (fun _ => 0), ab_ia 361 (fun _ => 0), ab_ia 7 (fun _ => 0), .inl (2, [vr (a + 12), vr (a + 13), vi 0, vi 0, vi 0, vi 0]), ab_ia 84 (fun _ => 0), ab_ia 7 (fun _ => 0)] (13, 835) (sp_i5) h6 ab_e16 dX3_init_105 (by rw [ab_n16, ab_lk_3_49]) (by rw [ab_w16]; exact ab_si_3_49) (Nat.le_of_ble_eq_true rfl) (by decide) rfl rfl rfl rfl rfl rfl (Nat.le_of_ble_eq_true rfl) (by decide) rfl rfl ?_
  refine ab_w_put (ci := 3) (kf := 6) 0 [.inl (3, [vr (a + 1), vr (a + 7), vi (-1), vr (a + 8), vr (a + 9), vr (a + 10), vr (a + 11)]), .inr (.inr (.inr (5, 5, (ab_ui (ab_ui (ab_ui (ab_ui (ab_ui (fun _ => none) 0 (some (a + 2))) 1 (some (a + 3))) 2 (some (a + 4))) 3 (some (a + 5))) 4 (some (a + 6)))))), .inl (1, []), .inl (0, []), .inl (8, []), .inl (5, []), .inl (9, []), ab_ia 4 (fun _ => 0), ab_ia 361 (fun _ => 0), ab_ia 361 (fun _ => 0), ab_ia 7 (fun _ => 0), .inl (2, [vr (a + 12), vr (a + 13), vi 0, vi 0, vi 0, vi 0]), ab_ia 84 (fun _ => 0), ab_ia 7 (fun _ => 0)] rfl h6 ab_e16 dX3_init_108 ⟨⟨by rw [ab_n16, ab_lk_3_50], by decide⟩, by rw [ab_w16]; exact ab_fp_3_50⟩ rfl (Nat.le_of_ble_eq_true rfl) (by trivial) rfl ?_
  refine (ab_r_return (hc := ab_e16) dX3_init_111 rfl).mpr ⟨⟨by decide, by decide⟩, ?_⟩
  exact q
set_option maxHeartbeats 4000000 in
theorem sp_i41_60 : ab_ci 41 [vi 60] (.inl (7, [vo none, vi 0, vi 0, vi 0, vo none, vi 0])) (fun a => [.inl (7, [vr (a + 2), vi 0, vi 0, vi 0, vr (a + 1), vi 0]), ab_ia 30 (fun _ => 0), .inr (.inl (1, 60, (fun _ => 0)))]) := by
  intro h a Q h6 q
  show ab_G 41 0 [some (vr a), some (vi 60)] [] (ab_mkc h a [.inl (7, [vo none, vi 0, vi 0, vi 0, vo none, vi 0])]) (a + 1) (0, 0) Q
  refine (ab_r_aload_n ab_e41 dX7_init_0 rfl).mpr ?_
  refine ab_r_objinit ab_e41 dX7_init_1 (by rw [ab_n41, ab_lk_7_3]) (by rw [ab_w41]; exact ab_mo_7_3) (by decide) ⟨Nat.le_of_ble_eq_true rfl, ?_⟩
  refine (ab_r_aload_n ab_e41 dX7_init_4 rfl).mpr ?_
  refine (ab_r_bipush ab_e41 dX7_init_5 (by decide)).mpr ?_
  refine ab_w_na 30 1 [.inl (7, [vo none, vi 0, vi 0, vi 0, vo none, vi 0]), ab_ia 30 (fun _ => 0)] (1, 30) ab_e41 dX7_init_7 rfl (by decide) rfl rfl rfl rfl (by decide) rfl ?_
  refine ab_w_put (ci := 7) (kf := 4) 0 [.inl (7, [vo none, vi 0, vi 0, vi 0, vr (a + 1), vi 0]), ab_ia 30 (fun _ => 0)] rfl h6 ab_e41 dX7_init_9 ⟨⟨by rw [ab_n41, ab_lk_7_9], by decide⟩, by rw [ab_w41]; exact ab_fp_7_9⟩ rfl (Nat.le_of_ble_eq_true rfl) (by trivial) rfl ?_
  refine (ab_r_aload_n ab_e41 dX7_init_12 rfl).mpr ?_
  refine (ab_r_iload_n ab_e41 dX7_init_13 rfl).mpr ?_
  refine ab_w_na 60 2 [.inl (7, [vo none, vi 0, vi 0, vi 0, vr (a + 1), vi 0]), ab_ia 30 (fun _ => 0), .inr (.inl (1, 60, (fun _ => 0)))] (2, 90) ab_e41 dX7_init_14 rfl (by decide) rfl rfl rfl rfl (by decide) rfl ?_
  refine ab_w_put (ci := 7) (kf := 0) 0 [.inl (7, [vr (a + 2), vi 0, vi 0, vi 0, vr (a + 1), vi 0]), ab_ia 30 (fun _ => 0), .inr (.inl (1, 60, (fun _ => 0)))] rfl h6 ab_e41 dX7_init_16 ⟨⟨by rw [ab_n41, ab_lk_7_15], by decide⟩, by rw [ab_w41]; exact ab_fp_7_15⟩ rfl (Nat.le_of_ble_eq_true rfl) (by trivial) rfl ?_
  refine (ab_r_return (hc := ab_e41) dX7_init_19 rfl).mpr ⟨⟨by decide, by decide⟩, ?_⟩
  exact q
set_option maxHeartbeats 4000000 in
theorem sp_i41_94 : ab_ci 41 [vi 94] (.inl (7, [vo none, vi 0, vi 0, vi 0, vo none, vi 0])) (fun a => [.inl (7, [vr (a + 2), vi 0, vi 0, vi 0, vr (a + 1), vi 0]), ab_ia 30 (fun _ => 0), .inr (.inl (1, 94, (fun _ => 0)))]) := by
  intro h a Q h6 q
  show ab_G 41 0 [some (vr a), some (vi 94)] [] (ab_mkc h a [.inl (7, [vo none, vi 0, vi 0, vi 0, vo none, vi 0])]) (a + 1) (0, 0) Q
  refine (ab_r_aload_n ab_e41 dX7_init_0 rfl).mpr ?_
  refine ab_r_objinit ab_e41 dX7_init_1 (by rw [ab_n41, ab_lk_7_3]) (by rw [ab_w41]; exact ab_mo_7_3) (by decide) ⟨Nat.le_of_ble_eq_true rfl, ?_⟩
  refine (ab_r_aload_n ab_e41 dX7_init_4 rfl).mpr ?_
  refine (ab_r_bipush ab_e41 dX7_init_5 (by decide)).mpr ?_
  refine ab_w_na 30 1 [.inl (7, [vo none, vi 0, vi 0, vi 0, vo none, vi 0]), ab_ia 30 (fun _ => 0)] (1, 30) ab_e41 dX7_init_7 rfl (by decide) rfl rfl rfl rfl (by decide) rfl ?_
  refine ab_w_put (ci := 7) (kf := 4) 0 [.inl (7, [vo none, vi 0, vi 0, vi 0, vr (a + 1), vi 0]), ab_ia 30 (fun _ => 0)] rfl h6 ab_e41 dX7_init_9 ⟨⟨by rw [ab_n41, ab_lk_7_9], by decide⟩, by rw [ab_w41]; exact ab_fp_7_9⟩ rfl (Nat.le_of_ble_eq_true rfl) (by trivial) rfl ?_
  refine (ab_r_aload_n ab_e41 dX7_init_12 rfl).mpr ?_
  refine (ab_r_iload_n ab_e41 dX7_init_13 rfl).mpr ?_
  refine ab_w_na 94 2 [.inl (7, [vo none, vi 0, vi 0, vi 0, vr (a + 1), vi 0]), ab_ia 30 (fun _ => 0), .inr (.inl (1, 94, (fun _ => 0)))] (2, 124) ab_e41 dX7_init_14 rfl (by decide) rfl rfl rfl rfl (by decide) rfl ?_
  refine ab_w_put (ci := 7) (kf := 0) 0 [.inl (7, [vr (a + 2), vi 0, vi 0, vi 0, vr (a + 1), vi 0]), ab_ia 30 (fun _ => 0), .inr (.inl (1, 94, (fun _ => 0)))] rfl h6 ab_e41 dX7_init_16 ⟨⟨by rw [ab_n41, ab_lk_7_15], by decide⟩, by rw [ab_w41]; exact ab_fp_7_15⟩ rfl (Nat.le_of_ble_eq_true rfl) (by trivial) rfl ?_
  refine (ab_r_return (hc := ab_e41) dX7_init_19 rfl).mpr ⟨⟨by decide, by decide⟩, ?_⟩
  exact q
