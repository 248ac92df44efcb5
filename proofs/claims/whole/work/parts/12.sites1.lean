set_option maxRecDepth 100000 in
theorem ab_lk_7_15 : ab_lk 7 15 = 700 := by decide +kernel
set_option maxRecDepth 100000 in
theorem ab_fp_7_19 : ∀ mn, ab_fp RX7 mn 19 7 1 := fun _ => ⟨RX7, TX7, 6, rfl, by decide, Or.inl ⟨rfl, Or.inl (List.mem_of_getElem? (i := 246) (by decide +kernel))⟩⟩
set_option maxRecDepth 100000 in
theorem ab_lk_7_19 : ab_lk 7 19 = 701 := by decide +kernel
set_option maxRecDepth 100000 in
theorem ab_fl_7_19 : ab_fl RX7 19 7 1 := ⟨RX7, TX7, 6, rfl, by decide, Or.inl (List.mem_of_getElem? (i := 246) (by decide +kernel))⟩
set_option maxRecDepth 100000 in
theorem ab_fl_7_15 : ab_fl RX7 15 7 0 := ⟨RX7, TX7, 6, rfl, by decide, Or.inl (List.mem_of_getElem? (i := 244) (by decide +kernel))⟩
set_option maxRecDepth 100000 in
theorem ab_ss_7_23 : ab_sS RX7 23 45 2 := ⟨ab_ok45, List.mem_of_getElem? (i := 561) (by decide +kernel), Or.inl (List.mem_of_getElem? (i := 560) (by decide +kernel))⟩
set_option maxRecDepth 100000 in
theorem ab_lk_7_23 : ab_lk 7 23 = 45 := by decide +kernel
set_option maxRecDepth 100000 in
theorem ab_ss_7_27 : ab_sS RX7 27 47 3 := ⟨ab_ok47, List.mem_of_getElem? (i := 564) (by decide +kernel), Or.inl (List.mem_of_getElem? (i := 563) (by decide +kernel))⟩
set_option maxRecDepth 100000 in
theorem ab_lk_7_27 : ab_lk 7 27 = 47 := by decide +kernel
set_option maxRecDepth 100000 in
theorem ab_ss_7_31 : ab_sS RX7 31 46 1 := ⟨ab_ok46, List.mem_of_getElem? (i := 567) (by decide +kernel), Or.inl (List.mem_of_getElem? (i := 566) (by decide +kernel))⟩
set_option maxRecDepth 100000 in
theorem ab_lk_7_31 : ab_lk 7 31 = 46 := by decide +kernel
set_option maxRecDepth 100000 in
theorem ab_fp_7_35 : ∀ mn, ab_fp RX7 mn 35 7 2 := fun _ => ⟨RX7, TX7, 6, rfl, by decide, Or.inl ⟨rfl, Or.inl (List.mem_of_getElem? (i := 248) (by decide +kernel))⟩⟩
set_option maxRecDepth 100000 in
theorem ab_lk_7_35 : ab_lk 7 35 = 702 := by decide +kernel
set_option maxRecDepth 100000 in
theorem ab_fp_7_38 : ∀ mn, ab_fp RX7 mn 38 7 3 := fun _ => ⟨RX7, TX7, 6, rfl, by decide, Or.inl ⟨rfl, Or.inl (List.mem_of_getElem? (i := 249) (by decide +kernel))⟩⟩
set_option maxRecDepth 100000 in
theorem ab_lk_7_38 : ab_lk 7 38 = 703 := by decide +kernel
set_option maxRecDepth 100000 in
theorem ab_fp_7_41 : ∀ mn, ab_fp RX7 mn 41 7 5 := fun _ => ⟨RX7, TX7, 6, rfl, by decide, Or.inl ⟨rfl, Or.inl (List.mem_of_getElem? (i := 253) (by decide +kernel))⟩⟩
set_option maxRecDepth 100000 in
theorem ab_lk_7_41 : ab_lk 7 41 = 705 := by decide +kernel
set_option maxRecDepth 100000 in
theorem ab_fl_7_35 : ab_fl RX7 35 7 2 := ⟨RX7, TX7, 6, rfl, by decide, Or.inl (List.mem_of_getElem? (i := 248) (by decide +kernel))⟩
set_option maxRecDepth 100000 in
theorem ab_sv_7_44 : ab_sV RX7 44 7 50 1 := ⟨ab_ok50, List.mem_of_getElem? (i := 583) (by decide +kernel), RX7, TX7, 6, rfl, Or.inl ⟨Or.inl (List.mem_of_getElem? (i := 581) (by decide +kernel)), List.mem_of_getElem? (i := 12) (by decide +kernel)⟩⟩
set_option maxRecDepth 100000 in
theorem ab_vk_7_44 : ∀ ci, ab_vk 7 44 ci = 50 := fun _ => rfl
set_option maxRecDepth 100000 in
theorem ab_fl_7_38 : ab_fl RX7 38 7 3 := ⟨RX7, TX7, 6, rfl, by decide, Or.inl (List.mem_of_getElem? (i := 249) (by decide +kernel))⟩
set_option maxRecDepth 100000 in
theorem ab_fl_7_41 : ab_fl RX7 41 7 5 := ⟨RX7, TX7, 6, rfl, by decide, Or.inl (List.mem_of_getElem? (i := 253) (by decide +kernel))⟩
set_option maxRecDepth 100000 in
theorem ab_fl_7_9 : ab_fl RX7 9 7 4 := ⟨RX7, TX7, 6, rfl, by decide, Or.inl (List.mem_of_getElem? (i := 251) (by decide +kernel))⟩
set_option maxRecDepth 100000 in
theorem ab_lk_7_48 : ab_lk 7 48 = 991 := by decide +kernel
set_option maxRecDepth 100000 in
theorem ab_gs_7_48 : Cond.fieldLink RX7 48 (ab_stn 1).1 (ab_stn 1).2.1 (ab_stn 1).2.2 ∈ lw_tbl ∨ ∃ host, Cond.fieldLinkNest RX7 48 (ab_stn 1).1 (ab_stn 1).2.1 (ab_stn 1).2.2 host ∈ lw_tbl := Or.inr ⟨"LevelLadders", List.mem_of_getElem? (i := 708) (by decide +kernel)⟩
set_option maxRecDepth 100000 in
theorem ab_fl_7_51 : ab_fl RX7 51 10 0 := ⟨RX10, TX10, 2, rfl, by decide, Or.inl (List.mem_of_getElem? (i := 92) (by decide +kernel))⟩
set_option maxRecDepth 100000 in
theorem ab_lk_7_51 : ab_lk 7 51 = 1000 := by decide +kernel
set_option maxRecDepth 100000 in
theorem ab_fl_7_56 : ab_fl RX7 56 10 1 := ⟨RX10, TX10, 2, rfl, by decide, Or.inl (List.mem_of_getElem? (i := 96) (by decide +kernel))⟩
set_option maxRecDepth 100000 in
theorem ab_lk_7_56 : ab_lk 7 56 = 1001 := by decide +kernel
set_option maxRecDepth 100000 in
theorem ab_sv_7_59 : ab_sV RX7 59 7 53 2 := ⟨ab_ok53, List.mem_of_getElem? (i := 711) (by decide +kernel), RX7, TX7, 6, rfl, Or.inl ⟨Or.inl (List.mem_of_getElem? (i := 709) (by decide +kernel)), List.mem_of_getElem? (i := 17) (by decide +kernel)⟩⟩
set_option maxRecDepth 100000 in
theorem ab_vk_7_59 : ∀ ci, ab_vk 7 59 ci = 53 := fun _ => rfl
set_option maxRecDepth 100000 in
theorem ab_sv_7_63 : ab_sV RX7 63 7 43 1 := ⟨ab_ok43, List.mem_of_getElem? (i := 546) (by decide +kernel), RX7, TX7, 6, rfl, Or.inl ⟨Or.inl (List.mem_of_getElem? (i := 713) (by decide +kernel)), List.mem_of_getElem? (i := 547) (by decide +kernel)⟩⟩
set_option maxRecDepth 100000 in
theorem ab_vk_7_63 : ∀ ci, ab_vk 7 63 ci = 43 := fun _ => rfl
set_option maxRecDepth 100000 in
theorem ab_sv_7_67 : ab_sV RX7 67 7 54 1 := ⟨ab_ok54, List.mem_of_getElem? (i := 716) (by decide +kernel), RX7, TX7, 6, rfl, Or.inl ⟨Or.inl (List.mem_of_getElem? (i := 714) (by decide +kernel)), List.mem_of_getElem? (i := 18) (by decide +kernel)⟩⟩
set_option maxRecDepth 100000 in
theorem ab_vk_7_67 : ∀ ci, ab_vk 7 67 ci = 54 := fun _ => rfl
set_option maxRecDepth 100000 in
theorem ab_lk_7_70 : ab_lk 7 70 = 992 := by decide +kernel
set_option maxRecDepth 100000 in
theorem ab_gs_7_70 : Cond.fieldLink RX7 70 (ab_stn 2).1 (ab_stn 2).2.1 (ab_stn 2).2.2 ∈ lw_tbl ∨ ∃ host, Cond.fieldLinkNest RX7 70 (ab_stn 2).1 (ab_stn 2).2.1 (ab_stn 2).2.2 host ∈ lw_tbl := Or.inr ⟨"LevelLadders", List.mem_of_getElem? (i := 718) (by decide +kernel)⟩
set_option maxRecDepth 100000 in
theorem ab_ss_7_73 : ab_sS RX7 73 109 2 := ⟨ab_ok109, List.mem_of_getElem? (i := 386) (by decide +kernel), Or.inr ⟨"LevelLadders", List.mem_of_getElem? (i := 719) (by decide +kernel)⟩⟩
set_option maxRecDepth 100000 in
theorem ab_lk_7_73 : ab_lk 7 73 = 109 := by decide +kernel
set_option maxRecDepth 100000 in
theorem ab_si_8_1 : ab_sI RX8 1 0 0 := ⟨ab_ok0, List.mem_of_getElem? (i := 142) (by decide +kernel), rfl, rfl, Or.inr ⟨"LevelLadders", List.mem_of_getElem? (i := 151) (by decide +kernel)⟩⟩
set_option maxRecDepth 100000 in
theorem ab_lk_8_1 : ab_lk 8 1 = 0 := by decide +kernel
set_option maxRecDepth 100000 in
theorem ab_su_8_7 : ab_sU RX8 7 3 2 := ⟨ab_ok3, "LevelLadders$Charged", List.mem_of_getElem? (i := 341) (by decide +kernel), List.mem_of_getElem? (i := 342) (by decide +kernel), List.mem_of_getElem? (i := 152) (by decide +kernel), Or.inr (List.mem_of_getElem? (i := 145) (by decide +kernel)), List.mem_of_getElem? (i := 331) (by decide +kernel), by decide +kernel⟩
set_option maxRecDepth 100000 in
theorem ab_lk_8_7 : ab_lk 8 7 = 3 := by decide +kernel
set_option maxRecDepth 100000 in
theorem ab_su_8_11 : ab_sU RX8 11 1 3 := ⟨ab_ok1, "LevelLadders$Charged", List.mem_of_getElem? (i := 359) (by decide +kernel), List.mem_of_getElem? (i := 1170) (by decide +kernel), List.mem_of_getElem? (i := 152) (by decide +kernel), Or.inl rfl, List.mem_of_getElem? (i := 351) (by decide +kernel), by decide +kernel⟩
set_option maxRecDepth 100000 in
theorem ab_lk_8_11 : ab_lk 8 11 = 1 := by decide +kernel
set_option maxRecDepth 100000 in
theorem ab_si_9_1 : ab_sI RX9 1 33 0 := ⟨ab_ok33, List.mem_of_getElem? (i := 156) (by decide +kernel), rfl, rfl, Or.inr ⟨"LevelLadders", List.mem_of_getElem? (i := 165) (by decide +kernel)⟩⟩
set_option maxRecDepth 100000 in
theorem ab_lk_9_1 : ab_lk 9 1 = 33 := by decide +kernel
set_option maxRecDepth 100000 in
theorem ab_su_9_7 : ab_sU RX9 7 35 3 := ⟨ab_ok35, "LevelLadders$Strings", List.mem_of_getElem? (i := 363) (by decide +kernel), List.mem_of_getElem? (i := 1171) (by decide +kernel), List.mem_of_getElem? (i := 166) (by decide +kernel), Or.inl rfl, List.mem_of_getElem? (i := 354) (by decide +kernel), by decide +kernel⟩
set_option maxRecDepth 100000 in
theorem ab_lk_9_7 : ab_lk 9 7 = 35 := by decide +kernel
set_option maxRecDepth 100000 in
theorem ab_mo_10_3 : Cond.methodLink RX10 3 objectInit ∈ lw_tbl := List.mem_of_getElem? (i := 89) (by decide +kernel)
set_option maxRecDepth 100000 in
theorem ab_lk_10_3 : ab_lk 10 3 = 998 := by decide +kernel
set_option maxRecDepth 100000 in
theorem ab_fp_10_9 : ab_fp RX10 "<init>" 9 10 1 := ⟨RX10, TX10, 2, rfl, by decide, Or.inr ⟨rfl, rfl, rfl, List.mem_of_getElem? (i := 94) (by decide +kernel)⟩⟩
set_option maxRecDepth 100000 in
theorem ab_lk_10_9 : ab_lk 10 9 = 1001 := by decide +kernel
set_option maxRecDepth 100000 in
theorem ab_fl_10_15 : ab_fl RX10 15 10 0 := ⟨RX10, TX10, 2, rfl, by decide, Or.inl (List.mem_of_getElem? (i := 90) (by decide +kernel))⟩
set_option maxRecDepth 100000 in
theorem ab_lk_10_15 : ab_lk 10 15 = 1000 := by decide +kernel
set_option maxRecDepth 100000 in
theorem ab_fp_10_15 : ∀ mn, ab_fp RX10 mn 15 10 0 := fun _ => ⟨RX10, TX10, 2, rfl, by decide, Or.inl ⟨rfl, Or.inl (List.mem_of_getElem? (i := 90) (by decide +kernel))⟩⟩
set_option maxRecDepth 100000 in
theorem ab_fl_10_9 : ab_fl RX10 9 10 1 := ⟨RX10, TX10, 2, rfl, by decide, Or.inl (List.mem_of_getElem? (i := 94) (by decide +kernel))⟩
set_option maxRecDepth 100000 in
theorem ab_mc_10_19 : Cond.methodLink RX10 19 arraycopyName ∈ lw_tbl := List.mem_of_getElem? (i := 615) (by decide +kernel)
set_option maxRecDepth 100000 in
theorem ab_lk_10_19 : ab_lk 10 19 = 999 := by decide +kernel
set_option maxRecDepth 100000 in
theorem ab_sv_10_25 : ab_sV RX10 25 10 62 1 := ⟨ab_ok62, List.mem_of_getElem? (i := 590) (by decide +kernel), RX10, TX10, 2, rfl, Or.inl ⟨Or.inl (List.mem_of_getElem? (i := 601) (by decide +kernel)), List.mem_of_getElem? (i := 591) (by decide +kernel)⟩⟩
set_option maxRecDepth 100000 in
theorem ab_vk_10_25 : ∀ ci, ab_vk 10 25 ci = 62 := fun _ => rfl
set_option maxRecDepth 100000 in
theorem ab_sv_10_29 : ab_sV RX10 29 10 66 0 := ⟨ab_ok66, List.mem_of_getElem? (i := 665) (by decide +kernel), RX10, TX10, 2, rfl, Or.inl ⟨Or.inl (List.mem_of_getElem? (i := 664) (by decide +kernel)), List.mem_of_getElem? (i := 666) (by decide +kernel)⟩⟩
set_option maxRecDepth 100000 in
theorem ab_vk_10_29 : ∀ ci, ab_vk 10 29 ci = 66 := fun _ => rfl
set_option maxRecDepth 100000 in
theorem ab_mo_11_3 : Cond.methodLink RX11 3 objectInit ∈ lw_tbl := List.mem_of_getElem? (i := 74) (by decide +kernel)
set_option maxRecDepth 100000 in
theorem ab_lk_11_3 : ab_lk 11 3 = 998 := by decide +kernel
set_option maxRecDepth 100000 in
theorem ab_nw_11_9 : ab_lk 11 9 = 4 ∧ ab_nc RX11 9 4 5 := ⟨by decide +kernel, RX4, TX4, rfl, List.mem_of_getElem? (i := 77) (by decide +kernel), List.mem_of_getElem? (i := 78) (by decide +kernel), List.mem_of_getElem? (i := 55) (by decide +kernel)⟩
set_option maxRecDepth 100000 in
theorem ab_si_11_11 : ab_sI RX11 11 30 0 := ⟨ab_ok30, List.mem_of_getElem? (i := 80) (by decide +kernel), rfl, rfl, Or.inr ⟨"LevelLadders", List.mem_of_getElem? (i := 79) (by decide +kernel)⟩⟩
set_option maxRecDepth 100000 in
theorem ab_lk_11_11 : ab_lk 11 11 = 30 := by decide +kernel
set_option maxRecDepth 100000 in
theorem ab_fp_11_12 : ab_fp RX11 "<init>" 12 11 0 := ⟨RX11, TX11, 11, rfl, by decide, Or.inr ⟨rfl, rfl, rfl, List.mem_of_getElem? (i := 273) (by decide +kernel)⟩⟩
set_option maxRecDepth 100000 in
theorem ab_lk_11_12 : ab_lk 11 12 = 1100 := by decide +kernel
set_option maxRecDepth 100000 in
theorem ab_fp_11_18 : ab_fp RX11 "<init>" 18 11 1 := ⟨RX11, TX11, 11, rfl, by decide, Or.inr ⟨rfl, rfl, rfl, List.mem_of_getElem? (i := 274) (by decide +kernel)⟩⟩
set_option maxRecDepth 100000 in
theorem ab_lk_11_18 : ab_lk 11 18 = 1101 := by decide +kernel
set_option maxRecDepth 100000 in
theorem ab_nw_11_21 : ab_lk 11 21 = 3 ∧ ab_nc RX11 21 3 7 := ⟨by decide +kernel, RX3, TX3, rfl, List.mem_of_getElem? (i := 125) (by decide +kernel), List.mem_of_getElem? (i := 126) (by decide +kernel), List.mem_of_getElem? (i := 57) (by decide +kernel)⟩
set_option maxRecDepth 100000 in
theorem ab_si_11_23 : ab_sI RX11 23 16 0 := ⟨ab_ok16, List.mem_of_getElem? (i := 128) (by decide +kernel), rfl, rfl, Or.inr ⟨"LevelLadders", List.mem_of_getElem? (i := 127) (by decide +kernel)⟩⟩
set_option maxRecDepth 100000 in
theorem ab_lk_11_23 : ab_lk 11 23 = 16 := by decide +kernel
set_option maxRecDepth 100000 in
theorem ab_fp_11_24 : ab_fp RX11 "<init>" 24 11 3 := ⟨RX11, TX11, 11, rfl, by decide, Or.inr ⟨rfl, rfl, rfl, List.mem_of_getElem? (i := 276) (by decide +kernel)⟩⟩
set_option maxRecDepth 100000 in
theorem ab_lk_11_24 : ab_lk 11 24 = 1103 := by decide +kernel
set_option maxRecDepth 100000 in
theorem ab_nw_11_28 : ab_lk 11 28 = 6 ∧ ab_nc RX11 28 6 4 := ⟨by decide +kernel, RX6, TX6, rfl, List.mem_of_getElem? (i := 218) (by decide +kernel), List.mem_of_getElem? (i := 219) (by decide +kernel), List.mem_of_getElem? (i := 64) (by decide +kernel)⟩
set_option maxRecDepth 100000 in
theorem ab_si_11_30 : ab_sI RX11 30 36 0 := ⟨ab_ok36, List.mem_of_getElem? (i := 221) (by decide +kernel), rfl, rfl, Or.inr ⟨"LevelLadders", List.mem_of_getElem? (i := 220) (by decide +kernel)⟩⟩
set_option maxRecDepth 100000 in
theorem ab_lk_11_30 : ab_lk 11 30 = 36 := by decide +kernel
set_option maxRecDepth 100000 in
theorem ab_fp_11_31 : ab_fp RX11 "<init>" 31 11 4 := ⟨RX11, TX11, 11, rfl, by decide, Or.inr ⟨rfl, rfl, rfl, List.mem_of_getElem? (i := 277) (by decide +kernel)⟩⟩
set_option maxRecDepth 100000 in
theorem ab_lk_11_31 : ab_lk 11 31 = 1104 := by decide +kernel
set_option maxRecDepth 100000 in
theorem ab_nw_11_35 : ab_lk 11 35 = 7 ∧ ab_nc RX11 35 7 6 := ⟨by decide +kernel, RX7, TX7, rfl, List.mem_of_getElem? (i := 238) (by decide +kernel), List.mem_of_getElem? (i := 239) (by decide +kernel), List.mem_of_getElem? (i := 65) (by decide +kernel)⟩
set_option maxRecDepth 100000 in
theorem ab_si_11_37 : ab_sI RX11 37 41 1 := ⟨ab_ok41, List.mem_of_getElem? (i := 241) (by decide +kernel), rfl, rfl, Or.inl (List.mem_of_getElem? (i := 240) (by decide +kernel))⟩
set_option maxRecDepth 100000 in
theorem ab_lk_11_37 : ab_lk 11 37 = 41 := by decide +kernel
set_option maxRecDepth 100000 in
theorem ab_fp_11_40 : ab_fp RX11 "<init>" 40 11 5 := ⟨RX11, TX11, 11, rfl, by decide, Or.inr ⟨rfl, rfl, rfl, List.mem_of_getElem? (i := 278) (by decide +kernel)⟩⟩
set_option maxRecDepth 100000 in
theorem ab_lk_11_40 : ab_lk 11 40 = 1105 := by decide +kernel
set_option maxRecDepth 100000 in
theorem ab_fp_11_44 : ab_fp RX11 "<init>" 44 11 6 := ⟨RX11, TX11, 11, rfl, by decide, Or.inr ⟨rfl, rfl, rfl, List.mem_of_getElem? (i := 279) (by decide +kernel)⟩⟩
set_option maxRecDepth 100000 in
theorem ab_lk_11_44 : ab_lk 11 44 = 1106 := by decide +kernel
set_option maxRecDepth 100000 in
theorem ab_nw_11_47 : ab_lk 11 47 = 10 ∧ ab_nc RX11 47 10 2 := ⟨by decide +kernel, RX10, TX10, rfl, List.mem_of_getElem? (i := 269) (by decide +kernel), List.mem_of_getElem? (i := 85) (by decide +kernel), List.mem_of_getElem? (i := 56) (by decide +kernel)⟩
set_option maxRecDepth 100000 in
theorem ab_si_11_49 : ab_sI RX11 49 60 0 := ⟨ab_ok60, List.mem_of_getElem? (i := 87) (by decide +kernel), rfl, rfl, Or.inr ⟨"LevelLadders", List.mem_of_getElem? (i := 270) (by decide +kernel)⟩⟩
set_option maxRecDepth 100000 in
theorem ab_lk_11_49 : ab_lk 11 49 = 60 := by decide +kernel
set_option maxRecDepth 100000 in
theorem ab_fp_11_50 : ab_fp RX11 "<init>" 50 11 7 := ⟨RX11, TX11, 11, rfl, by decide, Or.inr ⟨rfl, rfl, rfl, List.mem_of_getElem? (i := 280) (by decide +kernel)⟩⟩
set_option maxRecDepth 100000 in
theorem ab_lk_11_50 : ab_lk 11 50 = 1107 := by decide +kernel
set_option maxRecDepth 100000 in
theorem ab_fp_11_54 : ab_fp RX11 "<init>" 54 11 8 := ⟨RX11, TX11, 11, rfl, by decide, Or.inr ⟨rfl, rfl, rfl, List.mem_of_getElem? (i := 281) (by decide +kernel)⟩⟩
set_option maxRecDepth 100000 in
theorem ab_lk_11_54 : ab_lk 11 54 = 1108 := by decide +kernel
set_option maxRecDepth 100000 in
theorem ab_fp_11_59 : ab_fp RX11 "<init>" 59 11 9 := ⟨RX11, TX11, 11, rfl, by decide, Or.inr ⟨rfl, rfl, rfl, List.mem_of_getElem? (i := 282) (by decide +kernel)⟩⟩
set_option maxRecDepth 100000 in
theorem ab_lk_11_59 : ab_lk 11 59 = 1109 := by decide +kernel
set_option maxRecDepth 100000 in
theorem ab_fp_11_62 : ab_fp RX11 "<init>" 62 11 10 := ⟨RX11, TX11, 11, rfl, by decide, Or.inr ⟨rfl, rfl, rfl, List.mem_of_getElem? (i := 283) (by decide +kernel)⟩⟩
set_option maxRecDepth 100000 in
theorem ab_lk_11_62 : ab_lk 11 62 = 1110 := by decide +kernel
set_option maxRecDepth 100000 in
theorem ab_ss_11_66 : ab_sS RX11 66 102 2 := ⟨ab_ok102, List.mem_of_getElem? (i := 313) (by decide +kernel), Or.inl (List.mem_of_getElem? (i := 312) (by decide +kernel))⟩
set_option maxRecDepth 100000 in
theorem ab_lk_11_66 : ab_lk 11 66 = 102 := by decide +kernel
set_option maxRecDepth 100000 in
theorem ab_fl_11_12 : ab_fl RX11 12 11 0 := ⟨RX11, TX11, 11, rfl, by decide, Or.inl (List.mem_of_getElem? (i := 273) (by decide +kernel))⟩
set_option maxRecDepth 100000 in
theorem ab_fl_11_70 : ab_fl RX11 70 4 0 := ⟨RX4, TX4, 5, rfl, by decide, Or.inl (List.mem_of_getElem? (i := 105) (by decide +kernel))⟩
set_option maxRecDepth 100000 in
theorem ab_lk_11_70 : ab_lk 11 70 = 400 := by decide +kernel
set_option maxRecDepth 100000 in
theorem ab_ss_11_73 : ab_sS RX11 73 103 1 := ⟨ab_ok103, List.mem_of_getElem? (i := 324) (by decide +kernel), Or.inl (List.mem_of_getElem? (i := 323) (by decide +kernel))⟩
set_option maxRecDepth 100000 in
theorem ab_lk_11_73 : ab_lk 11 73 = 103 := by decide +kernel
set_option maxRecDepth 100000 in
theorem ab_fl_11_24 : ab_fl RX11 24 11 3 := ⟨RX11, TX11, 11, rfl, by decide, Or.inl (List.mem_of_getElem? (i := 276) (by decide +kernel))⟩
set_option maxRecDepth 100000 in
theorem ab_sv_11_77 : ab_sV RX11 77 3 17 1 := ⟨ab_ok17, List.mem_of_getElem? (i := 327) (by decide +kernel), RX3, TX3, 7, rfl, Or.inl ⟨Or.inl (List.mem_of_getElem? (i := 326) (by decide +kernel)), List.mem_of_getElem? (i := 328) (by decide +kernel)⟩⟩
set_option maxRecDepth 100000 in
theorem ab_vk_11_77 : ∀ ci, ab_vk 11 77 ci = 17 := fun _ => rfl
set_option maxRecDepth 100000 in
theorem ab_sv_11_81_1 : ab_sV RX11 81 1 3 2 := ⟨ab_ok3, List.mem_of_getElem? (i := 331) (by decide +kernel), RX1, TX1, 0, rfl, Or.inl ⟨Or.inl (List.mem_of_getElem? (i := 330) (by decide +kernel)), List.mem_of_getElem? (i := 332) (by decide +kernel)⟩⟩
set_option maxRecDepth 100000 in
theorem ab_vk_11_81_1 : ab_vk 11 81 1 = 3 := by decide +kernel
set_option maxRecDepth 100000 in
theorem ab_sv_11_81_0 : ab_sV RX11 81 0 3 2 := ⟨ab_ok3, List.mem_of_getElem? (i := 331) (by decide +kernel), RX0, TX0, 0, rfl, Or.inr ⟨⟨"LevelLadders$Free", "slope", "(II)I"⟩, "LevelLadders$Free", cX1_slope, 3, (some .int), List.mem_of_getElem? (i := 330) (by decide +kernel), List.mem_of_getElem? (i := 333) (by decide +kernel), List.mem_of_getElem? (i := 331) (by decide +kernel), List.mem_of_getElem? (i := 334) (by decide +kernel), List.mem_of_getElem? (i := 345) (by decide +kernel), ⟨by decide +kernel, by decide +kernel⟩, by decide +kernel⟩⟩
set_option maxRecDepth 100000 in
theorem ab_vk_11_81_0 : ab_vk 11 81 0 = 3 := by decide +kernel
set_option maxRecDepth 100000 in
theorem ab_sv_11_81_8 : ab_sV RX11 81 8 56 2 := ⟨ab_ok56, List.mem_of_getElem? (i := 339) (by decide +kernel), RX8, TX8, 0, rfl, Or.inr ⟨⟨"LevelLadders$Free", "slope", "(II)I"⟩, "LevelLadders$Free", cX1_slope, 3, (some .int), List.mem_of_getElem? (i := 330) (by decide +kernel), List.mem_of_getElem? (i := 333) (by decide +kernel), List.mem_of_getElem? (i := 331) (by decide +kernel), List.mem_of_getElem? (i := 338) (by decide +kernel), List.mem_of_getElem? (i := 345) (by decide +kernel), ⟨by decide +kernel, by decide +kernel⟩, by decide +kernel⟩⟩
set_option maxRecDepth 100000 in
theorem ab_vk_11_81_8 : ab_vk 11 81 8 = 56 := by decide +kernel
set_option maxRecDepth 100000 in
theorem ab_sv_11_81_5 : ab_sV RX11 81 5 34 2 := ⟨ab_ok34, List.mem_of_getElem? (i := 336) (by decide +kernel), RX5, TX5, 0, rfl, Or.inr ⟨⟨"LevelLadders$Free", "slope", "(II)I"⟩, "LevelLadders$Free", cX1_slope, 3, (some .int), List.mem_of_getElem? (i := 330) (by decide +kernel), List.mem_of_getElem? (i := 333) (by decide +kernel), List.mem_of_getElem? (i := 331) (by decide +kernel), List.mem_of_getElem? (i := 335) (by decide +kernel), List.mem_of_getElem? (i := 345) (by decide +kernel), ⟨by decide +kernel, by decide +kernel⟩, by decide +kernel⟩⟩
set_option maxRecDepth 100000 in
theorem ab_vk_11_81_5 : ab_vk 11 81 5 = 34 := by decide +kernel
set_option maxRecDepth 100000 in
theorem ab_sv_11_81_9 : ab_sV RX11 81 9 34 2 := ⟨ab_ok34, List.mem_of_getElem? (i := 336) (by decide +kernel), RX9, TX9, 0, rfl, Or.inr ⟨⟨"LevelLadders$Free", "slope", "(II)I"⟩, "LevelLadders$Free", cX1_slope, 3, (some .int), List.mem_of_getElem? (i := 330) (by decide +kernel), List.mem_of_getElem? (i := 333) (by decide +kernel), List.mem_of_getElem? (i := 331) (by decide +kernel), List.mem_of_getElem? (i := 344) (by decide +kernel), List.mem_of_getElem? (i := 345) (by decide +kernel), ⟨by decide +kernel, by decide +kernel⟩, by decide +kernel⟩⟩
set_option maxRecDepth 100000 in
theorem ab_vk_11_81_9 : ab_vk 11 81 9 = 34 := by decide +kernel
set_option maxRecDepth 100000 in
theorem ab_sv_11_87_1 : ab_sV RX11 87 1 4 3 := ⟨ab_ok4, List.mem_of_getElem? (i := 347) (by decide +kernel), RX1, TX1, 0, rfl, Or.inl ⟨Or.inl (List.mem_of_getElem? (i := 346) (by decide +kernel)), List.mem_of_getElem? (i := 348) (by decide +kernel)⟩⟩
set_option maxRecDepth 100000 in
theorem ab_vk_11_87_1 : ab_vk 11 87 1 = 4 := by decide +kernel
set_option maxRecDepth 100000 in
theorem ab_sv_11_87_0 : ab_sV RX11 87 0 1 3 := ⟨ab_ok1, List.mem_of_getElem? (i := 351) (by decide +kernel), RX0, TX0, 0, rfl, Or.inr ⟨⟨"LevelLadders$Free", "centre", "(III)I"⟩, "LevelLadders$Free", cX1_centre, 4, (some .int), List.mem_of_getElem? (i := 346) (by decide +kernel), List.mem_of_getElem? (i := 349) (by decide +kernel), List.mem_of_getElem? (i := 347) (by decide +kernel), List.mem_of_getElem? (i := 350) (by decide +kernel), List.mem_of_getElem? (i := 364) (by decide +kernel), ⟨by decide +kernel, by decide +kernel⟩, by decide +kernel⟩⟩
set_option maxRecDepth 100000 in
theorem ab_vk_11_87_0 : ab_vk 11 87 0 = 1 := by decide +kernel
set_option maxRecDepth 100000 in
theorem ab_sv_11_87_8 : ab_sV RX11 87 8 57 3 := ⟨ab_ok57, List.mem_of_getElem? (i := 357) (by decide +kernel), RX8, TX8, 0, rfl, Or.inr ⟨⟨"LevelLadders$Free", "centre", "(III)I"⟩, "LevelLadders$Free", cX1_centre, 4, (some .int), List.mem_of_getElem? (i := 346) (by decide +kernel), List.mem_of_getElem? (i := 349) (by decide +kernel), List.mem_of_getElem? (i := 347) (by decide +kernel), List.mem_of_getElem? (i := 356) (by decide +kernel), List.mem_of_getElem? (i := 364) (by decide +kernel), ⟨by decide +kernel, by decide +kernel⟩, by decide +kernel⟩⟩
set_option maxRecDepth 100000 in
theorem ab_vk_11_87_8 : ab_vk 11 87 8 = 57 := by decide +kernel
set_option maxRecDepth 100000 in
theorem ab_sv_11_87_5 : ab_sV RX11 87 5 35 3 := ⟨ab_ok35, List.mem_of_getElem? (i := 354) (by decide +kernel), RX5, TX5, 0, rfl, Or.inr ⟨⟨"LevelLadders$Free", "centre", "(III)I"⟩, "LevelLadders$Free", cX1_centre, 4, (some .int), List.mem_of_getElem? (i := 346) (by decide +kernel), List.mem_of_getElem? (i := 349) (by decide +kernel), List.mem_of_getElem? (i := 347) (by decide +kernel), List.mem_of_getElem? (i := 353) (by decide +kernel), List.mem_of_getElem? (i := 364) (by decide +kernel), ⟨by decide +kernel, by decide +kernel⟩, by decide +kernel⟩⟩
set_option maxRecDepth 100000 in
theorem ab_vk_11_87_5 : ab_vk 11 87 5 = 35 := by decide +kernel
set_option maxRecDepth 100000 in
theorem ab_sv_11_87_9 : ab_sV RX11 87 9 59 3 := ⟨ab_ok59, List.mem_of_getElem? (i := 361) (by decide +kernel), RX9, TX9, 0, rfl, Or.inr ⟨⟨"LevelLadders$Free", "centre", "(III)I"⟩, "LevelLadders$Free", cX1_centre, 4, (some .int), List.mem_of_getElem? (i := 346) (by decide +kernel), List.mem_of_getElem? (i := 349) (by decide +kernel), List.mem_of_getElem? (i := 347) (by decide +kernel), List.mem_of_getElem? (i := 360) (by decide +kernel), List.mem_of_getElem? (i := 364) (by decide +kernel), ⟨by decide +kernel, by decide +kernel⟩, by decide +kernel⟩⟩
set_option maxRecDepth 100000 in
theorem ab_vk_11_87_9 : ab_vk 11 87 9 = 59 := by decide +kernel
set_option maxRecDepth 100000 in
theorem ab_ss_11_91 : ab_sS RX11 91 110 1 := ⟨ab_ok110, List.mem_of_getElem? (i := 366) (by decide +kernel), Or.inl (List.mem_of_getElem? (i := 365) (by decide +kernel))⟩
set_option maxRecDepth 100000 in
theorem ab_lk_11_91 : ab_lk 11 91 = 110 := by decide +kernel
set_option maxRecDepth 100000 in
theorem ab_ss_11_95 : ab_sS RX11 95 105 2 := ⟨ab_ok105, List.mem_of_getElem? (i := 376) (by decide +kernel), Or.inl (List.mem_of_getElem? (i := 375) (by decide +kernel))⟩
set_option maxRecDepth 100000 in
theorem ab_lk_11_95 : ab_lk 11 95 = 105 := by decide +kernel
set_option maxRecDepth 100000 in
theorem ab_lk_11_98 : ab_lk 11 98 = 991 := by decide +kernel
set_option maxRecDepth 100000 in
theorem ab_gs_11_98 : Cond.fieldLink RX11 98 (ab_stn 1).1 (ab_stn 1).2.1 (ab_stn 1).2.2 ∈ lw_tbl ∨ ∃ host, Cond.fieldLinkNest RX11 98 (ab_stn 1).1 (ab_stn 1).2.1 (ab_stn 1).2.2 host ∈ lw_tbl := Or.inl (List.mem_of_getElem? (i := 381) (by decide +kernel))
set_option maxRecDepth 100000 in
theorem ab_lk_11_101 : ab_lk 11 101 = 992 := by decide +kernel
set_option maxRecDepth 100000 in
theorem ab_gs_11_101 : Cond.fieldLink RX11 101 (ab_stn 2).1 (ab_stn 2).2.1 (ab_stn 2).2.2 ∈ lw_tbl ∨ ∃ host, Cond.fieldLinkNest RX11 101 (ab_stn 2).1 (ab_stn 2).2.1 (ab_stn 2).2.2 host ∈ lw_tbl := Or.inl (List.mem_of_getElem? (i := 383) (by decide +kernel))
set_option maxRecDepth 100000 in
theorem ab_ss_11_104 : ab_sS RX11 104 109 2 := ⟨ab_ok109, List.mem_of_getElem? (i := 386) (by decide +kernel), Or.inl (List.mem_of_getElem? (i := 385) (by decide +kernel))⟩
set_option maxRecDepth 100000 in
theorem ab_lk_11_104 : ab_lk 11 104 = 109 := by decide +kernel
set_option maxRecDepth 100000 in
theorem ab_ss_11_107 : ab_sS RX11 107 104 1 := ⟨ab_ok104, List.mem_of_getElem? (i := 379) (by decide +kernel), Or.inl (List.mem_of_getElem? (i := 378) (by decide +kernel))⟩
set_option maxRecDepth 100000 in
theorem ab_lk_11_107 : ab_lk 11 107 = 104 := by decide +kernel
set_option maxRecDepth 100000 in
theorem ab_ss_11_110 : ab_sS RX11 110 194 2 := ⟨ab_ok194, List.mem_of_getElem? (i := 397) (by decide +kernel), Or.inl (List.mem_of_getElem? (i := 396) (by decide +kernel))⟩
set_option maxRecDepth 100000 in
theorem ab_lk_11_110 : ab_lk 11 110 = 194 := by decide +kernel
set_option maxRecDepth 100000 in
theorem ab_sv_11_115 : ab_sV RX11 115 3 20 2 := ⟨ab_ok20, List.mem_of_getElem? (i := 400) (by decide +kernel), RX3, TX3, 7, rfl, Or.inl ⟨Or.inl (List.mem_of_getElem? (i := 399) (by decide +kernel)), List.mem_of_getElem? (i := 401) (by decide +kernel)⟩⟩
set_option maxRecDepth 100000 in
theorem ab_vk_11_115 : ∀ ci, ab_vk 11 115 ci = 20 := fun _ => rfl
set_option maxRecDepth 100000 in
theorem ab_sv_11_119 : ab_sV RX11 119 3 18 2 := ⟨ab_ok18, List.mem_of_getElem? (i := 427) (by decide +kernel), RX3, TX3, 7, rfl, Or.inl ⟨Or.inl (List.mem_of_getElem? (i := 440) (by decide +kernel)), List.mem_of_getElem? (i := 428) (by decide +kernel)⟩⟩
set_option maxRecDepth 100000 in
theorem ab_vk_11_119 : ∀ ci, ab_vk 11 119 ci = 18 := fun _ => rfl
set_option maxRecDepth 100000 in
theorem ab_sv_11_122 : ab_sV RX11 122 3 19 2 := ⟨ab_ok19, List.mem_of_getElem? (i := 437) (by decide +kernel), RX3, TX3, 7, rfl, Or.inl ⟨Or.inl (List.mem_of_getElem? (i := 445) (by decide +kernel)), List.mem_of_getElem? (i := 438) (by decide +kernel)⟩⟩
set_option maxRecDepth 100000 in
theorem ab_vk_11_122 : ∀ ci, ab_vk 11 122 ci = 19 := fun _ => rfl
set_option maxRecDepth 100000 in
theorem ab_sv_11_125 : ab_sV RX11 125 3 28 1 := ⟨ab_ok28, List.mem_of_getElem? (i := 451) (by decide +kernel), RX3, TX3, 7, rfl, Or.inl ⟨Or.inl (List.mem_of_getElem? (i := 450) (by decide +kernel)), List.mem_of_getElem? (i := 452) (by decide +kernel)⟩⟩
set_option maxRecDepth 100000 in
theorem ab_vk_11_125 : ∀ ci, ab_vk 11 125 ci = 28 := fun _ => rfl
set_option maxRecDepth 100000 in
theorem ab_fl_11_129 : ab_fl RX11 129 2 5 := ⟨RX2, TX2, 6, rfl, by decide, Or.inr ⟨"LevelLadders", List.mem_of_getElem? (i := 182) (by decide +kernel)⟩⟩
set_option maxRecDepth 100000 in
theorem ab_lk_11_129 : ab_lk 11 129 = 205 := by decide +kernel
set_option maxRecDepth 100000 in
theorem ab_fl_11_135 : ab_fl RX11 135 2 4 := ⟨RX2, TX2, 6, rfl, by decide, Or.inr ⟨"LevelLadders", List.mem_of_getElem? (i := 179) (by decide +kernel)⟩⟩
set_option maxRecDepth 100000 in
theorem ab_lk_11_135 : ab_lk 11 135 = 204 := by decide +kernel
set_option maxRecDepth 100000 in
theorem ab_sv_11_138 : ab_sV RX11 138 11 79 3 := ⟨ab_ok79, List.mem_of_getElem? (i := 495) (by decide +kernel), RX11, TX11, 11, rfl, Or.inl ⟨Or.inl (List.mem_of_getElem? (i := 494) (by decide +kernel)), List.mem_of_getElem? (i := 496) (by decide +kernel)⟩⟩
set_option maxRecDepth 100000 in
theorem ab_vk_11_138 : ∀ ci, ab_vk 11 138 ci = 79 := fun _ => rfl
set_option maxRecDepth 100000 in
theorem ab_sv_11_141 : ab_sV RX11 141 3 29 1 := ⟨ab_ok29, List.mem_of_getElem? (i := 525) (by decide +kernel), RX3, TX3, 7, rfl, Or.inl ⟨Or.inl (List.mem_of_getElem? (i := 524) (by decide +kernel)), List.mem_of_getElem? (i := 526) (by decide +kernel)⟩⟩
set_option maxRecDepth 100000 in
theorem ab_vk_11_141 : ∀ ci, ab_vk 11 141 ci = 29 := fun _ => rfl
set_option maxRecDepth 100000 in
theorem ab_fl_11_144 : ab_fl RX11 144 2 3 := ⟨RX2, TX2, 6, rfl, by decide, Or.inr ⟨"LevelLadders", List.mem_of_getElem? (i := 177) (by decide +kernel)⟩⟩
set_option maxRecDepth 100000 in
theorem ab_lk_11_144 : ab_lk 11 144 = 203 := by decide +kernel
set_option maxRecDepth 100000 in
theorem ab_sv_11_147 : ab_sV RX11 147 2 13 1 := ⟨ab_ok13, List.mem_of_getElem? (i := 529) (by decide +kernel), RX2, TX2, 6, rfl, Or.inl ⟨Or.inl (List.mem_of_getElem? (i := 528) (by decide +kernel)), List.mem_of_getElem? (i := 530) (by decide +kernel)⟩⟩
set_option maxRecDepth 100000 in
theorem ab_vk_11_147 : ∀ ci, ab_vk 11 147 ci = 13 := fun _ => rfl
set_option maxRecDepth 100000 in
theorem ab_fl_11_31 : ab_fl RX11 31 11 4 := ⟨RX11, TX11, 11, rfl, by decide, Or.inl (List.mem_of_getElem? (i := 277) (by decide +kernel))⟩
set_option maxRecDepth 100000 in
theorem ab_sv_11_150 : ab_sV RX11 150 6 37 3 := ⟨ab_ok37, List.mem_of_getElem? (i := 499) (by decide +kernel), RX6, TX6, 4, rfl, Or.inl ⟨Or.inl (List.mem_of_getElem? (i := 498) (by decide +kernel)), List.mem_of_getElem? (i := 500) (by decide +kernel)⟩⟩
set_option maxRecDepth 100000 in
theorem ab_vk_11_150 : ∀ ci, ab_vk 11 150 ci = 37 := fun _ => rfl
set_option maxRecDepth 100000 in
theorem ab_sv_11_154 : ab_sV RX11 154 6 39 2 := ⟨ab_ok39, List.mem_of_getElem? (i := 513) (by decide +kernel), RX6, TX6, 4, rfl, Or.inl ⟨Or.inl (List.mem_of_getElem? (i := 512) (by decide +kernel)), List.mem_of_getElem? (i := 514) (by decide +kernel)⟩⟩
set_option maxRecDepth 100000 in
theorem ab_vk_11_154 : ∀ ci, ab_vk 11 154 ci = 39 := fun _ => rfl
set_option maxRecDepth 100000 in
theorem ab_sv_11_157 : ab_sV RX11 157 6 40 3 := ⟨ab_ok40, List.mem_of_getElem? (i := 517) (by decide +kernel), RX6, TX6, 4, rfl, Or.inl ⟨Or.inl (List.mem_of_getElem? (i := 516) (by decide +kernel)), List.mem_of_getElem? (i := 518) (by decide +kernel)⟩⟩
set_option maxRecDepth 100000 in
theorem ab_vk_11_157 : ∀ ci, ab_vk 11 157 ci = 40 := fun _ => rfl
set_option maxRecDepth 100000 in
theorem ab_fl_11_40 : ab_fl RX11 40 11 5 := ⟨RX11, TX11, 11, rfl, by decide, Or.inl (List.mem_of_getElem? (i := 278) (by decide +kernel))⟩
set_option maxRecDepth 100000 in
theorem ab_sv_11_160 : ab_sV RX11 160 7 43 1 := ⟨ab_ok43, List.mem_of_getElem? (i := 546) (by decide +kernel), RX7, TX7, 6, rfl, Or.inl ⟨Or.inl (List.mem_of_getElem? (i := 545) (by decide +kernel)), List.mem_of_getElem? (i := 547) (by decide +kernel)⟩⟩
set_option maxRecDepth 100000 in
theorem ab_vk_11_160 : ∀ ci, ab_vk 11 160 ci = 43 := fun _ => rfl
set_option maxRecDepth 100000 in
theorem ab_fl_11_163 : ab_fl RX11 163 7 1 := ⟨RX7, TX7, 6, rfl, by decide, Or.inr ⟨"LevelLadders", List.mem_of_getElem? (i := 247) (by decide +kernel)⟩⟩
set_option maxRecDepth 100000 in
theorem ab_lk_11_163 : ab_lk 11 163 = 701 := by decide +kernel
set_option maxRecDepth 100000 in
theorem ab_ss_11_166 : ab_sS RX11 166 106 1 := ⟨ab_ok106, List.mem_of_getElem? (i := 554) (by decide +kernel), Or.inl (List.mem_of_getElem? (i := 553) (by decide +kernel))⟩
set_option maxRecDepth 100000 in
theorem ab_lk_11_166 : ab_lk 11 166 = 106 := by decide +kernel
set_option maxRecDepth 100000 in
theorem ab_sv_11_169 : ab_sV RX11 169 7 44 0 := ⟨ab_ok44, List.mem_of_getElem? (i := 557) (by decide +kernel), RX7, TX7, 6, rfl, Or.inl ⟨Or.inl (List.mem_of_getElem? (i := 556) (by decide +kernel)), List.mem_of_getElem? (i := 558) (by decide +kernel)⟩⟩
set_option maxRecDepth 100000 in
theorem ab_vk_11_169 : ∀ ci, ab_vk 11 169 ci = 44 := fun _ => rfl
set_option maxRecDepth 100000 in
theorem ab_sv_11_173 : ab_sV RX11 173 11 113 0 := ⟨ab_ok113, List.mem_of_getElem? (i := 571) (by decide +kernel), RX11, TX11, 11, rfl, Or.inl ⟨Or.inl (List.mem_of_getElem? (i := 569) (by decide +kernel)), List.mem_of_getElem? (i := 11) (by decide +kernel)⟩⟩
set_option maxRecDepth 100000 in
theorem ab_vk_11_173 : ∀ ci, ab_vk 11 173 ci = 113 := fun _ => rfl
set_option maxRecDepth 100000 in
theorem ab_fl_11_176 : ab_fl RX11 176 4 1 := ⟨RX4, TX4, 5, rfl, by decide, Or.inl (List.mem_of_getElem? (i := 107) (by decide +kernel))⟩
set_option maxRecDepth 100000 in
theorem ab_lk_11_176 : ab_lk 11 176 = 401 := by decide +kernel
set_option maxRecDepth 100000 in
theorem ab_fl_11_54 : ab_fl RX11 54 11 8 := ⟨RX11, TX11, 11, rfl, by decide, Or.inl (List.mem_of_getElem? (i := 281) (by decide +kernel))⟩
set_option maxRecDepth 100000 in
theorem ab_sv_11_180 : ab_sV RX11 180 10 61 1 := ⟨ab_ok61, List.mem_of_getElem? (i := 612) (by decide +kernel), RX10, TX10, 2, rfl, Or.inl ⟨Or.inl (List.mem_of_getElem? (i := 611) (by decide +kernel)), List.mem_of_getElem? (i := 613) (by decide +kernel)⟩⟩
set_option maxRecDepth 100000 in
theorem ab_vk_11_180 : ∀ ci, ab_vk 11 180 ci = 61 := fun _ => rfl
set_option maxRecDepth 100000 in
theorem ab_sv_11_184 : ab_sV RX11 184 7 42 0 := ⟨ab_ok42, List.mem_of_getElem? (i := 617) (by decide +kernel), RX7, TX7, 6, rfl, Or.inl ⟨Or.inl (List.mem_of_getElem? (i := 616) (by decide +kernel)), List.mem_of_getElem? (i := 618) (by decide +kernel)⟩⟩
set_option maxRecDepth 100000 in
theorem ab_vk_11_184 : ∀ ci, ab_vk 11 184 ci = 42 := fun _ => rfl
set_option maxRecDepth 100000 in
theorem ab_sv_11_187 : ab_sV RX11 187 10 63 2 := ⟨ab_ok63, List.mem_of_getElem? (i := 598) (by decide +kernel), RX10, TX10, 2, rfl, Or.inl ⟨Or.inl (List.mem_of_getElem? (i := 597) (by decide +kernel)), List.mem_of_getElem? (i := 599) (by decide +kernel)⟩⟩
set_option maxRecDepth 100000 in
theorem ab_vk_11_187 : ∀ ci, ab_vk 11 187 ci = 63 := fun _ => rfl
set_option maxRecDepth 100000 in
theorem ab_fl_11_191 : ab_fl RX11 191 10 0 := ⟨RX10, TX10, 2, rfl, by decide, Or.inl (List.mem_of_getElem? (i := 93) (by decide +kernel))⟩
set_option maxRecDepth 100000 in
theorem ab_lk_11_191 : ab_lk 11 191 = 1000 := by decide +kernel
set_option maxRecDepth 100000 in
theorem ab_sv_11_194 : ab_sV RX11 194 11 107 2 := ⟨ab_ok107, List.mem_of_getElem? (i := 634) (by decide +kernel), RX11, TX11, 11, rfl, Or.inl ⟨Or.inl (List.mem_of_getElem? (i := 632) (by decide +kernel)), List.mem_of_getElem? (i := 14) (by decide +kernel)⟩⟩
set_option maxRecDepth 100000 in
theorem ab_vk_11_194 : ∀ ci, ab_vk 11 194 ci = 107 := fun _ => rfl
set_option maxRecDepth 100000 in
theorem ab_fl_11_197 : ab_fl RX11 197 10 1 := ⟨RX10, TX10, 2, rfl, by decide, Or.inl (List.mem_of_getElem? (i := 97) (by decide +kernel))⟩
set_option maxRecDepth 100000 in
theorem ab_lk_11_197 : ab_lk 11 197 = 1001 := by decide +kernel
set_option maxRecDepth 100000 in
theorem ab_sv_11_200 : ab_sV RX11 200 3 26 2 := ⟨ab_ok26, List.mem_of_getElem? (i := 603) (by decide +kernel), RX3, TX3, 7, rfl, Or.inl ⟨Or.inl (List.mem_of_getElem? (i := 602) (by decide +kernel)), List.mem_of_getElem? (i := 604) (by decide +kernel)⟩⟩
set_option maxRecDepth 100000 in
theorem ab_vk_11_200 : ∀ ci, ab_vk 11 200 ci = 26 := fun _ => rfl
set_option maxRecDepth 100000 in
theorem ab_sv_11_204 : ab_sV RX11 204 10 64 2 := ⟨ab_ok64, List.mem_of_getElem? (i := 608) (by decide +kernel), RX10, TX10, 2, rfl, Or.inl ⟨Or.inl (List.mem_of_getElem? (i := 607) (by decide +kernel)), List.mem_of_getElem? (i := 609) (by decide +kernel)⟩⟩
set_option maxRecDepth 100000 in
theorem ab_vk_11_204 : ∀ ci, ab_vk 11 204 ci = 64 := fun _ => rfl
set_option maxRecDepth 100000 in
theorem ab_sv_11_207 : ab_sV RX11 207 3 27 2 := ⟨ab_ok27, List.mem_of_getElem? (i := 653) (by decide +kernel), RX3, TX3, 7, rfl, Or.inl ⟨Or.inl (List.mem_of_getElem? (i := 652) (by decide +kernel)), List.mem_of_getElem? (i := 654) (by decide +kernel)⟩⟩
set_option maxRecDepth 100000 in
theorem ab_vk_11_207 : ∀ ci, ab_vk 11 207 ci = 27 := fun _ => rfl
set_option maxRecDepth 100000 in
theorem ab_fl_11_50 : ab_fl RX11 50 11 7 := ⟨RX11, TX11, 11, rfl, by decide, Or.inl (List.mem_of_getElem? (i := 280) (by decide +kernel))⟩
set_option maxRecDepth 100000 in
theorem ab_sv_11_211 : ab_sV RX11 211 10 67 0 := ⟨ab_ok67, List.mem_of_getElem? (i := 661) (by decide +kernel), RX10, TX10, 2, rfl, Or.inl ⟨Or.inl (List.mem_of_getElem? (i := 660) (by decide +kernel)), List.mem_of_getElem? (i := 662) (by decide +kernel)⟩⟩
set_option maxRecDepth 100000 in
theorem ab_vk_11_211 : ∀ ci, ab_vk 11 211 ci = 67 := fun _ => rfl
set_option maxRecDepth 100000 in
theorem ab_cn_11_215 : Cond.constantLong RX11 215 (-9223372036854775808) ∈ lw_tbl := List.mem_of_getElem? (i := 672) (by decide +kernel)
set_option maxRecDepth 100000 in
theorem ab_lk_11_215 : ab_lk 11 215 = 0 := by decide +kernel
set_option maxRecDepth 100000 in
theorem ab_sv_11_217 : ab_sV RX11 217 11 115 2 := ⟨ab_ok115, List.mem_of_getElem? (i := 675) (by decide +kernel), RX11, TX11, 11, rfl, Or.inl ⟨Or.inl (List.mem_of_getElem? (i := 673) (by decide +kernel)), List.mem_of_getElem? (i := 15) (by decide +kernel)⟩⟩
set_option maxRecDepth 100000 in
theorem ab_vk_11_217 : ∀ ci, ab_vk 11 217 ci = 115 := fun _ => rfl
set_option maxRecDepth 100000 in
theorem ab_ss_11_220 : ab_sS RX11 220 112 2 := ⟨ab_ok112, List.mem_of_getElem? (i := 679) (by decide +kernel), Or.inl (List.mem_of_getElem? (i := 678) (by decide +kernel))⟩
set_option maxRecDepth 100000 in
theorem ab_lk_11_220 : ab_lk 11 220 = 112 := by decide +kernel
set_option maxRecDepth 100000 in
theorem ab_fp_11_223 : ∀ mn, ab_fp RX11 mn 223 4 4 := fun _ => ⟨RX4, TX4, 5, rfl, by decide, Or.inl ⟨rfl, Or.inl (List.mem_of_getElem? (i := 113) (by decide +kernel))⟩⟩
set_option maxRecDepth 100000 in
theorem ab_lk_11_223 : ab_lk 11 223 = 404 := by decide +kernel
set_option maxRecDepth 100000 in
theorem ab_ss_11_226 : ab_sS RX11 226 108 2 := ⟨ab_ok108, List.mem_of_getElem? (i := 686) (by decide +kernel), Or.inl (List.mem_of_getElem? (i := 685) (by decide +kernel))⟩
set_option maxRecDepth 100000 in
theorem ab_lk_11_226 : ab_lk 11 226 = 108 := by decide +kernel
set_option maxRecDepth 100000 in
theorem ab_fl_11_223 : ab_fl RX11 223 4 4 := ⟨RX4, TX4, 5, rfl, by decide, Or.inl (List.mem_of_getElem? (i := 113) (by decide +kernel))⟩
set_option maxRecDepth 100000 in
theorem ab_fl_11_229 : ab_fl RX11 229 4 2 := ⟨RX4, TX4, 5, rfl, by decide, Or.inl (List.mem_of_getElem? (i := 109) (by decide +kernel))⟩
set_option maxRecDepth 100000 in
theorem ab_lk_11_229 : ab_lk 11 229 = 402 := by decide +kernel
set_option maxRecDepth 100000 in
theorem ab_fl_11_232 : ab_fl RX11 232 4 3 := ⟨RX4, TX4, 5, rfl, by decide, Or.inl (List.mem_of_getElem? (i := 111) (by decide +kernel))⟩
set_option maxRecDepth 100000 in
theorem ab_lk_11_232 : ab_lk 11 232 = 403 := by decide +kernel
set_option maxRecDepth 100000 in
theorem ab_sv_11_235 : ab_sV RX11 235 11 116 2 := ⟨ab_ok116, List.mem_of_getElem? (i := 694) (by decide +kernel), RX11, TX11, 11, rfl, Or.inl ⟨Or.inl (List.mem_of_getElem? (i := 692) (by decide +kernel)), List.mem_of_getElem? (i := 16) (by decide +kernel)⟩⟩
set_option maxRecDepth 100000 in
theorem ab_vk_11_235 : ∀ ci, ab_vk 11 235 ci = 116 := fun _ => rfl
set_option maxRecDepth 100000 in
theorem ab_fl_11_44 : ab_fl RX11 44 11 6 := ⟨RX11, TX11, 11, rfl, by decide, Or.inl (List.mem_of_getElem? (i := 279) (by decide +kernel))⟩
set_option maxRecDepth 100000 in
theorem ab_sv_11_238 : ab_sV RX11 238 7 52 1 := ⟨ab_ok52, List.mem_of_getElem? (i := 705) (by decide +kernel), RX7, TX7, 6, rfl, Or.inl ⟨Or.inl (List.mem_of_getElem? (i := 704) (by decide +kernel)), List.mem_of_getElem? (i := 706) (by decide +kernel)⟩⟩
set_option maxRecDepth 100000 in
theorem ab_vk_11_238 : ∀ ci, ab_vk 11 238 ci = 52 := fun _ => rfl
set_option maxRecDepth 100000 in
theorem ab_fl_11_241 : ab_fl RX11 241 7 0 := ⟨RX7, TX7, 6, rfl, by decide, Or.inr ⟨"LevelLadders", List.mem_of_getElem? (i := 245) (by decide +kernel)⟩⟩
set_option maxRecDepth 100000 in
theorem ab_lk_11_241 : ab_lk 11 241 = 700 := by decide +kernel
set_option maxRecDepth 100000 in
theorem ab_fl_11_62 : ab_fl RX11 62 11 10 := ⟨RX11, TX11, 11, rfl, by decide, Or.inl (List.mem_of_getElem? (i := 283) (by decide +kernel))⟩
set_option maxRecDepth 100000 in
theorem ab_fl_11_59 : ab_fl RX11 59 11 9 := ⟨RX11, TX11, 11, rfl, by decide, Or.inl (List.mem_of_getElem? (i := 282) (by decide +kernel))⟩
set_option maxRecDepth 100000 in
theorem ab_fl_11_18 : ab_fl RX11 18 11 1 := ⟨RX11, TX11, 11, rfl, by decide, Or.inl (List.mem_of_getElem? (i := 274) (by decide +kernel))⟩
set_option maxRecDepth 100000 in
theorem ab_sv_11_245 : ab_sV RX11 245 4 31 1 := ⟨ab_ok31, List.mem_of_getElem? (i := 745) (by decide +kernel), RX4, TX4, 5, rfl, Or.inl ⟨Or.inl (List.mem_of_getElem? (i := 744) (by decide +kernel)), List.mem_of_getElem? (i := 746) (by decide +kernel)⟩⟩
set_option maxRecDepth 100000 in
theorem ab_vk_11_245 : ∀ ci, ab_vk 11 245 ci = 31 := fun _ => rfl
set_option maxRecDepth 100000 in
theorem ab_fp_11_248 : ∀ mn, ab_fp RX11 mn 248 11 2 := fun _ => ⟨RX11, TX11, 11, rfl, by decide, Or.inl ⟨rfl, Or.inl (List.mem_of_getElem? (i := 275) (by decide +kernel))⟩⟩
set_option maxRecDepth 100000 in
theorem ab_lk_11_248 : ab_lk 11 248 = 1102 := by decide +kernel
set_option maxRecDepth 100000 in
theorem ab_fl_11_248 : ab_fl RX11 248 11 2 := ⟨RX11, TX11, 11, rfl, by decide, Or.inl (List.mem_of_getElem? (i := 275) (by decide +kernel))⟩
set_option maxRecDepth 100000 in
theorem ab_sv_11_252 : ab_sV RX11 252 4 32 0 := ⟨ab_ok32, List.mem_of_getElem? (i := 759) (by decide +kernel), RX4, TX4, 5, rfl, Or.inl ⟨Or.inl (List.mem_of_getElem? (i := 758) (by decide +kernel)), List.mem_of_getElem? (i := 760) (by decide +kernel)⟩⟩
set_option maxRecDepth 100000 in
theorem ab_vk_11_252 : ∀ ci, ab_vk 11 252 ci = 32 := fun _ => rfl
set_option maxRecDepth 100000 in
theorem ab_lk_11_255 : ab_lk 11 255 = 993 := by decide +kernel
set_option maxRecDepth 100000 in
theorem ab_gs_11_255 : Cond.fieldLink RX11 255 (ab_stn 3).1 (ab_stn 3).2.1 (ab_stn 3).2.2 ∈ lw_tbl ∨ ∃ host, Cond.fieldLinkNest RX11 255 (ab_stn 3).1 (ab_stn 3).2.1 (ab_stn 3).2.2 host ∈ lw_tbl := Or.inl (List.mem_of_getElem? (i := 388) (by decide +kernel))
set_option maxRecDepth 100000 in
theorem ab_lk_11_258 : ab_lk 11 258 = 994 := by decide +kernel
set_option maxRecDepth 100000 in
theorem ab_gs_11_258 : Cond.fieldLink RX11 258 (ab_stn 4).1 (ab_stn 4).2.1 (ab_stn 4).2.2 ∈ lw_tbl ∨ ∃ host, Cond.fieldLinkNest RX11 258 (ab_stn 4).1 (ab_stn 4).2.1 (ab_stn 4).2.2 host ∈ lw_tbl := Or.inl (List.mem_of_getElem? (i := 390) (by decide +kernel))
set_option maxRecDepth 100000 in
theorem ab_ss_11_261 : ab_sS RX11 261 193 2 := ⟨ab_ok193, List.mem_of_getElem? (i := 369) (by decide +kernel), Or.inl (List.mem_of_getElem? (i := 368) (by decide +kernel))⟩
set_option maxRecDepth 100000 in
theorem ab_lk_11_261 : ab_lk 11 261 = 193 := by decide +kernel
set_option maxRecDepth 100000 in
theorem ab_sv_11_264 : ab_sV RX11 264 7 48 0 := ⟨ab_ok48, List.mem_of_getElem? (i := 574) (by decide +kernel), RX7, TX7, 6, rfl, Or.inl ⟨Or.inl (List.mem_of_getElem? (i := 573) (by decide +kernel)), List.mem_of_getElem? (i := 575) (by decide +kernel)⟩⟩
set_option maxRecDepth 100000 in
theorem ab_vk_11_264 : ∀ ci, ab_vk 11 264 ci = 48 := fun _ => rfl
set_option maxRecDepth 100000 in
theorem ab_sv_11_267 : ab_sV RX11 267 7 49 0 := ⟨ab_ok49, List.mem_of_getElem? (i := 578) (by decide +kernel), RX7, TX7, 6, rfl, Or.inl ⟨Or.inl (List.mem_of_getElem? (i := 577) (by decide +kernel)), List.mem_of_getElem? (i := 579) (by decide +kernel)⟩⟩
set_option maxRecDepth 100000 in
theorem ab_vk_11_267 : ∀ ci, ab_vk 11 267 ci = 49 := fun _ => rfl
set_option maxRecDepth 100000 in
theorem ab_sv_11_270 : ab_sV RX11 270 7 51 0 := ⟨ab_ok51, List.mem_of_getElem? (i := 586) (by decide +kernel), RX7, TX7, 6, rfl, Or.inl ⟨Or.inl (List.mem_of_getElem? (i := 585) (by decide +kernel)), List.mem_of_getElem? (i := 587) (by decide +kernel)⟩⟩
set_option maxRecDepth 100000 in
theorem ab_vk_11_270 : ∀ ci, ab_vk 11 270 ci = 51 := fun _ => rfl
set_option maxRecDepth 100000 in
theorem ab_sv_11_273 : ab_sV RX11 273 10 62 1 := ⟨ab_ok62, List.mem_of_getElem? (i := 590) (by decide +kernel), RX10, TX10, 2, rfl, Or.inl ⟨Or.inl (List.mem_of_getElem? (i := 589) (by decide +kernel)), List.mem_of_getElem? (i := 591) (by decide +kernel)⟩⟩
set_option maxRecDepth 100000 in
theorem ab_vk_11_273 : ∀ ci, ab_vk 11 273 ci = 62 := fun _ => rfl
set_option maxRecDepth 100000 in
theorem ab_sv_11_276 : ab_sV RX11 276 11 114 0 := ⟨ab_ok114, List.mem_of_getElem? (i := 595) (by decide +kernel), RX11, TX11, 11, rfl, Or.inl ⟨Or.inl (List.mem_of_getElem? (i := 593) (by decide +kernel)), List.mem_of_getElem? (i := 13) (by decide +kernel)⟩⟩
set_option maxRecDepth 100000 in
theorem ab_vk_11_276 : ∀ ci, ab_vk 11 276 ci = 114 := fun _ => rfl
set_option maxRecDepth 100000 in
theorem ab_fl_11_279 : ab_fl RX11 279 7 5 := ⟨RX7, TX7, 6, rfl, by decide, Or.inr ⟨"LevelLadders", List.mem_of_getElem? (i := 254) (by decide +kernel)⟩⟩
set_option maxRecDepth 100000 in
theorem ab_lk_11_279 : ab_lk 11 279 = 705 := by decide +kernel
set_option maxRecDepth 100000 in
theorem ab_fl_11_282 : ab_fl RX11 282 7 4 := ⟨RX7, TX7, 6, rfl, by decide, Or.inr ⟨"LevelLadders", List.mem_of_getElem? (i := 252) (by decide +kernel)⟩⟩
set_option maxRecDepth 100000 in
theorem ab_lk_11_282 : ab_lk 11 282 = 704 := by decide +kernel
set_option maxRecDepth 100000 in
theorem ab_fl_11_285 : ab_fl RX11 285 7 3 := ⟨RX7, TX7, 6, rfl, by decide, Or.inr ⟨"LevelLadders", List.mem_of_getElem? (i := 250) (by decide +kernel)⟩⟩
set_option maxRecDepth 100000 in
theorem ab_lk_11_285 : ab_lk 11 285 = 703 := by decide +kernel
set_option maxRecDepth 100000 in
theorem ab_cn_11_288 : Cond.constant RX11 288 (Int32.ofInt 1103515245) ∈ lw_tbl := List.mem_of_getElem? (i := 677) (by decide +kernel)
set_option maxRecDepth 100000 in
theorem ab_lk_11_288 : ab_lk 11 288 = 1103515245 := by decide +kernel
set_option maxRecDepth 100000 in
theorem ab_sv_11_289 : ab_sV RX11 289 10 65 1 := ⟨ab_ok65, List.mem_of_getElem? (i := 697) (by decide +kernel), RX10, TX10, 2, rfl, Or.inl ⟨Or.inl (List.mem_of_getElem? (i := 696) (by decide +kernel)), List.mem_of_getElem? (i := 698) (by decide +kernel)⟩⟩
set_option maxRecDepth 100000 in
theorem ab_vk_11_289 : ∀ ci, ab_vk 11 289 ci = 65 := fun _ => rfl
set_option maxRecDepth 100000 in
theorem ab_mo_12_3 : Cond.methodLink RX12 3 objectInit ∈ lw_tbl := List.mem_of_getElem? (i := 768) (by decide +kernel)
set_option maxRecDepth 100000 in
theorem ab_lk_12_3 : ab_lk 12 3 = 998 := by decide +kernel
set_option maxRecDepth 100000 in
theorem ab_fp_12_9 : ab_fp RX12 "<init>" 9 12 0 := ⟨RX12, TX12, 34, rfl, by decide, Or.inr ⟨rfl, rfl, rfl, List.mem_of_getElem? (i := 776) (by decide +kernel)⟩⟩
set_option maxRecDepth 100000 in
theorem ab_lk_12_9 : ab_lk 12 9 = 1200 := by decide +kernel
set_option maxRecDepth 100000 in
theorem ab_fp_12_15 : ab_fp RX12 "<init>" 15 12 1 := ⟨RX12, TX12, 34, rfl, by decide, Or.inr ⟨rfl, rfl, rfl, List.mem_of_getElem? (i := 777) (by decide +kernel)⟩⟩
set_option maxRecDepth 100000 in
theorem ab_lk_12_15 : ab_lk 12 15 = 1201 := by decide +kernel
set_option maxRecDepth 100000 in
theorem ab_fp_12_18 : ab_fp RX12 "<init>" 18 12 2 := ⟨RX12, TX12, 34, rfl, by decide, Or.inr ⟨rfl, rfl, rfl, List.mem_of_getElem? (i := 778) (by decide +kernel)⟩⟩
set_option maxRecDepth 100000 in
theorem ab_lk_12_18 : ab_lk 12 18 = 1202 := by decide +kernel
set_option maxRecDepth 100000 in
theorem ab_fp_12_21 : ab_fp RX12 "<init>" 21 12 3 := ⟨RX12, TX12, 34, rfl, by decide, Or.inr ⟨rfl, rfl, rfl, List.mem_of_getElem? (i := 779) (by decide +kernel)⟩⟩
set_option maxRecDepth 100000 in
theorem ab_lk_12_21 : ab_lk 12 21 = 1203 := by decide +kernel
set_option maxRecDepth 100000 in
theorem ab_fp_12_24 : ab_fp RX12 "<init>" 24 12 4 := ⟨RX12, TX12, 34, rfl, by decide, Or.inr ⟨rfl, rfl, rfl, List.mem_of_getElem? (i := 780) (by decide +kernel)⟩⟩
set_option maxRecDepth 100000 in
theorem ab_lk_12_24 : ab_lk 12 24 = 1204 := by decide +kernel
set_option maxRecDepth 100000 in
theorem ab_fp_12_27 : ab_fp RX12 "<init>" 27 12 5 := ⟨RX12, TX12, 34, rfl, by decide, Or.inr ⟨rfl, rfl, rfl, List.mem_of_getElem? (i := 781) (by decide +kernel)⟩⟩
set_option maxRecDepth 100000 in
theorem ab_lk_12_27 : ab_lk 12 27 = 1205 := by decide +kernel
set_option maxRecDepth 100000 in
theorem ab_fp_12_30 : ab_fp RX12 "<init>" 30 12 6 := ⟨RX12, TX12, 34, rfl, by decide, Or.inr ⟨rfl, rfl, rfl, List.mem_of_getElem? (i := 782) (by decide +kernel)⟩⟩
set_option maxRecDepth 100000 in
theorem ab_lk_12_30 : ab_lk 12 30 = 1206 := by decide +kernel
set_option maxRecDepth 100000 in
theorem ab_fp_12_33 : ab_fp RX12 "<init>" 33 12 7 := ⟨RX12, TX12, 34, rfl, by decide, Or.inr ⟨rfl, rfl, rfl, List.mem_of_getElem? (i := 783) (by decide +kernel)⟩⟩
set_option maxRecDepth 100000 in
theorem ab_lk_12_33 : ab_lk 12 33 = 1207 := by decide +kernel
set_option maxRecDepth 100000 in
theorem ab_fp_12_36 : ab_fp RX12 "<init>" 36 12 9 := ⟨RX12, TX12, 34, rfl, by decide, Or.inr ⟨rfl, rfl, rfl, List.mem_of_getElem? (i := 785) (by decide +kernel)⟩⟩
set_option maxRecDepth 100000 in
theorem ab_lk_12_36 : ab_lk 12 36 = 1209 := by decide +kernel
set_option maxRecDepth 100000 in
theorem ab_fp_12_39 : ab_fp RX12 "<init>" 39 12 12 := ⟨RX12, TX12, 34, rfl, by decide, Or.inr ⟨rfl, rfl, rfl, List.mem_of_getElem? (i := 788) (by decide +kernel)⟩⟩
set_option maxRecDepth 100000 in
theorem ab_lk_12_39 : ab_lk 12 39 = 1212 := by decide +kernel
set_option maxRecDepth 100000 in
theorem ab_fp_12_42 : ab_fp RX12 "<init>" 42 12 13 := ⟨RX12, TX12, 34, rfl, by decide, Or.inr ⟨rfl, rfl, rfl, List.mem_of_getElem? (i := 789) (by decide +kernel)⟩⟩
set_option maxRecDepth 100000 in
theorem ab_lk_12_42 : ab_lk 12 42 = 1213 := by decide +kernel
set_option maxRecDepth 100000 in
theorem ab_fp_12_45 : ab_fp RX12 "<init>" 45 12 14 := ⟨RX12, TX12, 34, rfl, by decide, Or.inr ⟨rfl, rfl, rfl, List.mem_of_getElem? (i := 790) (by decide +kernel)⟩⟩
set_option maxRecDepth 100000 in
theorem ab_lk_12_45 : ab_lk 12 45 = 1214 := by decide +kernel
set_option maxRecDepth 100000 in
theorem ab_fp_12_48 : ab_fp RX12 "<init>" 48 12 15 := ⟨RX12, TX12, 34, rfl, by decide, Or.inr ⟨rfl, rfl, rfl, List.mem_of_getElem? (i := 791) (by decide +kernel)⟩⟩
set_option maxRecDepth 100000 in
theorem ab_lk_12_48 : ab_lk 12 48 = 1215 := by decide +kernel
set_option maxRecDepth 100000 in
theorem ab_fp_12_52 : ab_fp RX12 "<init>" 52 12 16 := ⟨RX12, TX12, 34, rfl, by decide, Or.inr ⟨rfl, rfl, rfl, List.mem_of_getElem? (i := 792) (by decide +kernel)⟩⟩
set_option maxRecDepth 100000 in
theorem ab_lk_12_52 : ab_lk 12 52 = 1216 := by decide +kernel
set_option maxRecDepth 100000 in
theorem ab_fp_12_55 : ab_fp RX12 "<init>" 55 12 18 := ⟨RX12, TX12, 34, rfl, by decide, Or.inr ⟨rfl, rfl, rfl, List.mem_of_getElem? (i := 794) (by decide +kernel)⟩⟩
set_option maxRecDepth 100000 in
theorem ab_lk_12_55 : ab_lk 12 55 = 1218 := by decide +kernel
set_option maxRecDepth 100000 in
theorem ab_fp_12_58 : ab_fp RX12 "<init>" 58 12 19 := ⟨RX12, TX12, 34, rfl, by decide, Or.inr ⟨rfl, rfl, rfl, List.mem_of_getElem? (i := 795) (by decide +kernel)⟩⟩
set_option maxRecDepth 100000 in
theorem ab_lk_12_58 : ab_lk 12 58 = 1219 := by decide +kernel
set_option maxRecDepth 100000 in
theorem ab_fp_12_61 : ab_fp RX12 "<init>" 61 12 20 := ⟨RX12, TX12, 34, rfl, by decide, Or.inr ⟨rfl, rfl, rfl, List.mem_of_getElem? (i := 796) (by decide +kernel)⟩⟩
set_option maxRecDepth 100000 in
theorem ab_lk_12_61 : ab_lk 12 61 = 1220 := by decide +kernel
set_option maxRecDepth 100000 in
theorem ab_fp_12_64 : ab_fp RX12 "<init>" 64 12 23 := ⟨RX12, TX12, 34, rfl, by decide, Or.inr ⟨rfl, rfl, rfl, List.mem_of_getElem? (i := 799) (by decide +kernel)⟩⟩
set_option maxRecDepth 100000 in
theorem ab_lk_12_64 : ab_lk 12 64 = 1223 := by decide +kernel
set_option maxRecDepth 100000 in
theorem ab_fp_12_67 : ab_fp RX12 "<init>" 67 12 27 := ⟨RX12, TX12, 34, rfl, by decide, Or.inr ⟨rfl, rfl, rfl, List.mem_of_getElem? (i := 803) (by decide +kernel)⟩⟩
set_option maxRecDepth 100000 in
theorem ab_lk_12_67 : ab_lk 12 67 = 1227 := by decide +kernel
set_option maxRecDepth 100000 in
theorem ab_fp_12_70 : ab_fp RX12 "<init>" 70 12 28 := ⟨RX12, TX12, 34, rfl, by decide, Or.inr ⟨rfl, rfl, rfl, List.mem_of_getElem? (i := 804) (by decide +kernel)⟩⟩
set_option maxRecDepth 100000 in
theorem ab_lk_12_70 : ab_lk 12 70 = 1228 := by decide +kernel
set_option maxRecDepth 100000 in
theorem ab_fp_12_73 : ab_fp RX12 "<init>" 73 12 30 := ⟨RX12, TX12, 34, rfl, by decide, Or.inr ⟨rfl, rfl, rfl, List.mem_of_getElem? (i := 806) (by decide +kernel)⟩⟩
set_option maxRecDepth 100000 in
theorem ab_lk_12_73 : ab_lk 12 73 = 1230 := by decide +kernel
set_option maxRecDepth 100000 in
theorem ab_fp_12_76 : ab_fp RX12 "<init>" 76 12 31 := ⟨RX12, TX12, 34, rfl, by decide, Or.inr ⟨rfl, rfl, rfl, List.mem_of_getElem? (i := 807) (by decide +kernel)⟩⟩
set_option maxRecDepth 100000 in
theorem ab_lk_12_76 : ab_lk 12 76 = 1231 := by decide +kernel
set_option maxRecDepth 100000 in
theorem ab_fp_12_79 : ab_fp RX12 "<init>" 79 12 33 := ⟨RX12, TX12, 34, rfl, by decide, Or.inr ⟨rfl, rfl, rfl, List.mem_of_getElem? (i := 809) (by decide +kernel)⟩⟩
set_option maxRecDepth 100000 in
theorem ab_lk_12_79 : ab_lk 12 79 = 1233 := by decide +kernel
set_option maxRecDepth 100000 in
theorem ab_fl_12_15 : ab_fl RX12 15 12 1 := ⟨RX12, TX12, 34, rfl, by decide, Or.inl (List.mem_of_getElem? (i := 777) (by decide +kernel))⟩
set_option maxRecDepth 100000 in
theorem ab_fl_12_18 : ab_fl RX12 18 12 2 := ⟨RX12, TX12, 34, rfl, by decide, Or.inl (List.mem_of_getElem? (i := 778) (by decide +kernel))⟩
set_option maxRecDepth 100000 in
theorem ab_fl_12_21 : ab_fl RX12 21 12 3 := ⟨RX12, TX12, 34, rfl, by decide, Or.inl (List.mem_of_getElem? (i := 779) (by decide +kernel))⟩
set_option maxRecDepth 100000 in
theorem ab_fl_12_24 : ab_fl RX12 24 12 4 := ⟨RX12, TX12, 34, rfl, by decide, Or.inl (List.mem_of_getElem? (i := 780) (by decide +kernel))⟩
set_option maxRecDepth 100000 in
theorem ab_sv_12_82 : ab_sV RX12 82 12 118 1 := ⟨ab_ok118, List.mem_of_getElem? (i := 771) (by decide +kernel), RX12, TX12, 34, rfl, Or.inl ⟨Or.inl (List.mem_of_getElem? (i := 769) (by decide +kernel)), List.mem_of_getElem? (i := 19) (by decide +kernel)⟩⟩
set_option maxRecDepth 100000 in
theorem ab_vk_12_82 : ∀ ci, ab_vk 12 82 ci = 118 := fun _ => rfl
set_option maxRecDepth 100000 in
theorem ab_ss_12_86 : ab_sS RX12 86 195 2 := ⟨ab_ok195, List.mem_of_getElem? (i := 774) (by decide +kernel), Or.inl (List.mem_of_getElem? (i := 773) (by decide +kernel))⟩
set_option maxRecDepth 100000 in
theorem ab_lk_12_86 : ab_lk 12 86 = 195 := by decide +kernel
set_option maxRecDepth 100000 in
theorem ab_ss_12_92 : ab_sS RX12 92 119 3 := ⟨ab_ok119, List.mem_of_getElem? (i := 884) (by decide +kernel), Or.inl (List.mem_of_getElem? (i := 883) (by decide +kernel))⟩
set_option maxRecDepth 100000 in
theorem ab_lk_12_92 : ab_lk 12 92 = 119 := by decide +kernel
set_option maxRecDepth 100000 in
theorem ab_ss_12_96 : ab_sS RX12 96 122 1 := ⟨ab_ok122, List.mem_of_getElem? (i := 917) (by decide +kernel), Or.inl (List.mem_of_getElem? (i := 916) (by decide +kernel))⟩
set_option maxRecDepth 100000 in
theorem ab_lk_12_96 : ab_lk 12 96 = 122 := by decide +kernel
set_option maxRecDepth 100000 in
theorem ab_sv_12_100 : ab_sV RX12 100 12 124 1 := ⟨ab_ok124, List.mem_of_getElem? (i := 921) (by decide +kernel), RX12, TX12, 34, rfl, Or.inl ⟨Or.inl (List.mem_of_getElem? (i := 919) (by decide +kernel)), List.mem_of_getElem? (i := 23) (by decide +kernel)⟩⟩
set_option maxRecDepth 100000 in
theorem ab_vk_12_100 : ∀ ci, ab_vk 12 100 ci = 124 := fun _ => rfl
set_option maxRecDepth 100000 in
theorem ab_fl_12_9 : ab_fl RX12 9 12 0 := ⟨RX12, TX12, 34, rfl, by decide, Or.inl (List.mem_of_getElem? (i := 776) (by decide +kernel))⟩
set_option maxRecDepth 100000 in
theorem ab_ss_12_104 : ab_sS RX12 104 120 1 := ⟨ab_ok120, List.mem_of_getElem? (i := 902) (by decide +kernel), Or.inl (List.mem_of_getElem? (i := 901) (by decide +kernel))⟩
set_option maxRecDepth 100000 in
theorem ab_lk_12_104 : ab_lk 12 104 = 120 := by decide +kernel
set_option maxRecDepth 100000 in
theorem ab_ss_12_107 : ab_sS RX12 107 123 1 := ⟨ab_ok123, List.mem_of_getElem? (i := 895) (by decide +kernel), Or.inl (List.mem_of_getElem? (i := 894) (by decide +kernel))⟩
set_option maxRecDepth 100000 in
theorem ab_lk_12_107 : ab_lk 12 107 = 123 := by decide +kernel
set_option maxRecDepth 100000 in
theorem ab_sv_12_110 : ab_sV RX12 110 12 129 2 := ⟨ab_ok129, List.mem_of_getElem? (i := 899) (by decide +kernel), RX12, TX12, 34, rfl, Or.inl ⟨Or.inl (List.mem_of_getElem? (i := 897) (by decide +kernel)), List.mem_of_getElem? (i := 20) (by decide +kernel)⟩⟩
set_option maxRecDepth 100000 in
theorem ab_vk_12_110 : ∀ ci, ab_vk 12 110 ci = 129 := fun _ => rfl
set_option maxRecDepth 100000 in
theorem ab_sv_12_113 : ab_sV RX12 113 12 130 1 := ⟨ab_ok130, List.mem_of_getElem? (i := 906) (by decide +kernel), RX12, TX12, 34, rfl, Or.inl ⟨Or.inl (List.mem_of_getElem? (i := 904) (by decide +kernel)), List.mem_of_getElem? (i := 21) (by decide +kernel)⟩⟩
set_option maxRecDepth 100000 in
theorem ab_vk_12_113 : ∀ ci, ab_vk 12 113 ci = 130 := fun _ => rfl
set_option maxRecDepth 100000 in
theorem ab_fl_12_52 : ab_fl RX12 52 12 16 := ⟨RX12, TX12, 34, rfl, by decide, Or.inl (List.mem_of_getElem? (i := 792) (by decide +kernel))⟩
set_option maxRecDepth 100000 in
theorem ab_ss_12_116 : ab_sS RX12 116 132 2 := ⟨ab_ok132, List.mem_of_getElem? (i := 936) (by decide +kernel), Or.inl (List.mem_of_getElem? (i := 935) (by decide +kernel))⟩
set_option maxRecDepth 100000 in
theorem ab_lk_12_116 : ab_lk 12 116 = 132 := by decide +kernel
set_option maxRecDepth 100000 in
theorem ab_sv_12_119 : ab_sV RX12 119 12 133 3 := ⟨ab_ok133, List.mem_of_getElem? (i := 940) (by decide +kernel), RX12, TX12, 34, rfl, Or.inl ⟨Or.inl (List.mem_of_getElem? (i := 938) (by decide +kernel)), List.mem_of_getElem? (i := 26) (by decide +kernel)⟩⟩
set_option maxRecDepth 100000 in
theorem ab_vk_12_119 : ∀ ci, ab_vk 12 119 ci = 133 := fun _ => rfl
set_option maxRecDepth 100000 in
theorem ab_sv_12_123 : ab_sV RX12 123 12 134 4 := ⟨ab_ok134, List.mem_of_getElem? (i := 944) (by decide +kernel), RX12, TX12, 34, rfl, Or.inl ⟨Or.inl (List.mem_of_getElem? (i := 942) (by decide +kernel)), List.mem_of_getElem? (i := 27) (by decide +kernel)⟩⟩
set_option maxRecDepth 100000 in
theorem ab_vk_12_123 : ∀ ci, ab_vk 12 123 ci = 134 := fun _ => rfl
set_option maxRecDepth 100000 in
theorem ab_sv_12_127 : ab_sV RX12 127 12 135 2 := ⟨ab_ok135, List.mem_of_getElem? (i := 933) (by decide +kernel), RX12, TX12, 34, rfl, Or.inl ⟨Or.inl (List.mem_of_getElem? (i := 931) (by decide +kernel)), List.mem_of_getElem? (i := 25) (by decide +kernel)⟩⟩
set_option maxRecDepth 100000 in
theorem ab_vk_12_127 : ∀ ci, ab_vk 12 127 ci = 135 := fun _ => rfl
set_option maxRecDepth 100000 in
theorem ab_fp_12_131 : ∀ mn, ab_fp RX12 mn 131 12 17 := fun _ => ⟨RX12, TX12, 34, rfl, by decide, Or.inl ⟨rfl, Or.inl (List.mem_of_getElem? (i := 793) (by decide +kernel))⟩⟩
set_option maxRecDepth 100000 in
theorem ab_lk_12_131 : ab_lk 12 131 = 1217 := by decide +kernel
set_option maxRecDepth 100000 in
theorem ab_fl_12_55 : ab_fl RX12 55 12 18 := ⟨RX12, TX12, 34, rfl, by decide, Or.inl (List.mem_of_getElem? (i := 794) (by decide +kernel))⟩
set_option maxRecDepth 100000 in
theorem ab_fl_12_27 : ab_fl RX12 27 12 5 := ⟨RX12, TX12, 34, rfl, by decide, Or.inl (List.mem_of_getElem? (i := 781) (by decide +kernel))⟩
set_option maxRecDepth 100000 in
theorem ab_fl_12_30 : ab_fl RX12 30 12 6 := ⟨RX12, TX12, 34, rfl, by decide, Or.inl (List.mem_of_getElem? (i := 782) (by decide +kernel))⟩
set_option maxRecDepth 100000 in
theorem ab_fl_12_58 : ab_fl RX12 58 12 19 := ⟨RX12, TX12, 34, rfl, by decide, Or.inl (List.mem_of_getElem? (i := 795) (by decide +kernel))⟩
set_option maxRecDepth 100000 in
theorem ab_fl_12_131 : ab_fl RX12 131 12 17 := ⟨RX12, TX12, 34, rfl, by decide, Or.inl (List.mem_of_getElem? (i := 793) (by decide +kernel))⟩
set_option maxRecDepth 100000 in
theorem ab_sv_12_135 : ab_sV RX12 135 12 125 2 := ⟨ab_ok125, List.mem_of_getElem? (i := 914) (by decide +kernel), RX12, TX12, 34, rfl, Or.inl ⟨Or.inl (List.mem_of_getElem? (i := 912) (by decide +kernel)), List.mem_of_getElem? (i := 22) (by decide +kernel)⟩⟩
set_option maxRecDepth 100000 in
theorem ab_vk_12_135 : ∀ ci, ab_vk 12 135 ci = 125 := fun _ => rfl
set_option maxRecDepth 100000 in
theorem ab_sv_12_139 : ab_sV RX12 139 12 136 0 := ⟨ab_ok136, List.mem_of_getElem? (i := 929) (by decide +kernel), RX12, TX12, 34, rfl, Or.inl ⟨Or.inl (List.mem_of_getElem? (i := 927) (by decide +kernel)), List.mem_of_getElem? (i := 24) (by decide +kernel)⟩⟩
set_option maxRecDepth 100000 in
theorem ab_vk_12_139 : ∀ ci, ab_vk 12 139 ci = 136 := fun _ => rfl
set_option maxRecDepth 100000 in
theorem ab_sv_12_142 : ab_sV RX12 142 12 137 2 := ⟨ab_ok137, List.mem_of_getElem? (i := 956) (by decide +kernel), RX12, TX12, 34, rfl, Or.inl ⟨Or.inl (List.mem_of_getElem? (i := 954) (by decide +kernel)), List.mem_of_getElem? (i := 29) (by decide +kernel)⟩⟩
set_option maxRecDepth 100000 in
theorem ab_vk_12_142 : ∀ ci, ab_vk 12 142 ci = 137 := fun _ => rfl
set_option maxRecDepth 100000 in
theorem ab_sv_12_145 : ab_sV RX12 145 12 139 1 := ⟨ab_ok139, List.mem_of_getElem? (i := 960) (by decide +kernel), RX12, TX12, 34, rfl, Or.inl ⟨Or.inl (List.mem_of_getElem? (i := 958) (by decide +kernel)), List.mem_of_getElem? (i := 30) (by decide +kernel)⟩⟩
set_option maxRecDepth 100000 in
theorem ab_vk_12_145 : ∀ ci, ab_vk 12 145 ci = 139 := fun _ => rfl
set_option maxRecDepth 100000 in
theorem ab_sv_12_148 : ab_sV RX12 148 12 143 3 := ⟨ab_ok143, List.mem_of_getElem? (i := 952) (by decide +kernel), RX12, TX12, 34, rfl, Or.inl ⟨Or.inl (List.mem_of_getElem? (i := 950) (by decide +kernel)), List.mem_of_getElem? (i := 28) (by decide +kernel)⟩⟩
set_option maxRecDepth 100000 in
theorem ab_vk_12_148 : ∀ ci, ab_vk 12 148 ci = 143 := fun _ => rfl
set_option maxRecDepth 100000 in
theorem ab_fl_12_61 : ab_fl RX12 61 12 20 := ⟨RX12, TX12, 34, rfl, by decide, Or.inl (List.mem_of_getElem? (i := 796) (by decide +kernel))⟩
set_option maxRecDepth 100000 in
theorem ab_fp_12_151 : ∀ mn, ab_fp RX12 mn 151 12 22 := fun _ => ⟨RX12, TX12, 34, rfl, by decide, Or.inl ⟨rfl, Or.inl (List.mem_of_getElem? (i := 798) (by decide +kernel))⟩⟩
set_option maxRecDepth 100000 in
theorem ab_lk_12_151 : ab_lk 12 151 = 1222 := by decide +kernel
set_option maxRecDepth 100000 in
theorem ab_fp_12_154 : ∀ mn, ab_fp RX12 mn 154 12 24 := fun _ => ⟨RX12, TX12, 34, rfl, by decide, Or.inl ⟨rfl, Or.inl (List.mem_of_getElem? (i := 800) (by decide +kernel))⟩⟩
set_option maxRecDepth 100000 in
theorem ab_lk_12_154 : ab_lk 12 154 = 1224 := by decide +kernel
set_option maxRecDepth 100000 in
theorem ab_fl_12_151 : ab_fl RX12 151 12 22 := ⟨RX12, TX12, 34, rfl, by decide, Or.inl (List.mem_of_getElem? (i := 798) (by decide +kernel))⟩
set_option maxRecDepth 100000 in
theorem ab_fl_12_157 : ab_fl RX12 157 12 21 := ⟨RX12, TX12, 34, rfl, by decide, Or.inl (List.mem_of_getElem? (i := 797) (by decide +kernel))⟩
set_option maxRecDepth 100000 in
theorem ab_lk_12_157 : ab_lk 12 157 = 1221 := by decide +kernel
set_option maxRecDepth 100000 in
theorem ab_sv_12_160 : ab_sV RX12 160 12 145 2 := ⟨ab_ok145, List.mem_of_getElem? (i := 976) (by decide +kernel), RX12, TX12, 34, rfl, Or.inl ⟨Or.inl (List.mem_of_getElem? (i := 974) (by decide +kernel)), List.mem_of_getElem? (i := 33) (by decide +kernel)⟩⟩
set_option maxRecDepth 100000 in
theorem ab_vk_12_160 : ∀ ci, ab_vk 12 160 ci = 145 := fun _ => rfl
set_option maxRecDepth 100000 in
theorem ab_fl_12_154 : ab_fl RX12 154 12 24 := ⟨RX12, TX12, 34, rfl, by decide, Or.inl (List.mem_of_getElem? (i := 800) (by decide +kernel))⟩
set_option maxRecDepth 100000 in
theorem ab_ss_12_163 : ab_sS RX12 163 121 1 := ⟨ab_ok121, List.mem_of_getElem? (i := 979) (by decide +kernel), Or.inl (List.mem_of_getElem? (i := 978) (by decide +kernel))⟩
set_option maxRecDepth 100000 in
theorem ab_lk_12_163 : ab_lk 12 163 = 121 := by decide +kernel
set_option maxRecDepth 100000 in
theorem ab_sv_12_166 : ab_sV RX12 166 12 146 3 := ⟨ab_ok146, List.mem_of_getElem? (i := 983) (by decide +kernel), RX12, TX12, 34, rfl, Or.inl ⟨Or.inl (List.mem_of_getElem? (i := 981) (by decide +kernel)), List.mem_of_getElem? (i := 34) (by decide +kernel)⟩⟩
set_option maxRecDepth 100000 in
theorem ab_vk_12_166 : ∀ ci, ab_vk 12 166 ci = 146 := fun _ => rfl
set_option maxRecDepth 100000 in
theorem ab_fl_12_64 : ab_fl RX12 64 12 23 := ⟨RX12, TX12, 34, rfl, by decide, Or.inl (List.mem_of_getElem? (i := 799) (by decide +kernel))⟩
set_option maxRecDepth 100000 in
theorem ab_fp_12_157 : ∀ mn, ab_fp RX12 mn 157 12 21 := fun _ => ⟨RX12, TX12, 34, rfl, by decide, Or.inl ⟨rfl, Or.inl (List.mem_of_getElem? (i := 797) (by decide +kernel))⟩⟩
set_option maxRecDepth 100000 in
theorem ab_sv_12_170 : ab_sV RX12 170 12 147 1 := ⟨ab_ok147, List.mem_of_getElem? (i := 972) (by decide +kernel), RX12, TX12, 34, rfl, Or.inl ⟨Or.inl (List.mem_of_getElem? (i := 970) (by decide +kernel)), List.mem_of_getElem? (i := 32) (by decide +kernel)⟩⟩
set_option maxRecDepth 100000 in
theorem ab_vk_12_170 : ∀ ci, ab_vk 12 170 ci = 147 := fun _ => rfl
set_option maxRecDepth 100000 in
theorem ab_sv_12_173 : ab_sV RX12 173 12 148 1 := ⟨ab_ok148, List.mem_of_getElem? (i := 968) (by decide +kernel), RX12, TX12, 34, rfl, Or.inl ⟨Or.inl (List.mem_of_getElem? (i := 966) (by decide +kernel)), List.mem_of_getElem? (i := 31) (by decide +kernel)⟩⟩
set_option maxRecDepth 100000 in
theorem ab_vk_12_173 : ∀ ci, ab_vk 12 173 ci = 148 := fun _ => rfl
set_option maxRecDepth 100000 in
theorem ab_sv_12_176 : ab_sV RX12 176 12 151 3 := ⟨ab_ok151, List.mem_of_getElem? (i := 995) (by decide +kernel), RX12, TX12, 34, rfl, Or.inl ⟨Or.inl (List.mem_of_getElem? (i := 993) (by decide +kernel)), List.mem_of_getElem? (i := 35) (by decide +kernel)⟩⟩
set_option maxRecDepth 100000 in
theorem ab_vk_12_176 : ∀ ci, ab_vk 12 176 ci = 151 := fun _ => rfl
set_option maxRecDepth 100000 in
theorem ab_sv_12_179 : ab_sV RX12 179 12 154 1 := ⟨ab_ok154, List.mem_of_getElem? (i := 1007) (by decide +kernel), RX12, TX12, 34, rfl, Or.inl ⟨Or.inl (List.mem_of_getElem? (i := 1005) (by decide +kernel)), List.mem_of_getElem? (i := 36) (by decide +kernel)⟩⟩
set_option maxRecDepth 100000 in
theorem ab_vk_12_179 : ∀ ci, ab_vk 12 179 ci = 154 := fun _ => rfl
set_option maxRecDepth 100000 in
theorem ab_fl_12_182 : ab_fl RX12 182 12 8 := ⟨RX12, TX12, 34, rfl, by decide, Or.inl (List.mem_of_getElem? (i := 784) (by decide +kernel))⟩
set_option maxRecDepth 100000 in
theorem ab_lk_12_182 : ab_lk 12 182 = 1208 := by decide +kernel
set_option maxRecDepth 100000 in
theorem ab_fl_12_33 : ab_fl RX12 33 12 7 := ⟨RX12, TX12, 34, rfl, by decide, Or.inl (List.mem_of_getElem? (i := 783) (by decide +kernel))⟩
set_option maxRecDepth 100000 in
theorem ab_fp_12_182 : ∀ mn, ab_fp RX12 mn 182 12 8 := fun _ => ⟨RX12, TX12, 34, rfl, by decide, Or.inl ⟨rfl, Or.inl (List.mem_of_getElem? (i := 784) (by decide +kernel))⟩⟩
set_option maxRecDepth 100000 in
theorem ab_fl_12_185 : ab_fl RX12 185 12 25 := ⟨RX12, TX12, 34, rfl, by decide, Or.inl (List.mem_of_getElem? (i := 801) (by decide +kernel))⟩
set_option maxRecDepth 100000 in
theorem ab_lk_12_185 : ab_lk 12 185 = 1225 := by decide +kernel
set_option maxRecDepth 100000 in
theorem ab_fp_12_185 : ∀ mn, ab_fp RX12 mn 185 12 25 := fun _ => ⟨RX12, TX12, 34, rfl, by decide, Or.inl ⟨rfl, Or.inl (List.mem_of_getElem? (i := 801) (by decide +kernel))⟩⟩
set_option maxRecDepth 100000 in
theorem ab_fl_12_67 : ab_fl RX12 67 12 27 := ⟨RX12, TX12, 34, rfl, by decide, Or.inl (List.mem_of_getElem? (i := 803) (by decide +kernel))⟩
set_option maxRecDepth 100000 in
theorem ab_fl_12_188 : ab_fl RX12 188 12 26 := ⟨RX12, TX12, 34, rfl, by decide, Or.inl (List.mem_of_getElem? (i := 802) (by decide +kernel))⟩
set_option maxRecDepth 100000 in
theorem ab_lk_12_188 : ab_lk 12 188 = 1226 := by decide +kernel
set_option maxRecDepth 100000 in
theorem ab_sv_12_191 : ab_sV RX12 191 12 158 2 := ⟨ab_ok158, List.mem_of_getElem? (i := 1034) (by decide +kernel), RX12, TX12, 34, rfl, Or.inl ⟨Or.inl (List.mem_of_getElem? (i := 1032) (by decide +kernel)), List.mem_of_getElem? (i := 40) (by decide +kernel)⟩⟩
set_option maxRecDepth 100000 in
theorem ab_vk_12_191 : ∀ ci, ab_vk 12 191 ci = 158 := fun _ => rfl
set_option maxRecDepth 100000 in
theorem ab_sv_12_194 : ab_sV RX12 194 12 157 1 := ⟨ab_ok157, List.mem_of_getElem? (i := 1038) (by decide +kernel), RX12, TX12, 34, rfl, Or.inl ⟨Or.inl (List.mem_of_getElem? (i := 1036) (by decide +kernel)), List.mem_of_getElem? (i := 41) (by decide +kernel)⟩⟩
set_option maxRecDepth 100000 in
theorem ab_vk_12_194 : ∀ ci, ab_vk 12 194 ci = 157 := fun _ => rfl
set_option maxRecDepth 100000 in
theorem ab_fl_12_73 : ab_fl RX12 73 12 30 := ⟨RX12, TX12, 34, rfl, by decide, Or.inl (List.mem_of_getElem? (i := 806) (by decide +kernel))⟩
set_option maxRecDepth 100000 in
theorem ab_fl_12_197 : ab_fl RX12 197 12 29 := ⟨RX12, TX12, 34, rfl, by decide, Or.inl (List.mem_of_getElem? (i := 805) (by decide +kernel))⟩
set_option maxRecDepth 100000 in
theorem ab_lk_12_197 : ab_lk 12 197 = 1229 := by decide +kernel
set_option maxRecDepth 100000 in
theorem ab_fp_12_197 : ∀ mn, ab_fp RX12 mn 197 12 29 := fun _ => ⟨RX12, TX12, 34, rfl, by decide, Or.inl ⟨rfl, Or.inl (List.mem_of_getElem? (i := 805) (by decide +kernel))⟩⟩
set_option maxRecDepth 100000 in
theorem ab_sv_12_200 : ab_sV RX12 200 12 159 0 := ⟨ab_ok159, List.mem_of_getElem? (i := 1030) (by decide +kernel), RX12, TX12, 34, rfl, Or.inl ⟨Or.inl (List.mem_of_getElem? (i := 1028) (by decide +kernel)), List.mem_of_getElem? (i := 39) (by decide +kernel)⟩⟩
set_option maxRecDepth 100000 in
theorem ab_vk_12_200 : ∀ ci, ab_vk 12 200 ci = 159 := fun _ => rfl
set_option maxRecDepth 100000 in
theorem ab_fl_12_70 : ab_fl RX12 70 12 28 := ⟨RX12, TX12, 34, rfl, by decide, Or.inl (List.mem_of_getElem? (i := 804) (by decide +kernel))⟩
set_option maxRecDepth 100000 in
theorem ab_sv_12_203 : ab_sV RX12 203 12 160 0 := ⟨ab_ok160, List.mem_of_getElem? (i := 1042) (by decide +kernel), RX12, TX12, 34, rfl, Or.inl ⟨Or.inl (List.mem_of_getElem? (i := 1040) (by decide +kernel)), List.mem_of_getElem? (i := 42) (by decide +kernel)⟩⟩
set_option maxRecDepth 100000 in
theorem ab_vk_12_203 : ∀ ci, ab_vk 12 203 ci = 160 := fun _ => rfl
set_option maxRecDepth 100000 in
theorem ab_fp_12_188 : ∀ mn, ab_fp RX12 mn 188 12 26 := fun _ => ⟨RX12, TX12, 34, rfl, by decide, Or.inl ⟨rfl, Or.inl (List.mem_of_getElem? (i := 802) (by decide +kernel))⟩⟩
set_option maxRecDepth 100000 in
theorem ab_sv_12_207 : ab_sV RX12 207 12 161 0 := ⟨ab_ok161, List.mem_of_getElem? (i := 1026) (by decide +kernel), RX12, TX12, 34, rfl, Or.inl ⟨Or.inl (List.mem_of_getElem? (i := 1024) (by decide +kernel)), List.mem_of_getElem? (i := 38) (by decide +kernel)⟩⟩
set_option maxRecDepth 100000 in
theorem ab_vk_12_207 : ∀ ci, ab_vk 12 207 ci = 161 := fun _ => rfl
set_option maxRecDepth 100000 in
theorem ab_sv_12_210 : ab_sV RX12 210 12 163 1 := ⟨ab_ok163, List.mem_of_getElem? (i := 1046) (by decide +kernel), RX12, TX12, 34, rfl, Or.inl ⟨Or.inl (List.mem_of_getElem? (i := 1044) (by decide +kernel)), List.mem_of_getElem? (i := 43) (by decide +kernel)⟩⟩
set_option maxRecDepth 100000 in
theorem ab_vk_12_210 : ∀ ci, ab_vk 12 210 ci = 163 := fun _ => rfl
set_option maxRecDepth 100000 in
theorem ab_ss_12_213 : ab_sS RX12 213 126 1 := ⟨ab_ok126, List.mem_of_getElem? (i := 1018) (by decide +kernel), Or.inl (List.mem_of_getElem? (i := 1017) (by decide +kernel))⟩
set_option maxRecDepth 100000 in
theorem ab_lk_12_213 : ab_lk 12 213 = 126 := by decide +kernel
set_option maxRecDepth 100000 in
theorem ab_sv_12_216 : ab_sV RX12 216 12 162 0 := ⟨ab_ok162, List.mem_of_getElem? (i := 1022) (by decide +kernel), RX12, TX12, 34, rfl, Or.inl ⟨Or.inl (List.mem_of_getElem? (i := 1020) (by decide +kernel)), List.mem_of_getElem? (i := 37) (by decide +kernel)⟩⟩
set_option maxRecDepth 100000 in
theorem ab_vk_12_216 : ∀ ci, ab_vk 12 216 ci = 162 := fun _ => rfl
set_option maxRecDepth 100000 in
theorem ab_fl_12_76 : ab_fl RX12 76 12 31 := ⟨RX12, TX12, 34, rfl, by decide, Or.inl (List.mem_of_getElem? (i := 807) (by decide +kernel))⟩
set_option maxRecDepth 100000 in
theorem ab_sv_12_219 : ab_sV RX12 219 12 164 1 := ⟨ab_ok164, List.mem_of_getElem? (i := 1050) (by decide +kernel), RX12, TX12, 34, rfl, Or.inl ⟨Or.inl (List.mem_of_getElem? (i := 1048) (by decide +kernel)), List.mem_of_getElem? (i := 44) (by decide +kernel)⟩⟩
set_option maxRecDepth 100000 in
theorem ab_vk_12_219 : ∀ ci, ab_vk 12 219 ci = 164 := fun _ => rfl
set_option maxRecDepth 100000 in
theorem ab_sv_12_222 : ab_sV RX12 222 12 166 1 := ⟨ab_ok166, List.mem_of_getElem? (i := 1058) (by decide +kernel), RX12, TX12, 34, rfl, Or.inl ⟨Or.inl (List.mem_of_getElem? (i := 1056) (by decide +kernel)), List.mem_of_getElem? (i := 45) (by decide +kernel)⟩⟩
set_option maxRecDepth 100000 in
theorem ab_vk_12_222 : ∀ ci, ab_vk 12 222 ci = 166 := fun _ => rfl
set_option maxRecDepth 100000 in
theorem ab_sv_12_225 : ab_sV RX12 225 12 169 2 := ⟨ab_ok169, List.mem_of_getElem? (i := 1070) (by decide +kernel), RX12, TX12, 34, rfl, Or.inl ⟨Or.inl (List.mem_of_getElem? (i := 1068) (by decide +kernel)), List.mem_of_getElem? (i := 46) (by decide +kernel)⟩⟩
set_option maxRecDepth 100000 in
theorem ab_vk_12_225 : ∀ ci, ab_vk 12 225 ci = 169 := fun _ => rfl
set_option maxRecDepth 100000 in
theorem ab_sv_12_228 : ab_sV RX12 228 12 138 1 := ⟨ab_ok138, List.mem_of_getElem? (i := 1082) (by decide +kernel), RX12, TX12, 34, rfl, Or.inl ⟨Or.inl (List.mem_of_getElem? (i := 1080) (by decide +kernel)), List.mem_of_getElem? (i := 47) (by decide +kernel)⟩⟩
set_option maxRecDepth 100000 in
theorem ab_vk_12_228 : ∀ ci, ab_vk 12 228 ci = 138 := fun _ => rfl
set_option maxRecDepth 100000 in
theorem ab_sv_12_231 : ab_sV RX12 231 12 140 0 := ⟨ab_ok140, List.mem_of_getElem? (i := 1098) (by decide +kernel), RX12, TX12, 34, rfl, Or.inl ⟨Or.inl (List.mem_of_getElem? (i := 1096) (by decide +kernel)), List.mem_of_getElem? (i := 48) (by decide +kernel)⟩⟩
set_option maxRecDepth 100000 in
theorem ab_vk_12_231 : ∀ ci, ab_vk 12 231 ci = 140 := fun _ => rfl
set_option maxRecDepth 100000 in
theorem ab_cn_12_234 : Cond.constant RX12 234 (Int32.ofInt 1103515245) ∈ lw_tbl := List.mem_of_getElem? (i := 1109) (by decide +kernel)
set_option maxRecDepth 100000 in
theorem ab_lk_12_234 : ab_lk 12 234 = 1103515245 := by decide +kernel
set_option maxRecDepth 100000 in
theorem ab_cn_12_235 : Cond.constantLong RX12 235 (-9223372036854775808) ∈ lw_tbl := List.mem_of_getElem? (i := 1104) (by decide +kernel)
set_option maxRecDepth 100000 in
theorem ab_lk_12_235 : ab_lk 12 235 = 0 := by decide +kernel
set_option maxRecDepth 100000 in
theorem ab_sv_12_237 : ab_sV RX12 237 12 176 2 := ⟨ab_ok176, List.mem_of_getElem? (i := 1107) (by decide +kernel), RX12, TX12, 34, rfl, Or.inl ⟨Or.inl (List.mem_of_getElem? (i := 1105) (by decide +kernel)), List.mem_of_getElem? (i := 49) (by decide +kernel)⟩⟩
set_option maxRecDepth 100000 in
theorem ab_vk_12_237 : ∀ ci, ab_vk 12 237 ci = 176 := fun _ => rfl
set_option maxRecDepth 100000 in
theorem ab_fp_12_240 : ∀ mn, ab_fp RX12 mn 240 12 11 := fun _ => ⟨RX12, TX12, 34, rfl, by decide, Or.inl ⟨rfl, Or.inl (List.mem_of_getElem? (i := 787) (by decide +kernel))⟩⟩
set_option maxRecDepth 100000 in
theorem ab_lk_12_240 : ab_lk 12 240 = 1211 := by decide +kernel
set_option maxRecDepth 100000 in
theorem ab_fl_12_240 : ab_fl RX12 240 12 11 := ⟨RX12, TX12, 34, rfl, by decide, Or.inl (List.mem_of_getElem? (i := 787) (by decide +kernel))⟩
set_option maxRecDepth 100000 in
theorem ab_fl_12_39 : ab_fl RX12 39 12 12 := ⟨RX12, TX12, 34, rfl, by decide, Or.inl (List.mem_of_getElem? (i := 788) (by decide +kernel))⟩
set_option maxRecDepth 100000 in
theorem ab_fl_12_42 : ab_fl RX12 42 12 13 := ⟨RX12, TX12, 34, rfl, by decide, Or.inl (List.mem_of_getElem? (i := 789) (by decide +kernel))⟩
set_option maxRecDepth 100000 in
theorem ab_sv_12_243 : ab_sV RX12 243 12 179 2 := ⟨ab_ok179, List.mem_of_getElem? (i := 1120) (by decide +kernel), RX12, TX12, 34, rfl, Or.inl ⟨Or.inl (List.mem_of_getElem? (i := 1118) (by decide +kernel)), List.mem_of_getElem? (i := 50) (by decide +kernel)⟩⟩
set_option maxRecDepth 100000 in
theorem ab_vk_12_243 : ∀ ci, ab_vk 12 243 ci = 179 := fun _ => rfl
set_option maxRecDepth 100000 in
theorem ab_fl_12_36 : ab_fl RX12 36 12 9 := ⟨RX12, TX12, 34, rfl, by decide, Or.inl (List.mem_of_getElem? (i := 785) (by decide +kernel))⟩
set_option maxRecDepth 100000 in
theorem ab_fl_12_246 : ab_fl RX12 246 12 10 := ⟨RX12, TX12, 34, rfl, by decide, Or.inl (List.mem_of_getElem? (i := 786) (by decide +kernel))⟩
set_option maxRecDepth 100000 in
theorem ab_lk_12_246 : ab_lk 12 246 = 1210 := by decide +kernel
set_option maxRecDepth 100000 in
theorem ab_fp_12_246 : ∀ mn, ab_fp RX12 mn 246 12 10 := fun _ => ⟨RX12, TX12, 34, rfl, by decide, Or.inl ⟨rfl, Or.inl (List.mem_of_getElem? (i := 786) (by decide +kernel))⟩⟩
set_option maxRecDepth 100000 in
theorem ab_sv_12_249 : ab_sV RX12 249 12 181 1 := ⟨ab_ok181, List.mem_of_getElem? (i := 1128) (by decide +kernel), RX12, TX12, 34, rfl, Or.inl ⟨Or.inl (List.mem_of_getElem? (i := 1126) (by decide +kernel)), List.mem_of_getElem? (i := 51) (by decide +kernel)⟩⟩
set_option maxRecDepth 100000 in
theorem ab_vk_12_249 : ∀ ci, ab_vk 12 249 ci = 181 := fun _ => rfl
set_option maxRecDepth 100000 in
theorem ab_sv_12_252 : ab_sV RX12 252 12 182 1 := ⟨ab_ok182, List.mem_of_getElem? (i := 1132) (by decide +kernel), RX12, TX12, 34, rfl, Or.inl ⟨Or.inl (List.mem_of_getElem? (i := 1130) (by decide +kernel)), List.mem_of_getElem? (i := 52) (by decide +kernel)⟩⟩
set_option maxRecDepth 100000 in
theorem ab_vk_12_252 : ∀ ci, ab_vk 12 252 ci = 182 := fun _ => rfl
set_option maxRecDepth 100000 in
theorem ab_ss_12_255 : ab_sS RX12 255 185 1 := ⟨ab_ok185, List.mem_of_getElem? (i := 1143) (by decide +kernel), Or.inl (List.mem_of_getElem? (i := 1142) (by decide +kernel))⟩
set_option maxRecDepth 100000 in
theorem ab_lk_12_255 : ab_lk 12 255 = 185 := by decide +kernel
set_option maxRecDepth 100000 in
theorem ab_fl_12_45 : ab_fl RX12 45 12 14 := ⟨RX12, TX12, 34, rfl, by decide, Or.inl (List.mem_of_getElem? (i := 790) (by decide +kernel))⟩
set_option maxRecDepth 100000 in
theorem ab_fl_12_48 : ab_fl RX12 48 12 15 := ⟨RX12, TX12, 34, rfl, by decide, Or.inl (List.mem_of_getElem? (i := 791) (by decide +kernel))⟩
set_option maxRecDepth 100000 in
theorem ab_fp_12_258 : ∀ mn, ab_fp RX12 mn 258 12 32 := fun _ => ⟨RX12, TX12, 34, rfl, by decide, Or.inl ⟨rfl, Or.inl (List.mem_of_getElem? (i := 808) (by decide +kernel))⟩⟩
set_option maxRecDepth 100000 in
theorem ab_lk_12_258 : ab_lk 12 258 = 1232 := by decide +kernel
set_option maxRecDepth 100000 in
theorem ab_fl_12_79 : ab_fl RX12 79 12 33 := ⟨RX12, TX12, 34, rfl, by decide, Or.inl (List.mem_of_getElem? (i := 809) (by decide +kernel))⟩
set_option maxRecDepth 100000 in
theorem ab_fl_12_258 : ab_fl RX12 258 12 32 := ⟨RX12, TX12, 34, rfl, by decide, Or.inl (List.mem_of_getElem? (i := 808) (by decide +kernel))⟩
set_option maxRecDepth 100000 in
theorem ab_nw_14_7 : ab_lk 14 7 = 11 ∧ ab_nc RL 7 11 11 := ⟨by decide +kernel, RX11, TX11, rfl, List.mem_of_getElem? (i := 69) (by decide +kernel), List.mem_of_getElem? (i := 70) (by decide +kernel), List.mem_of_getElem? (i := 54) (by decide +kernel)⟩
set_option maxRecDepth 100000 in
theorem ab_si_14_9 : ab_sI RL 9 68 0 := ⟨ab_ok68, List.mem_of_getElem? (i := 72) (by decide +kernel), rfl, rfl, Or.inl (List.mem_of_getElem? (i := 71) (by decide +kernel))⟩
set_option maxRecDepth 100000 in
theorem ab_lk_14_9 : ab_lk 14 9 = 68 := by decide +kernel
set_option maxRecDepth 100000 in
theorem ab_nw_14_10 : ab_lk 14 10 = 12 ∧ ab_nc RL 10 12 34 := ⟨by decide +kernel, RX12, TX12, rfl, List.mem_of_getElem? (i := 763) (by decide +kernel), List.mem_of_getElem? (i := 764) (by decide +kernel), List.mem_of_getElem? (i := 66) (by decide +kernel)⟩
set_option maxRecDepth 100000 in
theorem ab_si_14_12 : ab_sI RL 12 117 0 := ⟨ab_ok117, List.mem_of_getElem? (i := 766) (by decide +kernel), rfl, rfl, Or.inl (List.mem_of_getElem? (i := 765) (by decide +kernel))⟩
set_option maxRecDepth 100000 in
theorem ab_lk_14_12 : ab_lk 14 12 = 117 := by decide +kernel
set_option maxRecDepth 100000 in
theorem ab_sv_14_13 : ab_sV RL 13 11 69 2 := ⟨ab_ok69, List.mem_of_getElem? (i := 309) (by decide +kernel), RX11, TX11, 11, rfl, Or.inl ⟨Or.inl (List.mem_of_getElem? (i := 308) (by decide +kernel)), List.mem_of_getElem? (i := 310) (by decide +kernel)⟩⟩
set_option maxRecDepth 100000 in
theorem ab_vk_14_13 : ∀ ci, ab_vk 14 13 ci = 69 := fun _ => rfl
set_option maxRecDepth 100000 in
theorem ab_sv_14_17 : ab_sV RL 17 12 127 2 := ⟨ab_ok127, List.mem_of_getElem? (i := 880) (by decide +kernel), RX12, TX12, 34, rfl, Or.inl ⟨Or.inl (List.mem_of_getElem? (i := 879) (by decide +kernel)), List.mem_of_getElem? (i := 881) (by decide +kernel)⟩⟩
set_option maxRecDepth 100000 in
theorem ab_vk_14_17 : ∀ ci, ab_vk 14 17 ci = 127 := fun _ => rfl
set_option maxRecDepth 100000 in
theorem ab_sv_14_18 : ab_sV RL 18 11 70 1 := ⟨ab_ok70, List.mem_of_getElem? (i := 316) (by decide +kernel), RX11, TX11, 11, rfl, Or.inl ⟨Or.inl (List.mem_of_getElem? (i := 315) (by decide +kernel)), List.mem_of_getElem? (i := 317) (by decide +kernel)⟩⟩
set_option maxRecDepth 100000 in
theorem ab_vk_14_18 : ∀ ci, ab_vk 14 18 ci = 70 := fun _ => rfl
set_option maxRecDepth 100000 in
theorem ab_sv_14_22 : ab_sV RL 22 12 128 1 := ⟨ab_ok128, List.mem_of_getElem? (i := 887) (by decide +kernel), RX12, TX12, 34, rfl, Or.inl ⟨Or.inl (List.mem_of_getElem? (i := 886) (by decide +kernel)), List.mem_of_getElem? (i := 888) (by decide +kernel)⟩⟩
set_option maxRecDepth 100000 in
theorem ab_vk_14_22 : ∀ ci, ab_vk 14 22 ci = 128 := fun _ => rfl
set_option maxRecDepth 100000 in
theorem ab_sv_14_23 : ab_sV RL 23 11 71 3 := ⟨ab_ok71, List.mem_of_getElem? (i := 320) (by decide +kernel), RX11, TX11, 11, rfl, Or.inl ⟨Or.inl (List.mem_of_getElem? (i := 319) (by decide +kernel)), List.mem_of_getElem? (i := 321) (by decide +kernel)⟩⟩
set_option maxRecDepth 100000 in
theorem ab_vk_14_23 : ∀ ci, ab_vk 14 23 ci = 71 := fun _ => rfl
set_option maxRecDepth 100000 in
theorem ab_sv_14_27 : ab_sV RL 27 12 131 3 := ⟨ab_ok131, List.mem_of_getElem? (i := 891) (by decide +kernel), RX12, TX12, 34, rfl, Or.inl ⟨Or.inl (List.mem_of_getElem? (i := 890) (by decide +kernel)), List.mem_of_getElem? (i := 892) (by decide +kernel)⟩⟩
set_option maxRecDepth 100000 in
theorem ab_vk_14_27 : ∀ ci, ab_vk 14 27 ci = 131 := fun _ => rfl
set_option maxRecDepth 100000 in
theorem ab_sv_14_28 : ab_sV RL 28 11 72 3 := ⟨ab_ok72, List.mem_of_getElem? (i := 372) (by decide +kernel), RX11, TX11, 11, rfl, Or.inl ⟨Or.inl (List.mem_of_getElem? (i := 371) (by decide +kernel)), List.mem_of_getElem? (i := 373) (by decide +kernel)⟩⟩
set_option maxRecDepth 100000 in
theorem ab_vk_14_28 : ∀ ci, ab_vk 14 28 ci = 72 := fun _ => rfl
set_option maxRecDepth 100000 in
theorem ab_sv_14_31 : ab_sV RL 31 12 141 3 := ⟨ab_ok141, List.mem_of_getElem? (i := 909) (by decide +kernel), RX12, TX12, 34, rfl, Or.inl ⟨Or.inl (List.mem_of_getElem? (i := 908) (by decide +kernel)), List.mem_of_getElem? (i := 910) (by decide +kernel)⟩⟩
set_option maxRecDepth 100000 in
theorem ab_vk_14_31 : ∀ ci, ab_vk 14 31 ci = 141 := fun _ => rfl
set_option maxRecDepth 100000 in
theorem ab_sv_14_32 : ab_sV RL 32 11 73 4 := ⟨ab_ok73, List.mem_of_getElem? (i := 393) (by decide +kernel), RX11, TX11, 11, rfl, Or.inl ⟨Or.inl (List.mem_of_getElem? (i := 392) (by decide +kernel)), List.mem_of_getElem? (i := 394) (by decide +kernel)⟩⟩
set_option maxRecDepth 100000 in
theorem ab_vk_14_32 : ∀ ci, ab_vk 14 32 ci = 73 := fun _ => rfl
set_option maxRecDepth 100000 in
theorem ab_sv_14_36 : ab_sV RL 36 12 142 4 := ⟨ab_ok142, List.mem_of_getElem? (i := 924) (by decide +kernel), RX12, TX12, 34, rfl, Or.inl ⟨Or.inl (List.mem_of_getElem? (i := 923) (by decide +kernel)), List.mem_of_getElem? (i := 925) (by decide +kernel)⟩⟩
set_option maxRecDepth 100000 in
theorem ab_vk_14_36 : ∀ ci, ab_vk 14 36 ci = 142 := fun _ => rfl
set_option maxRecDepth 100000 in
theorem ab_sv_14_37 : ab_sV RL 37 11 74 3 := ⟨ab_ok74, List.mem_of_getElem? (i := 442) (by decide +kernel), RX11, TX11, 11, rfl, Or.inl ⟨Or.inl (List.mem_of_getElem? (i := 441) (by decide +kernel)), List.mem_of_getElem? (i := 443) (by decide +kernel)⟩⟩
set_option maxRecDepth 100000 in
theorem ab_vk_14_37 : ∀ ci, ab_vk 14 37 ci = 74 := fun _ => rfl
set_option maxRecDepth 100000 in
theorem ab_sv_14_40 : ab_sV RL 40 12 144 3 := ⟨ab_ok144, List.mem_of_getElem? (i := 947) (by decide +kernel), RX12, TX12, 34, rfl, Or.inl ⟨Or.inl (List.mem_of_getElem? (i := 946) (by decide +kernel)), List.mem_of_getElem? (i := 948) (by decide +kernel)⟩⟩
set_option maxRecDepth 100000 in
theorem ab_vk_14_40 : ∀ ci, ab_vk 14 40 ci = 144 := fun _ => rfl
set_option maxRecDepth 100000 in
theorem ab_sv_14_41 : ab_sV RL 41 11 75 1 := ⟨ab_ok75, List.mem_of_getElem? (i := 447) (by decide +kernel), RX11, TX11, 11, rfl, Or.inl ⟨Or.inl (List.mem_of_getElem? (i := 446) (by decide +kernel)), List.mem_of_getElem? (i := 448) (by decide +kernel)⟩⟩
set_option maxRecDepth 100000 in
theorem ab_vk_14_41 : ∀ ci, ab_vk 14 41 ci = 75 := fun _ => rfl
set_option maxRecDepth 100000 in
theorem ab_sv_14_44 : ab_sV RL 44 12 149 1 := ⟨ab_ok149, List.mem_of_getElem? (i := 963) (by decide +kernel), RX12, TX12, 34, rfl, Or.inl ⟨Or.inl (List.mem_of_getElem? (i := 962) (by decide +kernel)), List.mem_of_getElem? (i := 964) (by decide +kernel)⟩⟩
set_option maxRecDepth 100000 in
theorem ab_vk_14_44 : ∀ ci, ab_vk 14 44 ci = 149 := fun _ => rfl
set_option maxRecDepth 100000 in
theorem ab_sv_14_45 : ab_sV RL 45 11 76 1 := ⟨ab_ok76, List.mem_of_getElem? (i := 487) (by decide +kernel), RX11, TX11, 11, rfl, Or.inl ⟨Or.inl (List.mem_of_getElem? (i := 486) (by decide +kernel)), List.mem_of_getElem? (i := 488) (by decide +kernel)⟩⟩
set_option maxRecDepth 100000 in
theorem ab_vk_14_45 : ∀ ci, ab_vk 14 45 ci = 76 := fun _ => rfl
set_option maxRecDepth 100000 in
theorem ab_sv_14_48 : ab_sV RL 48 12 150 1 := ⟨ab_ok150, List.mem_of_getElem? (i := 986) (by decide +kernel), RX12, TX12, 34, rfl, Or.inl ⟨Or.inl (List.mem_of_getElem? (i := 985) (by decide +kernel)), List.mem_of_getElem? (i := 987) (by decide +kernel)⟩⟩
set_option maxRecDepth 100000 in
theorem ab_vk_14_48 : ∀ ci, ab_vk 14 48 ci = 150 := fun _ => rfl
set_option maxRecDepth 100000 in
theorem ab_sv_14_49 : ab_sV RL 49 11 77 2 := ⟨ab_ok77, List.mem_of_getElem? (i := 491) (by decide +kernel), RX11, TX11, 11, rfl, Or.inl ⟨Or.inl (List.mem_of_getElem? (i := 490) (by decide +kernel)), List.mem_of_getElem? (i := 492) (by decide +kernel)⟩⟩
set_option maxRecDepth 100000 in
theorem ab_vk_14_49 : ∀ ci, ab_vk 14 49 ci = 77 := fun _ => rfl
set_option maxRecDepth 100000 in
theorem ab_sv_14_52 : ab_sV RL 52 12 152 2 := ⟨ab_ok152, List.mem_of_getElem? (i := 990) (by decide +kernel), RX12, TX12, 34, rfl, Or.inl ⟨Or.inl (List.mem_of_getElem? (i := 989) (by decide +kernel)), List.mem_of_getElem? (i := 991) (by decide +kernel)⟩⟩
set_option maxRecDepth 100000 in
theorem ab_vk_14_52 : ∀ ci, ab_vk 14 52 ci = 152 := fun _ => rfl
set_option maxRecDepth 100000 in
theorem ab_sv_14_53 : ab_sV RL 53 11 78 2 := ⟨ab_ok78, List.mem_of_getElem? (i := 521) (by decide +kernel), RX11, TX11, 11, rfl, Or.inl ⟨Or.inl (List.mem_of_getElem? (i := 520) (by decide +kernel)), List.mem_of_getElem? (i := 522) (by decide +kernel)⟩⟩
set_option maxRecDepth 100000 in
theorem ab_vk_14_53 : ∀ ci, ab_vk 14 53 ci = 78 := fun _ => rfl
set_option maxRecDepth 100000 in
theorem ab_sv_14_56 : ab_sV RL 56 12 155 2 := ⟨ab_ok155, List.mem_of_getElem? (i := 1002) (by decide +kernel), RX12, TX12, 34, rfl, Or.inl ⟨Or.inl (List.mem_of_getElem? (i := 1001) (by decide +kernel)), List.mem_of_getElem? (i := 1003) (by decide +kernel)⟩⟩
set_option maxRecDepth 100000 in
theorem ab_vk_14_56 : ∀ ci, ab_vk 14 56 ci = 155 := fun _ => rfl
set_option maxRecDepth 100000 in
theorem ab_sv_14_57 : ab_sV RL 57 11 79 3 := ⟨ab_ok79, List.mem_of_getElem? (i := 495) (by decide +kernel), RX11, TX11, 11, rfl, Or.inl ⟨Or.inl (List.mem_of_getElem? (i := 540) (by decide +kernel)), List.mem_of_getElem? (i := 496) (by decide +kernel)⟩⟩
set_option maxRecDepth 100000 in
theorem ab_vk_14_57 : ∀ ci, ab_vk 14 57 ci = 79 := fun _ => rfl
set_option maxRecDepth 100000 in
theorem ab_sv_14_60 : ab_sV RL 60 12 153 3 := ⟨ab_ok153, List.mem_of_getElem? (i := 998) (by decide +kernel), RX12, TX12, 34, rfl, Or.inl ⟨Or.inl (List.mem_of_getElem? (i := 997) (by decide +kernel)), List.mem_of_getElem? (i := 999) (by decide +kernel)⟩⟩
set_option maxRecDepth 100000 in
theorem ab_vk_14_60 : ∀ ci, ab_vk 14 60 ci = 153 := fun _ => rfl
set_option maxRecDepth 100000 in
theorem ab_sv_14_61 : ab_sV RL 61 11 80 1 := ⟨ab_ok80, List.mem_of_getElem? (i := 542) (by decide +kernel), RX11, TX11, 11, rfl, Or.inl ⟨Or.inl (List.mem_of_getElem? (i := 541) (by decide +kernel)), List.mem_of_getElem? (i := 543) (by decide +kernel)⟩⟩
set_option maxRecDepth 100000 in
theorem ab_vk_14_61 : ∀ ci, ab_vk 14 61 ci = 80 := fun _ => rfl
set_option maxRecDepth 100000 in
theorem ab_sv_14_64 : ab_sV RL 64 12 156 1 := ⟨ab_ok156, List.mem_of_getElem? (i := 1010) (by decide +kernel), RX12, TX12, 34, rfl, Or.inl ⟨Or.inl (List.mem_of_getElem? (i := 1009) (by decide +kernel)), List.mem_of_getElem? (i := 1011) (by decide +kernel)⟩⟩
set_option maxRecDepth 100000 in
theorem ab_vk_14_64 : ∀ ci, ab_vk 14 64 ci = 156 := fun _ => rfl
set_option maxRecDepth 100000 in
theorem ab_sv_14_65 : ab_sV RL 65 11 81 1 := ⟨ab_ok81, List.mem_of_getElem? (i := 550) (by decide +kernel), RX11, TX11, 11, rfl, Or.inl ⟨Or.inl (List.mem_of_getElem? (i := 549) (by decide +kernel)), List.mem_of_getElem? (i := 551) (by decide +kernel)⟩⟩
set_option maxRecDepth 100000 in
theorem ab_vk_14_65 : ∀ ci, ab_vk 14 65 ci = 81 := fun _ => rfl
set_option maxRecDepth 100000 in
theorem ab_sv_14_68 : ab_sV RL 68 12 165 1 := ⟨ab_ok165, List.mem_of_getElem? (i := 1014) (by decide +kernel), RX12, TX12, 34, rfl, Or.inl ⟨Or.inl (List.mem_of_getElem? (i := 1013) (by decide +kernel)), List.mem_of_getElem? (i := 1015) (by decide +kernel)⟩⟩
set_option maxRecDepth 100000 in
theorem ab_vk_14_68 : ∀ ci, ab_vk 14 68 ci = 165 := fun _ => rfl
set_option maxRecDepth 100000 in
theorem ab_sv_14_69 : ab_sV RL 69 11 82 3 := ⟨ab_ok82, List.mem_of_getElem? (i := 621) (by decide +kernel), RX11, TX11, 11, rfl, Or.inl ⟨Or.inl (List.mem_of_getElem? (i := 620) (by decide +kernel)), List.mem_of_getElem? (i := 622) (by decide +kernel)⟩⟩
set_option maxRecDepth 100000 in
theorem ab_vk_14_69 : ∀ ci, ab_vk 14 69 ci = 82 := fun _ => rfl
set_option maxRecDepth 100000 in
theorem ab_sv_14_72 : ab_sV RL 72 12 167 3 := ⟨ab_ok167, List.mem_of_getElem? (i := 1053) (by decide +kernel), RX12, TX12, 34, rfl, Or.inl ⟨Or.inl (List.mem_of_getElem? (i := 1052) (by decide +kernel)), List.mem_of_getElem? (i := 1054) (by decide +kernel)⟩⟩
set_option maxRecDepth 100000 in
theorem ab_vk_14_72 : ∀ ci, ab_vk 14 72 ci = 167 := fun _ => rfl
set_option maxRecDepth 100000 in
theorem ab_sv_14_73 : ab_sV RL 73 11 83 1 := ⟨ab_ok83, List.mem_of_getElem? (i := 625) (by decide +kernel), RX11, TX11, 11, rfl, Or.inl ⟨Or.inl (List.mem_of_getElem? (i := 624) (by decide +kernel)), List.mem_of_getElem? (i := 626) (by decide +kernel)⟩⟩
set_option maxRecDepth 100000 in
theorem ab_vk_14_73 : ∀ ci, ab_vk 14 73 ci = 83 := fun _ => rfl
set_option maxRecDepth 100000 in
theorem ab_sv_14_76 : ab_sV RL 76 12 168 1 := ⟨ab_ok168, List.mem_of_getElem? (i := 1061) (by decide +kernel), RX12, TX12, 34, rfl, Or.inl ⟨Or.inl (List.mem_of_getElem? (i := 1060) (by decide +kernel)), List.mem_of_getElem? (i := 1062) (by decide +kernel)⟩⟩
set_option maxRecDepth 100000 in
theorem ab_vk_14_76 : ∀ ci, ab_vk 14 76 ci = 168 := fun _ => rfl
set_option maxRecDepth 100000 in
theorem ab_sv_14_77 : ab_sV RL 77 11 84 2 := ⟨ab_ok84, List.mem_of_getElem? (i := 629) (by decide +kernel), RX11, TX11, 11, rfl, Or.inl ⟨Or.inl (List.mem_of_getElem? (i := 628) (by decide +kernel)), List.mem_of_getElem? (i := 630) (by decide +kernel)⟩⟩
set_option maxRecDepth 100000 in
theorem ab_vk_14_77 : ∀ ci, ab_vk 14 77 ci = 84 := fun _ => rfl
set_option maxRecDepth 100000 in
theorem ab_sv_14_80 : ab_sV RL 80 12 170 2 := ⟨ab_ok170, List.mem_of_getElem? (i := 1065) (by decide +kernel), RX12, TX12, 34, rfl, Or.inl ⟨Or.inl (List.mem_of_getElem? (i := 1064) (by decide +kernel)), List.mem_of_getElem? (i := 1066) (by decide +kernel)⟩⟩
set_option maxRecDepth 100000 in
theorem ab_vk_14_80 : ∀ ci, ab_vk 14 80 ci = 170 := fun _ => rfl
set_option maxRecDepth 100000 in
theorem ab_sv_14_81 : ab_sV RL 81 11 85 3 := ⟨ab_ok85, List.mem_of_getElem? (i := 637) (by decide +kernel), RX11, TX11, 11, rfl, Or.inl ⟨Or.inl (List.mem_of_getElem? (i := 636) (by decide +kernel)), List.mem_of_getElem? (i := 638) (by decide +kernel)⟩⟩
set_option maxRecDepth 100000 in
theorem ab_vk_14_81 : ∀ ci, ab_vk 14 81 ci = 85 := fun _ => rfl
set_option maxRecDepth 100000 in
theorem ab_sv_14_84 : ab_sV RL 84 12 171 3 := ⟨ab_ok171, List.mem_of_getElem? (i := 1073) (by decide +kernel), RX12, TX12, 34, rfl, Or.inl ⟨Or.inl (List.mem_of_getElem? (i := 1072) (by decide +kernel)), List.mem_of_getElem? (i := 1074) (by decide +kernel)⟩⟩
set_option maxRecDepth 100000 in
theorem ab_vk_14_84 : ∀ ci, ab_vk 14 84 ci = 171 := fun _ => rfl
set_option maxRecDepth 100000 in
theorem ab_sv_14_85 : ab_sV RL 85 11 86 2 := ⟨ab_ok86, List.mem_of_getElem? (i := 641) (by decide +kernel), RX11, TX11, 11, rfl, Or.inl ⟨Or.inl (List.mem_of_getElem? (i := 640) (by decide +kernel)), List.mem_of_getElem? (i := 642) (by decide +kernel)⟩⟩
set_option maxRecDepth 100000 in
theorem ab_vk_14_85 : ∀ ci, ab_vk 14 85 ci = 86 := fun _ => rfl
set_option maxRecDepth 100000 in
theorem ab_sv_14_88 : ab_sV RL 88 12 172 2 := ⟨ab_ok172, List.mem_of_getElem? (i := 1077) (by decide +kernel), RX12, TX12, 34, rfl, Or.inl ⟨Or.inl (List.mem_of_getElem? (i := 1076) (by decide +kernel)), List.mem_of_getElem? (i := 1078) (by decide +kernel)⟩⟩
set_option maxRecDepth 100000 in
theorem ab_vk_14_88 : ∀ ci, ab_vk 14 88 ci = 172 := fun _ => rfl
set_option maxRecDepth 100000 in
theorem ab_sv_14_89 : ab_sV RL 89 11 87 3 := ⟨ab_ok87, List.mem_of_getElem? (i := 645) (by decide +kernel), RX11, TX11, 11, rfl, Or.inl ⟨Or.inl (List.mem_of_getElem? (i := 644) (by decide +kernel)), List.mem_of_getElem? (i := 646) (by decide +kernel)⟩⟩
set_option maxRecDepth 100000 in
theorem ab_vk_14_89 : ∀ ci, ab_vk 14 89 ci = 87 := fun _ => rfl
set_option maxRecDepth 100000 in
theorem ab_sv_14_92 : ab_sV RL 92 12 173 3 := ⟨ab_ok173, List.mem_of_getElem? (i := 1085) (by decide +kernel), RX12, TX12, 34, rfl, Or.inl ⟨Or.inl (List.mem_of_getElem? (i := 1084) (by decide +kernel)), List.mem_of_getElem? (i := 1086) (by decide +kernel)⟩⟩
set_option maxRecDepth 100000 in
theorem ab_vk_14_92 : ∀ ci, ab_vk 14 92 ci = 173 := fun _ => rfl
set_option maxRecDepth 100000 in
theorem ab_sv_14_93 : ab_sV RL 93 11 88 2 := ⟨ab_ok88, List.mem_of_getElem? (i := 649) (by decide +kernel), RX11, TX11, 11, rfl, Or.inl ⟨Or.inl (List.mem_of_getElem? (i := 648) (by decide +kernel)), List.mem_of_getElem? (i := 650) (by decide +kernel)⟩⟩
set_option maxRecDepth 100000 in
theorem ab_vk_14_93 : ∀ ci, ab_vk 14 93 ci = 88 := fun _ => rfl
set_option maxRecDepth 100000 in
theorem ab_sv_14_96 : ab_sV RL 96 12 174 2 := ⟨ab_ok174, List.mem_of_getElem? (i := 1089) (by decide +kernel), RX12, TX12, 34, rfl, Or.inl ⟨Or.inl (List.mem_of_getElem? (i := 1088) (by decide +kernel)), List.mem_of_getElem? (i := 1090) (by decide +kernel)⟩⟩
set_option maxRecDepth 100000 in
theorem ab_vk_14_96 : ∀ ci, ab_vk 14 96 ci = 174 := fun _ => rfl
set_option maxRecDepth 100000 in
theorem ab_sv_14_97 : ab_sV RL 97 11 89 1 := ⟨ab_ok89, List.mem_of_getElem? (i := 657) (by decide +kernel), RX11, TX11, 11, rfl, Or.inl ⟨Or.inl (List.mem_of_getElem? (i := 656) (by decide +kernel)), List.mem_of_getElem? (i := 658) (by decide +kernel)⟩⟩
set_option maxRecDepth 100000 in
theorem ab_vk_14_97 : ∀ ci, ab_vk 14 97 ci = 89 := fun _ => rfl
set_option maxRecDepth 100000 in
theorem ab_sv_14_100 : ab_sV RL 100 12 175 1 := ⟨ab_ok175, List.mem_of_getElem? (i := 1093) (by decide +kernel), RX12, TX12, 34, rfl, Or.inl ⟨Or.inl (List.mem_of_getElem? (i := 1092) (by decide +kernel)), List.mem_of_getElem? (i := 1094) (by decide +kernel)⟩⟩
set_option maxRecDepth 100000 in
theorem ab_vk_14_100 : ∀ ci, ab_vk 14 100 ci = 175 := fun _ => rfl
set_option maxRecDepth 100000 in
theorem ab_sv_14_101 : ab_sV RL 101 11 90 4 := ⟨ab_ok90, List.mem_of_getElem? (i := 669) (by decide +kernel), RX11, TX11, 11, rfl, Or.inl ⟨Or.inl (List.mem_of_getElem? (i := 668) (by decide +kernel)), List.mem_of_getElem? (i := 670) (by decide +kernel)⟩⟩
set_option maxRecDepth 100000 in
theorem ab_vk_14_101 : ∀ ci, ab_vk 14 101 ci = 90 := fun _ => rfl
set_option maxRecDepth 100000 in
theorem ab_sv_14_105 : ab_sV RL 105 12 177 4 := ⟨ab_ok177, List.mem_of_getElem? (i := 1101) (by decide +kernel), RX12, TX12, 34, rfl, Or.inl ⟨Or.inl (List.mem_of_getElem? (i := 1100) (by decide +kernel)), List.mem_of_getElem? (i := 1102) (by decide +kernel)⟩⟩
set_option maxRecDepth 100000 in
theorem ab_vk_14_105 : ∀ ci, ab_vk 14 105 ci = 177 := fun _ => rfl
set_option maxRecDepth 100000 in
theorem ab_sv_14_106 : ab_sV RL 106 11 91 2 := ⟨ab_ok91, List.mem_of_getElem? (i := 682) (by decide +kernel), RX11, TX11, 11, rfl, Or.inl ⟨Or.inl (List.mem_of_getElem? (i := 681) (by decide +kernel)), List.mem_of_getElem? (i := 683) (by decide +kernel)⟩⟩
set_option maxRecDepth 100000 in
theorem ab_vk_14_106 : ∀ ci, ab_vk 14 106 ci = 91 := fun _ => rfl
set_option maxRecDepth 100000 in
theorem ab_sv_14_109 : ab_sV RL 109 12 178 2 := ⟨ab_ok178, List.mem_of_getElem? (i := 1111) (by decide +kernel), RX12, TX12, 34, rfl, Or.inl ⟨Or.inl (List.mem_of_getElem? (i := 1110) (by decide +kernel)), List.mem_of_getElem? (i := 1112) (by decide +kernel)⟩⟩
set_option maxRecDepth 100000 in
theorem ab_vk_14_109 : ∀ ci, ab_vk 14 109 ci = 178 := fun _ => rfl
set_option maxRecDepth 100000 in
theorem ab_sv_14_110 : ab_sV RL 110 11 92 2 := ⟨ab_ok92, List.mem_of_getElem? (i := 689) (by decide +kernel), RX11, TX11, 11, rfl, Or.inl ⟨Or.inl (List.mem_of_getElem? (i := 688) (by decide +kernel)), List.mem_of_getElem? (i := 690) (by decide +kernel)⟩⟩
set_option maxRecDepth 100000 in
theorem ab_vk_14_110 : ∀ ci, ab_vk 14 110 ci = 92 := fun _ => rfl
set_option maxRecDepth 100000 in
theorem ab_sv_14_113 : ab_sV RL 113 12 180 2 := ⟨ab_ok180, List.mem_of_getElem? (i := 1115) (by decide +kernel), RX12, TX12, 34, rfl, Or.inl ⟨Or.inl (List.mem_of_getElem? (i := 1114) (by decide +kernel)), List.mem_of_getElem? (i := 1116) (by decide +kernel)⟩⟩
set_option maxRecDepth 100000 in
theorem ab_vk_14_113 : ∀ ci, ab_vk 14 113 ci = 180 := fun _ => rfl
set_option maxRecDepth 100000 in
theorem ab_sv_14_114 : ab_sV RL 114 11 93 1 := ⟨ab_ok93, List.mem_of_getElem? (i := 701) (by decide +kernel), RX11, TX11, 11, rfl, Or.inl ⟨Or.inl (List.mem_of_getElem? (i := 700) (by decide +kernel)), List.mem_of_getElem? (i := 702) (by decide +kernel)⟩⟩
set_option maxRecDepth 100000 in
theorem ab_vk_14_114 : ∀ ci, ab_vk 14 114 ci = 93 := fun _ => rfl
set_option maxRecDepth 100000 in
theorem ab_sv_14_117 : ab_sV RL 117 12 183 1 := ⟨ab_ok183, List.mem_of_getElem? (i := 1123) (by decide +kernel), RX12, TX12, 34, rfl, Or.inl ⟨Or.inl (List.mem_of_getElem? (i := 1122) (by decide +kernel)), List.mem_of_getElem? (i := 1124) (by decide +kernel)⟩⟩
set_option maxRecDepth 100000 in
theorem ab_vk_14_117 : ∀ ci, ab_vk 14 117 ci = 183 := fun _ => rfl
set_option maxRecDepth 100000 in
theorem ab_sv_14_118 : ab_sV RL 118 11 94 1 := ⟨ab_ok94, List.mem_of_getElem? (i := 721) (by decide +kernel), RX11, TX11, 11, rfl, Or.inl ⟨Or.inl (List.mem_of_getElem? (i := 720) (by decide +kernel)), List.mem_of_getElem? (i := 722) (by decide +kernel)⟩⟩
set_option maxRecDepth 100000 in
theorem ab_vk_14_118 : ∀ ci, ab_vk 14 118 ci = 94 := fun _ => rfl
set_option maxRecDepth 100000 in
theorem ab_sv_14_121 : ab_sV RL 121 12 184 1 := ⟨ab_ok184, List.mem_of_getElem? (i := 1135) (by decide +kernel), RX12, TX12, 34, rfl, Or.inl ⟨Or.inl (List.mem_of_getElem? (i := 1134) (by decide +kernel)), List.mem_of_getElem? (i := 1136) (by decide +kernel)⟩⟩
set_option maxRecDepth 100000 in
theorem ab_vk_14_121 : ∀ ci, ab_vk 14 121 ci = 184 := fun _ => rfl
set_option maxRecDepth 100000 in
theorem ab_sv_14_122 : ab_sV RL 122 11 95 2 := ⟨ab_ok95, List.mem_of_getElem? (i := 725) (by decide +kernel), RX11, TX11, 11, rfl, Or.inl ⟨Or.inl (List.mem_of_getElem? (i := 724) (by decide +kernel)), List.mem_of_getElem? (i := 726) (by decide +kernel)⟩⟩
set_option maxRecDepth 100000 in
theorem ab_vk_14_122 : ∀ ci, ab_vk 14 122 ci = 95 := fun _ => rfl
set_option maxRecDepth 100000 in
theorem ab_sv_14_125 : ab_sV RL 125 12 186 2 := ⟨ab_ok186, List.mem_of_getElem? (i := 1139) (by decide +kernel), RX12, TX12, 34, rfl, Or.inl ⟨Or.inl (List.mem_of_getElem? (i := 1138) (by decide +kernel)), List.mem_of_getElem? (i := 1140) (by decide +kernel)⟩⟩
set_option maxRecDepth 100000 in
theorem ab_vk_14_125 : ∀ ci, ab_vk 14 125 ci = 186 := fun _ => rfl
set_option maxRecDepth 100000 in
theorem ab_sv_14_126 : ab_sV RL 126 11 96 2 := ⟨ab_ok96, List.mem_of_getElem? (i := 729) (by decide +kernel), RX11, TX11, 11, rfl, Or.inl ⟨Or.inl (List.mem_of_getElem? (i := 728) (by decide +kernel)), List.mem_of_getElem? (i := 730) (by decide +kernel)⟩⟩
set_option maxRecDepth 100000 in
theorem ab_vk_14_126 : ∀ ci, ab_vk 14 126 ci = 96 := fun _ => rfl
set_option maxRecDepth 100000 in
theorem ab_sv_14_129 : ab_sV RL 129 12 187 2 := ⟨ab_ok187, List.mem_of_getElem? (i := 1146) (by decide +kernel), RX12, TX12, 34, rfl, Or.inl ⟨Or.inl (List.mem_of_getElem? (i := 1145) (by decide +kernel)), List.mem_of_getElem? (i := 1147) (by decide +kernel)⟩⟩
set_option maxRecDepth 100000 in
theorem ab_vk_14_129 : ∀ ci, ab_vk 14 129 ci = 187 := fun _ => rfl
set_option maxRecDepth 100000 in
theorem ab_cn_14_130 : Cond.constantLong RL 130 (4294967295) ∈ lw_tbl := List.mem_of_getElem? (i := 1169) (by decide +kernel)
set_option maxRecDepth 100000 in
theorem ab_lk_14_130 : ab_lk 14 130 = 1 := by decide +kernel
set_option maxRecDepth 100000 in
theorem ab_sv_14_132 : ab_sV RL 132 11 97 3 := ⟨ab_ok97, List.mem_of_getElem? (i := 733) (by decide +kernel), RX11, TX11, 11, rfl, Or.inl ⟨Or.inl (List.mem_of_getElem? (i := 732) (by decide +kernel)), List.mem_of_getElem? (i := 734) (by decide +kernel)⟩⟩
set_option maxRecDepth 100000 in
theorem ab_vk_14_132 : ∀ ci, ab_vk 14 132 ci = 97 := fun _ => rfl
set_option maxRecDepth 100000 in
theorem ab_sv_14_136 : ab_sV RL 136 12 188 3 := ⟨ab_ok188, List.mem_of_getElem? (i := 1150) (by decide +kernel), RX12, TX12, 34, rfl, Or.inl ⟨Or.inl (List.mem_of_getElem? (i := 1149) (by decide +kernel)), List.mem_of_getElem? (i := 1151) (by decide +kernel)⟩⟩
set_option maxRecDepth 100000 in
theorem ab_vk_14_136 : ∀ ci, ab_vk 14 136 ci = 188 := fun _ => rfl
set_option maxRecDepth 100000 in
theorem ab_sv_14_137 : ab_sV RL 137 11 98 2 := ⟨ab_ok98, List.mem_of_getElem? (i := 737) (by decide +kernel), RX11, TX11, 11, rfl, Or.inl ⟨Or.inl (List.mem_of_getElem? (i := 736) (by decide +kernel)), List.mem_of_getElem? (i := 738) (by decide +kernel)⟩⟩
set_option maxRecDepth 100000 in
theorem ab_vk_14_137 : ∀ ci, ab_vk 14 137 ci = 98 := fun _ => rfl
set_option maxRecDepth 100000 in
theorem ab_sv_14_141 : ab_sV RL 141 12 189 2 := ⟨ab_ok189, List.mem_of_getElem? (i := 1154) (by decide +kernel), RX12, TX12, 34, rfl, Or.inl ⟨Or.inl (List.mem_of_getElem? (i := 1153) (by decide +kernel)), List.mem_of_getElem? (i := 1155) (by decide +kernel)⟩⟩
set_option maxRecDepth 100000 in
theorem ab_vk_14_141 : ∀ ci, ab_vk 14 141 ci = 189 := fun _ => rfl
set_option maxRecDepth 100000 in
theorem ab_sv_14_142 : ab_sV RL 142 11 99 0 := ⟨ab_ok99, List.mem_of_getElem? (i := 741) (by decide +kernel), RX11, TX11, 11, rfl, Or.inl ⟨Or.inl (List.mem_of_getElem? (i := 740) (by decide +kernel)), List.mem_of_getElem? (i := 742) (by decide +kernel)⟩⟩
set_option maxRecDepth 100000 in
theorem ab_vk_14_142 : ∀ ci, ab_vk 14 142 ci = 99 := fun _ => rfl
set_option maxRecDepth 100000 in
theorem ab_sv_14_146 : ab_sV RL 146 12 190 0 := ⟨ab_ok190, List.mem_of_getElem? (i := 1158) (by decide +kernel), RX12, TX12, 34, rfl, Or.inl ⟨Or.inl (List.mem_of_getElem? (i := 1157) (by decide +kernel)), List.mem_of_getElem? (i := 1159) (by decide +kernel)⟩⟩
set_option maxRecDepth 100000 in
theorem ab_vk_14_146 : ∀ ci, ab_vk 14 146 ci = 190 := fun _ => rfl
set_option maxRecDepth 100000 in
theorem ab_sv_14_147 : ab_sV RL 147 11 100 0 := ⟨ab_ok100, List.mem_of_getElem? (i := 751) (by decide +kernel), RX11, TX11, 11, rfl, Or.inl ⟨Or.inl (List.mem_of_getElem? (i := 750) (by decide +kernel)), List.mem_of_getElem? (i := 752) (by decide +kernel)⟩⟩
set_option maxRecDepth 100000 in
theorem ab_vk_14_147 : ∀ ci, ab_vk 14 147 ci = 100 := fun _ => rfl
set_option maxRecDepth 100000 in
theorem ab_sv_14_150 : ab_sV RL 150 12 191 0 := ⟨ab_ok191, List.mem_of_getElem? (i := 1162) (by decide +kernel), RX12, TX12, 34, rfl, Or.inl ⟨Or.inl (List.mem_of_getElem? (i := 1161) (by decide +kernel)), List.mem_of_getElem? (i := 1163) (by decide +kernel)⟩⟩
set_option maxRecDepth 100000 in
theorem ab_vk_14_150 : ∀ ci, ab_vk 14 150 ci = 191 := fun _ => rfl
set_option maxRecDepth 100000 in
theorem ab_sv_14_151 : ab_sV RL 151 11 101 1 := ⟨ab_ok101, List.mem_of_getElem? (i := 755) (by decide +kernel), RX11, TX11, 11, rfl, Or.inl ⟨Or.inl (List.mem_of_getElem? (i := 754) (by decide +kernel)), List.mem_of_getElem? (i := 756) (by decide +kernel)⟩⟩
set_option maxRecDepth 100000 in
theorem ab_vk_14_151 : ∀ ci, ab_vk 14 151 ci = 101 := fun _ => rfl
set_option maxRecDepth 100000 in
theorem ab_sv_14_154 : ab_sV RL 154 12 192 1 := ⟨ab_ok192, List.mem_of_getElem? (i := 1166) (by decide +kernel), RX12, TX12, 34, rfl, Or.inl ⟨Or.inl (List.mem_of_getElem? (i := 1165) (by decide +kernel)), List.mem_of_getElem? (i := 1167) (by decide +kernel)⟩⟩
set_option maxRecDepth 100000 in
theorem ab_vk_14_154 : ∀ ci, ab_vk 14 154 ci = 192 := fun _ => rfl
