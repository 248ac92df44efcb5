set_option maxRecDepth 100000 in
theorem ab_e0 : ab_code 0 = cX0_init := rfl
set_option maxRecDepth 100000 in
theorem ab_e1 : ab_code 1 = cX0_centre := rfl
set_option maxRecDepth 100000 in
theorem ab_e2 : ab_code 2 = cX1_init := rfl
set_option maxRecDepth 100000 in
theorem ab_e3 : ab_code 3 = cX1_slope := rfl
set_option maxRecDepth 100000 in
theorem ab_e4 : ab_code 4 = cX1_centre := rfl
set_option maxRecDepth 100000 in
theorem ab_e5 : ab_code 5 = cX2_init := rfl
set_option maxRecDepth 100000 in
theorem ab_e6 : ab_code 6 = cX2_resize := rfl
set_option maxRecDepth 100000 in
theorem ab_e7 : ab_code 7 = cX2_store := rfl
set_option maxRecDepth 100000 in
theorem ab_e8 : ab_code 8 = cX2_reduce := rfl
set_option maxRecDepth 100000 in
theorem ab_e9 : ab_code 9 = cX2_pivotRow := rfl
set_option maxRecDepth 100000 in
theorem ab_e10 : ab_code 10 = cX2_exchange := rfl
set_option maxRecDepth 100000 in
theorem ab_e11 : ab_code 11 = cX2_multiplyRow := rfl
set_option maxRecDepth 100000 in
theorem ab_e12 : ab_code 12 = cX2_clearColumn := rfl
set_option maxRecDepth 100000 in
theorem ab_e13 : ab_code 13 = cX2_nullNumber := rfl
set_option maxRecDepth 100000 in
theorem ab_e14 : ab_code 14 = cX2_freeColumn := rfl
set_option maxRecDepth 100000 in
theorem ab_e15 : ab_code 15 = cX2_rawNullNumber := rfl
set_option maxRecDepth 100000 in
theorem ab_e16 : ab_code 16 = cX3_init := rfl
set_option maxRecDepth 100000 in
theorem ab_e17 : ab_code 17 = cX3_kindOf := rfl
set_option maxRecDepth 100000 in
theorem ab_e18 : ab_code 18 = cX3_made := rfl
set_option maxRecDepth 100000 in
theorem ab_e19 : ab_code 19 = cX3_formed := rfl
set_option maxRecDepth 100000 in
theorem ab_e20 : ab_code 20 = cX3_build := rfl
set_option maxRecDepth 100000 in
theorem ab_e21 : ab_code 21 = cX3_isBuilt := rfl
set_option maxRecDepth 100000 in
theorem ab_e22 : ab_code 22 = cX3_fillActs := rfl
set_option maxRecDepth 100000 in
theorem ab_e23 : ab_code 23 = cX3_joined := rfl
set_option maxRecDepth 100000 in
theorem ab_e24 : ab_code 24 = cX3_exchanged := rfl
set_option maxRecDepth 100000 in
theorem ab_e25 : ab_code 25 = cX3_fillForms := rfl
set_option maxRecDepth 100000 in
theorem ab_e26 : ab_code 26 = cX3_move := rfl
set_option maxRecDepth 100000 in
theorem ab_e27 : ab_code 27 = cX3_productOf := rfl
set_option maxRecDepth 100000 in
theorem ab_e28 : ab_code 28 = cX3_reducedForms := rfl
set_option maxRecDepth 100000 in
theorem ab_e29 : ab_code 29 = cX3_reducedLowerings := rfl
set_option maxRecDepth 100000 in
theorem ab_e30 : ab_code 30 = cX4_init := rfl
set_option maxRecDepth 100000 in
theorem ab_e31 : ab_code 31 = cX4_copyFrom := rfl
set_option maxRecDepth 100000 in
theorem ab_e32 : ab_code 32 = cX4_filledNumbers := rfl
set_option maxRecDepth 100000 in
theorem ab_e33 : ab_code 33 = cX5_init := rfl
set_option maxRecDepth 100000 in
theorem ab_e34 : ab_code 34 = cX5_slope := rfl
set_option maxRecDepth 100000 in
theorem ab_e35 : ab_code 35 = cX5_centre := rfl
set_option maxRecDepth 100000 in
theorem ab_e36 : ab_code 36 = cX6_init := rfl
set_option maxRecDepth 100000 in
theorem ab_e37 : ab_code 37 = cX6_learn := rfl
set_option maxRecDepth 100000 in
theorem ab_e38 : ab_code 38 = cX6_extend := rfl
set_option maxRecDepth 100000 in
theorem ab_e39 : ab_code 39 = cX6_howMany := rfl
set_option maxRecDepth 100000 in
theorem ab_e40 : ab_code 40 = cX6_weight := rfl
set_option maxRecDepth 100000 in
theorem ab_e41 : ab_code 41 = cX7_init := rfl
set_option maxRecDepth 100000 in
theorem ab_e42 : ab_code 42 = cX7_clear := rfl
set_option maxRecDepth 100000 in
theorem ab_e43 : ab_code 43 = cX7_append := rfl
set_option maxRecDepth 100000 in
theorem ab_e44 : ab_code 44 = cX7_fault := rfl
set_option maxRecDepth 100000 in
theorem ab_e45 : ab_code 45 = cX7_next := rfl
set_option maxRecDepth 100000 in
theorem ab_e46 : ab_code 46 = cX7_modeBegun := rfl
set_option maxRecDepth 100000 in
theorem ab_e47 : ab_code 47 = cX7_isFigure := rfl
set_option maxRecDepth 100000 in
theorem ab_e48 : ab_code 48 = cX7_rewind := rfl
set_option maxRecDepth 100000 in
theorem ab_e49 : ab_code 49 = cX7_nextTerm := rfl
set_option maxRecDepth 100000 in
theorem ab_e50 : ab_code 50 = cX7_addMode := rfl
set_option maxRecDepth 100000 in
theorem ab_e51 : ab_code 51 = cX7_termLevel := rfl
set_option maxRecDepth 100000 in
theorem ab_e52 : ab_code 52 = cX7_appendTerms := rfl
set_option maxRecDepth 100000 in
theorem ab_e53 : ab_code 53 = cX7_appendTerm := rfl
set_option maxRecDepth 100000 in
theorem ab_e54 : ab_code 54 = cX7_appendNumber := rfl
set_option maxRecDepth 100000 in
theorem ab_e55 : ab_code 55 = cX8_init := rfl
set_option maxRecDepth 100000 in
theorem ab_e56 : ab_code 56 = cX8_slope := rfl
set_option maxRecDepth 100000 in
theorem ab_e57 : ab_code 57 = cX8_centre := rfl
set_option maxRecDepth 100000 in
theorem ab_e58 : ab_code 58 = cX9_init := rfl
set_option maxRecDepth 100000 in
theorem ab_e59 : ab_code 59 = cX9_centre := rfl
set_option maxRecDepth 100000 in
theorem ab_e60 : ab_code 60 = cX10_init := rfl
set_option maxRecDepth 100000 in
theorem ab_e61 : ab_code 61 = cX10_copyFrom := rfl
set_option maxRecDepth 100000 in
theorem ab_e62 : ab_code 62 = cX10_becomeZero := rfl
set_option maxRecDepth 100000 in
theorem ab_e63 : ab_code 63 = cX10_becomeBasis := rfl
set_option maxRecDepth 100000 in
theorem ab_e64 : ab_code 64 = cX10_addTimes := rfl
set_option maxRecDepth 100000 in
theorem ab_e65 : ab_code 65 = cX10_multiply := rfl
set_option maxRecDepth 100000 in
theorem ab_e66 : ab_code 66 = cX10_filled := rfl
set_option maxRecDepth 100000 in
theorem ab_e67 : ab_code 67 = cX10_isZero := rfl
set_option maxRecDepth 100000 in
theorem ab_e68 : ab_code 68 = cX11_init := rfl
set_option maxRecDepth 100000 in
theorem ab_e69 : ab_code 69 = cX11_set := rfl
set_option maxRecDepth 100000 in
theorem ab_e70 : ab_code 70 = cX11_of := rfl
set_option maxRecDepth 100000 in
theorem ab_e71 : ab_code 71 = cX11_bracket := rfl
set_option maxRecDepth 100000 in
theorem ab_e72 : ab_code 72 = cX11_partition := rfl
set_option maxRecDepth 100000 in
theorem ab_e73 : ab_code 73 = cX11_act := rfl
set_option maxRecDepth 100000 in
theorem ab_e74 : ab_code 74 = cX11_form := rfl
set_option maxRecDepth 100000 in
theorem ab_e75 : ab_code 75 = cX11_determinant := rfl
set_option maxRecDepth 100000 in
theorem ab_e76 : ab_code 76 = cX11_rank := rfl
set_option maxRecDepth 100000 in
theorem ab_e77 : ab_code 77 = cX11_zeros := rfl
set_option maxRecDepth 100000 in
theorem ab_e78 : ab_code 78 = cX11_vanishing := rfl
set_option maxRecDepth 100000 in
theorem ab_e79 : ab_code 79 = cX11_were := rfl
set_option maxRecDepth 100000 in
theorem ab_e80 : ab_code 80 = cX11_feed := rfl
set_option maxRecDepth 100000 in
theorem ab_e81 : ab_code 81 = cX11_read := rfl
set_option maxRecDepth 100000 in
theorem ab_e82 : ab_code 82 = cX11_become := rfl
set_option maxRecDepth 100000 in
theorem ab_e83 : ab_code 83 = cX11_level := rfl
set_option maxRecDepth 100000 in
theorem ab_e84 : ab_code 84 = cX11_coordinate := rfl
set_option maxRecDepth 100000 in
theorem ab_e85 : ab_code 85 = cX11_put := rfl
set_option maxRecDepth 100000 in
theorem ab_e86 : ab_code 86 = cX11_raise := rfl
set_option maxRecDepth 100000 in
theorem ab_e87 : ab_code 87 = cX11_add := rfl
set_option maxRecDepth 100000 in
theorem ab_e88 : ab_code 88 = cX11_product := rfl
set_option maxRecDepth 100000 in
theorem ab_e89 : ab_code 89 = cX11_isLowest := rfl
set_option maxRecDepth 100000 in
theorem ab_e90 : ab_code 90 = cX11_odds := rfl
set_option maxRecDepth 100000 in
theorem ab_e91 : ab_code 91 = cX11_plan := rfl
set_option maxRecDepth 100000 in
theorem ab_e92 : ab_code 92 = cX11_behind := rfl
set_option maxRecDepth 100000 in
theorem ab_e93 : ab_code 93 = cX11_write := rfl
set_option maxRecDepth 100000 in
theorem ab_e94 : ab_code 94 = cX11_paper := rfl
set_option maxRecDepth 100000 in
theorem ab_e95 : ab_code 95 = cX11_judge := rfl
set_option maxRecDepth 100000 in
theorem ab_e96 : ab_code 96 = cX11_list := rfl
set_option maxRecDepth 100000 in
theorem ab_e97 : ab_code 97 = cX11_lay := rfl
set_option maxRecDepth 100000 in
theorem ab_e98 : ab_code 98 = cX11_get := rfl
set_option maxRecDepth 100000 in
theorem ab_e99 : ab_code 99 = cX11_image := rfl
set_option maxRecDepth 100000 in
theorem ab_e100 : ab_code 100 = cX11_undo := rfl
set_option maxRecDepth 100000 in
theorem ab_e101 : ab_code 101 = cX11_count := rfl
set_option maxRecDepth 100000 in
theorem ab_e102 : ab_code 102 = cX11_isWithin := rfl
set_option maxRecDepth 100000 in
theorem ab_e103 : ab_code 103 = cX11_isMode := rfl
set_option maxRecDepth 100000 in
theorem ab_e104 : ab_code 104 = cX11_isLevel := rfl
set_option maxRecDepth 100000 in
theorem ab_e105 : ab_code 105 = cX11_isBasis := rfl
set_option maxRecDepth 100000 in
theorem ab_e106 : ab_code 106 = cX11_isVector := rfl
set_option maxRecDepth 100000 in
theorem ab_e107 : ab_code 107 = cX11_hasNumber := rfl
set_option maxRecDepth 100000 in
theorem ab_e108 : ab_code 108 = cX11_isRowNumber := rfl
set_option maxRecDepth 100000 in
theorem ab_e109 : ab_code 109 = cX11_part := rfl
set_option maxRecDepth 100000 in
theorem ab_e110 : ab_code 110 = cX11_modulo := rfl
set_option maxRecDepth 100000 in
theorem ab_e111 : ab_code 111 = cX11_inverse := rfl
set_option maxRecDepth 100000 in
theorem ab_e112 : ab_code 112 = cX11_commonDivisor := rfl
set_option maxRecDepth 100000 in
theorem ab_e113 : ab_code 113 = cX11_sumOfTerms := rfl
set_option maxRecDepth 100000 in
theorem ab_e114 : ab_code 114 = cX11_addTerm := rfl
set_option maxRecDepth 100000 in
theorem ab_e115 : ab_code 115 = cX11_endsAsZero := rfl
set_option maxRecDepth 100000 in
theorem ab_e116 : ab_code 116 = cX11_doRow := rfl
set_option maxRecDepth 100000 in
theorem ab_e117 : ab_code 117 = cX12_init := rfl
set_option maxRecDepth 100000 in
theorem ab_e118 : ab_code 118 = cX12_follows := rfl
set_option maxRecDepth 100000 in
theorem ab_e119 : ab_code 119 = cX12_in := rfl
set_option maxRecDepth 100000 in
theorem ab_e120 : ab_code 120 = cX12_mod := rfl
set_option maxRecDepth 100000 in
theorem ab_e121 : ab_code 121 = cX12_inverse := rfl
set_option maxRecDepth 100000 in
theorem ab_e122 : ab_code 122 = cX12_isLevel := rfl
set_option maxRecDepth 100000 in
theorem ab_e123 : ab_code 123 = cX12_isMode := rfl
set_option maxRecDepth 100000 in
theorem ab_e124 : ab_code 124 = cX12_many := rfl
set_option maxRecDepth 100000 in
theorem ab_e125 : ab_code 125 = cX12_isOf := rfl
set_option maxRecDepth 100000 in
theorem ab_e126 : ab_code 126 = cX12_isVector := rfl
set_option maxRecDepth 100000 in
theorem ab_e127 : ab_code 127 = cX12_set := rfl
set_option maxRecDepth 100000 in
theorem ab_e128 : ab_code 128 = cX12_of := rfl
set_option maxRecDepth 100000 in
theorem ab_e129 : ab_code 129 = cX12_slope := rfl
set_option maxRecDepth 100000 in
theorem ab_e130 : ab_code 130 = cX12_centre := rfl
set_option maxRecDepth 100000 in
theorem ab_e131 : ab_code 131 = cX12_bracket := rfl
set_option maxRecDepth 100000 in
theorem ab_e132 : ab_code 132 = cX12_row := rfl
set_option maxRecDepth 100000 in
theorem ab_e133 : ab_code 133 = cX12_placeOf := rfl
set_option maxRecDepth 100000 in
theorem ab_e134 : ab_code 134 = cX12_addsTo := rfl
set_option maxRecDepth 100000 in
theorem ab_e135 : ab_code 135 = cX12_lays := rfl
set_option maxRecDepth 100000 in
theorem ab_e136 : ab_code 136 = cX12_layAll := rfl
set_option maxRecDepth 100000 in
theorem ab_e137 : ab_code 137 = cX12_thinks := rfl
set_option maxRecDepth 100000 in
theorem ab_e138 : ab_code 138 = cX12_thinksOf := rfl
set_option maxRecDepth 100000 in
theorem ab_e139 : ab_code 139 = cX12_goes := rfl
set_option maxRecDepth 100000 in
theorem ab_e140 : ab_code 140 = cX12_isNought := rfl
set_option maxRecDepth 100000 in
theorem ab_e141 : ab_code 141 = cX12_partition := rfl
set_option maxRecDepth 100000 in
theorem ab_e142 : ab_code 142 = cX12_act := rfl
set_option maxRecDepth 100000 in
theorem ab_e143 : ab_code 143 = cX12_formOf := rfl
set_option maxRecDepth 100000 in
theorem ab_e144 : ab_code 144 = cX12_form := rfl
set_option maxRecDepth 100000 in
theorem ab_e145 : ab_code 145 = cX12_changes := rfl
set_option maxRecDepth 100000 in
theorem ab_e146 : ab_code 146 = cX12_clears := rfl
set_option maxRecDepth 100000 in
theorem ab_e147 : ab_code 147 = cX12_steps := rfl
set_option maxRecDepth 100000 in
theorem ab_e148 : ab_code 148 = cX12_layForms := rfl
set_option maxRecDepth 100000 in
theorem ab_e149 : ab_code 149 = cX12_determinant := rfl
set_option maxRecDepth 100000 in
theorem ab_e150 : ab_code 150 = cX12_rank := rfl
set_option maxRecDepth 100000 in
theorem ab_e151 : ab_code 151 = cX12_weighs := rfl
set_option maxRecDepth 100000 in
theorem ab_e152 : ab_code 152 = cX12_zeros := rfl
set_option maxRecDepth 100000 in
theorem ab_e153 : ab_code 153 = cX12_were := rfl
set_option maxRecDepth 100000 in
theorem ab_e154 : ab_code 154 = cX12_layLowering := rfl
set_option maxRecDepth 100000 in
theorem ab_e155 : ab_code 155 = cX12_vanishing := rfl
set_option maxRecDepth 100000 in
theorem ab_e156 : ab_code 156 = cX12_feed := rfl
set_option maxRecDepth 100000 in
theorem ab_e157 : ab_code 157 = cX12_takes := rfl
set_option maxRecDepth 100000 in
theorem ab_e158 : ab_code 158 = cX12_isHere := rfl
set_option maxRecDepth 100000 in
theorem ab_e159 : ab_code 159 = cX12_readNumber := rfl
set_option maxRecDepth 100000 in
theorem ab_e160 : ab_code 160 = cX12_readMode := rfl
set_option maxRecDepth 100000 in
theorem ab_e161 : ab_code 161 = cX12_readTerm := rfl
set_option maxRecDepth 100000 in
theorem ab_e162 : ab_code 162 = cX12_readTerms := rfl
set_option maxRecDepth 100000 in
theorem ab_e163 : ab_code 163 = cX12_levelOfTerm := rfl
set_option maxRecDepth 100000 in
theorem ab_e164 : ab_code 164 = cX12_termDone := rfl
set_option maxRecDepth 100000 in
theorem ab_e165 : ab_code 165 = cX12_read := rfl
set_option maxRecDepth 100000 in
theorem ab_e166 : ab_code 166 = cX12_becomesThought := rfl
set_option maxRecDepth 100000 in
theorem ab_e167 : ab_code 167 = cX12_become := rfl
set_option maxRecDepth 100000 in
theorem ab_e168 : ab_code 168 = cX12_level := rfl
set_option maxRecDepth 100000 in
theorem ab_e169 : ab_code 169 = cX12_isCoordinate := rfl
set_option maxRecDepth 100000 in
theorem ab_e170 : ab_code 170 = cX12_coordinate := rfl
set_option maxRecDepth 100000 in
theorem ab_e171 : ab_code 171 = cX12_put := rfl
set_option maxRecDepth 100000 in
theorem ab_e172 : ab_code 172 = cX12_raise := rfl
set_option maxRecDepth 100000 in
theorem ab_e173 : ab_code 173 = cX12_add := rfl
set_option maxRecDepth 100000 in
theorem ab_e174 : ab_code 174 = cX12_product := rfl
set_option maxRecDepth 100000 in
theorem ab_e175 : ab_code 175 = cX12_isLowest := rfl
set_option maxRecDepth 100000 in
theorem ab_e176 : ab_code 176 = cX12_endsAsNought := rfl
set_option maxRecDepth 100000 in
theorem ab_e177 : ab_code 177 = cX12_odds := rfl
set_option maxRecDepth 100000 in
theorem ab_e178 : ab_code 178 = cX12_plan := rfl
set_option maxRecDepth 100000 in
theorem ab_e179 : ab_code 179 = cX12_rowDone := rfl
set_option maxRecDepth 100000 in
theorem ab_e180 : ab_code 180 = cX12_behind := rfl
set_option maxRecDepth 100000 in
theorem ab_e181 : ab_code 181 = cX12_writes := rfl
set_option maxRecDepth 100000 in
theorem ab_e182 : ab_code 182 = cX12_writesNumber := rfl
set_option maxRecDepth 100000 in
theorem ab_e183 : ab_code 183 = cX12_write := rfl
set_option maxRecDepth 100000 in
theorem ab_e184 : ab_code 184 = cX12_paper := rfl
set_option maxRecDepth 100000 in
theorem ab_e185 : ab_code 185 = cX12_isList := rfl
set_option maxRecDepth 100000 in
theorem ab_e186 : ab_code 186 = cX12_judge := rfl
set_option maxRecDepth 100000 in
theorem ab_e187 : ab_code 187 = cX12_list := rfl
set_option maxRecDepth 100000 in
theorem ab_e188 : ab_code 188 = cX12_lay := rfl
set_option maxRecDepth 100000 in
theorem ab_e189 : ab_code 189 = cX12_get := rfl
set_option maxRecDepth 100000 in
theorem ab_e190 : ab_code 190 = cX12_image := rfl
set_option maxRecDepth 100000 in
theorem ab_e191 : ab_code 191 = cX12_undo := rfl
set_option maxRecDepth 100000 in
theorem ab_e192 : ab_code 192 = cX12_count := rfl
set_option maxRecDepth 100000 in
theorem ab_e193 : ab_code 193 = cJ9_floorMod_7cf53 := rfl
set_option maxRecDepth 100000 in
theorem ab_e194 : ab_code 194 = cJ9_max_7cf53 := rfl
set_option maxRecDepth 100000 in
theorem ab_e195 : ab_code 195 = cJ9_min_7cf53 := rfl
set_option maxRecDepth 100000 in
theorem ab_e196 : ab_code 196 = cL_law := rfl
set_option maxRecDepth 100000 in
theorem ab_ok0 : ab_ok 0 0 := ⟨⟨by decide +kernel, by decide +kernel⟩, by decide +kernel, List.mem_of_getElem? (i := 143) (by decide +kernel), List.mem_of_getElem? (i := 59) (by decide +kernel), by decide, by decide +kernel⟩
set_option maxRecDepth 100000 in
theorem ab_ok1 : ab_ok 1 3 := ⟨⟨by decide +kernel, by decide +kernel⟩, by decide +kernel, List.mem_of_getElem? (i := 352) (by decide +kernel), List.mem_of_getElem? (i := 59) (by decide +kernel), by decide, by decide +kernel⟩
set_option maxRecDepth 100000 in
theorem ab_ok2 : ab_ok 2 0 := ⟨⟨by decide +kernel, by decide +kernel⟩, by decide +kernel, List.mem_of_getElem? (i := 136) (by decide +kernel), List.mem_of_getElem? (i := 58) (by decide +kernel), by decide, by decide +kernel⟩
set_option maxRecDepth 100000 in
theorem ab_ok3 : ab_ok 3 2 := ⟨⟨by decide +kernel, by decide +kernel⟩, by decide +kernel, List.mem_of_getElem? (i := 345) (by decide +kernel), List.mem_of_getElem? (i := 58) (by decide +kernel), by decide, by decide +kernel⟩
set_option maxRecDepth 100000 in
theorem ab_ok4 : ab_ok 4 3 := ⟨⟨by decide +kernel, by decide +kernel⟩, by decide +kernel, List.mem_of_getElem? (i := 364) (by decide +kernel), List.mem_of_getElem? (i := 58) (by decide +kernel), by decide, by decide +kernel⟩
set_option maxRecDepth 100000 in
theorem ab_ok5 : ab_ok 5 0 := ⟨⟨by decide +kernel, by decide +kernel⟩, by decide +kernel, List.mem_of_getElem? (i := 171) (by decide +kernel), List.mem_of_getElem? (i := 63) (by decide +kernel), by decide, by decide +kernel⟩
set_option maxRecDepth 100000 in
theorem ab_ok6 : ab_ok 6 2 := ⟨⟨by decide +kernel, by decide +kernel⟩, by decide +kernel, List.mem_of_getElem? (i := 457) (by decide +kernel), List.mem_of_getElem? (i := 63) (by decide +kernel), by decide, by decide +kernel⟩
set_option maxRecDepth 100000 in
theorem ab_ok7 : ab_ok 7 3 := ⟨⟨by decide +kernel, by decide +kernel⟩, by decide +kernel, List.mem_of_getElem? (i := 461) (by decide +kernel), List.mem_of_getElem? (i := 63) (by decide +kernel), by decide, by decide +kernel⟩
set_option maxRecDepth 100000 in
theorem ab_ok8 : ab_ok 8 0 := ⟨⟨by decide +kernel, by decide +kernel⟩, by decide +kernel, List.mem_of_getElem? (i := 465) (by decide +kernel), List.mem_of_getElem? (i := 63) (by decide +kernel), by decide, by decide +kernel⟩
set_option maxRecDepth 100000 in
theorem ab_ok9 : ab_ok 9 1 := ⟨⟨by decide +kernel, by decide +kernel⟩, by decide +kernel, List.mem_of_getElem? (i := 469) (by decide +kernel), List.mem_of_getElem? (i := 63) (by decide +kernel), by decide, by decide +kernel⟩
set_option maxRecDepth 100000 in
theorem ab_ok10 : ab_ok 10 2 := ⟨⟨by decide +kernel, by decide +kernel⟩, by decide +kernel, List.mem_of_getElem? (i := 473) (by decide +kernel), List.mem_of_getElem? (i := 63) (by decide +kernel), by decide, by decide +kernel⟩
set_option maxRecDepth 100000 in
theorem ab_ok11 : ab_ok 11 2 := ⟨⟨by decide +kernel, by decide +kernel⟩, by decide +kernel, List.mem_of_getElem? (i := 481) (by decide +kernel), List.mem_of_getElem? (i := 63) (by decide +kernel), by decide, by decide +kernel⟩
set_option maxRecDepth 100000 in
theorem ab_ok12 : ab_ok 12 2 := ⟨⟨by decide +kernel, by decide +kernel⟩, by decide +kernel, List.mem_of_getElem? (i := 485) (by decide +kernel), List.mem_of_getElem? (i := 63) (by decide +kernel), by decide, by decide +kernel⟩
set_option maxRecDepth 100000 in
theorem ab_ok13 : ab_ok 13 1 := ⟨⟨by decide +kernel, by decide +kernel⟩, by decide +kernel, List.mem_of_getElem? (i := 531) (by decide +kernel), List.mem_of_getElem? (i := 63) (by decide +kernel), by decide, by decide +kernel⟩
set_option maxRecDepth 100000 in
theorem ab_ok14 : ab_ok 14 0 := ⟨⟨by decide +kernel, by decide +kernel⟩, by decide +kernel, List.mem_of_getElem? (i := 535) (by decide +kernel), List.mem_of_getElem? (i := 63) (by decide +kernel), by decide, by decide +kernel⟩
set_option maxRecDepth 100000 in
theorem ab_ok15 : ab_ok 15 2 := ⟨⟨by decide +kernel, by decide +kernel⟩, by decide +kernel, List.mem_of_getElem? (i := 539) (by decide +kernel), List.mem_of_getElem? (i := 63) (by decide +kernel), by decide, by decide +kernel⟩
set_option maxRecDepth 100000 in
theorem ab_ok16 : ab_ok 16 0 := ⟨⟨by decide +kernel, by decide +kernel⟩, by decide +kernel, List.mem_of_getElem? (i := 129) (by decide +kernel), List.mem_of_getElem? (i := 57) (by decide +kernel), by decide, by decide +kernel⟩
set_option maxRecDepth 100000 in
theorem ab_ok17 : ab_ok 17 1 := ⟨⟨by decide +kernel, by decide +kernel⟩, by decide +kernel, List.mem_of_getElem? (i := 329) (by decide +kernel), List.mem_of_getElem? (i := 57) (by decide +kernel), by decide, by decide +kernel⟩
set_option maxRecDepth 100000 in
theorem ab_ok18 : ab_ok 18 2 := ⟨⟨by decide +kernel, by decide +kernel⟩, by decide +kernel, List.mem_of_getElem? (i := 429) (by decide +kernel), List.mem_of_getElem? (i := 57) (by decide +kernel), by decide, by decide +kernel⟩
set_option maxRecDepth 100000 in
theorem ab_ok19 : ab_ok 19 2 := ⟨⟨by decide +kernel, by decide +kernel⟩, by decide +kernel, List.mem_of_getElem? (i := 439) (by decide +kernel), List.mem_of_getElem? (i := 57) (by decide +kernel), by decide, by decide +kernel⟩
set_option maxRecDepth 100000 in
theorem ab_ok20 : ab_ok 20 2 := ⟨⟨by decide +kernel, by decide +kernel⟩, by decide +kernel, List.mem_of_getElem? (i := 402) (by decide +kernel), List.mem_of_getElem? (i := 57) (by decide +kernel), by decide, by decide +kernel⟩
set_option maxRecDepth 100000 in
theorem ab_ok21 : ab_ok 21 1 := ⟨⟨by decide +kernel, by decide +kernel⟩, by decide +kernel, List.mem_of_getElem? (i := 406) (by decide +kernel), List.mem_of_getElem? (i := 57) (by decide +kernel), by decide, by decide +kernel⟩
set_option maxRecDepth 100000 in
theorem ab_ok22 : ab_ok 22 3 := ⟨⟨by decide +kernel, by decide +kernel⟩, by decide +kernel, List.mem_of_getElem? (i := 414) (by decide +kernel), List.mem_of_getElem? (i := 57) (by decide +kernel), by decide, by decide +kernel⟩
set_option maxRecDepth 100000 in
theorem ab_ok23 : ab_ok 23 3 := ⟨⟨by decide +kernel, by decide +kernel⟩, by decide +kernel, List.mem_of_getElem? (i := 418) (by decide +kernel), List.mem_of_getElem? (i := 57) (by decide +kernel), by decide, by decide +kernel⟩
set_option maxRecDepth 100000 in
theorem ab_ok24 : ab_ok 24 3 := ⟨⟨by decide +kernel, by decide +kernel⟩, by decide +kernel, List.mem_of_getElem? (i := 425) (by decide +kernel), List.mem_of_getElem? (i := 57) (by decide +kernel), by decide, by decide +kernel⟩
set_option maxRecDepth 100000 in
theorem ab_ok25 : ab_ok 25 1 := ⟨⟨by decide +kernel, by decide +kernel⟩, by decide +kernel, List.mem_of_getElem? (i := 435) (by decide +kernel), List.mem_of_getElem? (i := 57) (by decide +kernel), by decide, by decide +kernel⟩
set_option maxRecDepth 100000 in
theorem ab_ok26 : ab_ok 26 2 := ⟨⟨by decide +kernel, by decide +kernel⟩, by decide +kernel, List.mem_of_getElem? (i := 605) (by decide +kernel), List.mem_of_getElem? (i := 57) (by decide +kernel), by decide, by decide +kernel⟩
set_option maxRecDepth 100000 in
theorem ab_ok27 : ab_ok 27 2 := ⟨⟨by decide +kernel, by decide +kernel⟩, by decide +kernel, List.mem_of_getElem? (i := 655) (by decide +kernel), List.mem_of_getElem? (i := 57) (by decide +kernel), by decide, by decide +kernel⟩
set_option maxRecDepth 100000 in
theorem ab_ok28 : ab_ok 28 1 := ⟨⟨by decide +kernel, by decide +kernel⟩, by decide +kernel, List.mem_of_getElem? (i := 453) (by decide +kernel), List.mem_of_getElem? (i := 57) (by decide +kernel), by decide, by decide +kernel⟩
set_option maxRecDepth 100000 in
theorem ab_ok29 : ab_ok 29 1 := ⟨⟨by decide +kernel, by decide +kernel⟩, by decide +kernel, List.mem_of_getElem? (i := 527) (by decide +kernel), List.mem_of_getElem? (i := 57) (by decide +kernel), by decide, by decide +kernel⟩
set_option maxRecDepth 100000 in
theorem ab_ok30 : ab_ok 30 0 := ⟨⟨by decide +kernel, by decide +kernel⟩, by decide +kernel, List.mem_of_getElem? (i := 81) (by decide +kernel), List.mem_of_getElem? (i := 55) (by decide +kernel), by decide, by decide +kernel⟩
set_option maxRecDepth 100000 in
theorem ab_ok31 : ab_ok 31 1 := ⟨⟨by decide +kernel, by decide +kernel⟩, by decide +kernel, List.mem_of_getElem? (i := 747) (by decide +kernel), List.mem_of_getElem? (i := 55) (by decide +kernel), by decide, by decide +kernel⟩
set_option maxRecDepth 100000 in
theorem ab_ok32 : ab_ok 32 0 := ⟨⟨by decide +kernel, by decide +kernel⟩, by decide +kernel, List.mem_of_getElem? (i := 761) (by decide +kernel), List.mem_of_getElem? (i := 55) (by decide +kernel), by decide, by decide +kernel⟩
set_option maxRecDepth 100000 in
theorem ab_ok33 : ab_ok 33 0 := ⟨⟨by decide +kernel, by decide +kernel⟩, by decide +kernel, List.mem_of_getElem? (i := 157) (by decide +kernel), List.mem_of_getElem? (i := 61) (by decide +kernel), by decide, by decide +kernel⟩
set_option maxRecDepth 100000 in
theorem ab_ok34 : ab_ok 34 2 := ⟨⟨by decide +kernel, by decide +kernel⟩, by decide +kernel, List.mem_of_getElem? (i := 337) (by decide +kernel), List.mem_of_getElem? (i := 61) (by decide +kernel), by decide, by decide +kernel⟩
set_option maxRecDepth 100000 in
theorem ab_ok35 : ab_ok 35 3 := ⟨⟨by decide +kernel, by decide +kernel⟩, by decide +kernel, List.mem_of_getElem? (i := 355) (by decide +kernel), List.mem_of_getElem? (i := 61) (by decide +kernel), by decide, by decide +kernel⟩
set_option maxRecDepth 100000 in
theorem ab_ok36 : ab_ok 36 0 := ⟨⟨by decide +kernel, by decide +kernel⟩, by decide +kernel, List.mem_of_getElem? (i := 222) (by decide +kernel), List.mem_of_getElem? (i := 64) (by decide +kernel), by decide, by decide +kernel⟩
set_option maxRecDepth 100000 in
theorem ab_ok37 : ab_ok 37 3 := ⟨⟨by decide +kernel, by decide +kernel⟩, by decide +kernel, List.mem_of_getElem? (i := 501) (by decide +kernel), List.mem_of_getElem? (i := 64) (by decide +kernel), by decide, by decide +kernel⟩
set_option maxRecDepth 100000 in
theorem ab_ok38 : ab_ok 38 2 := ⟨⟨by decide +kernel, by decide +kernel⟩, by decide +kernel, List.mem_of_getElem? (i := 510) (by decide +kernel), List.mem_of_getElem? (i := 64) (by decide +kernel), by decide, by decide +kernel⟩
set_option maxRecDepth 100000 in
theorem ab_ok39 : ab_ok 39 2 := ⟨⟨by decide +kernel, by decide +kernel⟩, by decide +kernel, List.mem_of_getElem? (i := 515) (by decide +kernel), List.mem_of_getElem? (i := 64) (by decide +kernel), by decide, by decide +kernel⟩
set_option maxRecDepth 100000 in
theorem ab_ok40 : ab_ok 40 3 := ⟨⟨by decide +kernel, by decide +kernel⟩, by decide +kernel, List.mem_of_getElem? (i := 519) (by decide +kernel), List.mem_of_getElem? (i := 64) (by decide +kernel), by decide, by decide +kernel⟩
set_option maxRecDepth 100000 in
theorem ab_ok41 : ab_ok 41 1 := ⟨⟨by decide +kernel, by decide +kernel⟩, by decide +kernel, List.mem_of_getElem? (i := 242) (by decide +kernel), List.mem_of_getElem? (i := 65) (by decide +kernel), by decide, by decide +kernel⟩
set_option maxRecDepth 100000 in
theorem ab_ok42 : ab_ok 42 0 := ⟨⟨by decide +kernel, by decide +kernel⟩, by decide +kernel, List.mem_of_getElem? (i := 619) (by decide +kernel), List.mem_of_getElem? (i := 65) (by decide +kernel), by decide, by decide +kernel⟩
set_option maxRecDepth 100000 in
theorem ab_ok43 : ab_ok 43 1 := ⟨⟨by decide +kernel, by decide +kernel⟩, by decide +kernel, List.mem_of_getElem? (i := 548) (by decide +kernel), List.mem_of_getElem? (i := 65) (by decide +kernel), by decide, by decide +kernel⟩
set_option maxRecDepth 100000 in
theorem ab_ok44 : ab_ok 44 0 := ⟨⟨by decide +kernel, by decide +kernel⟩, by decide +kernel, List.mem_of_getElem? (i := 559) (by decide +kernel), List.mem_of_getElem? (i := 65) (by decide +kernel), by decide, by decide +kernel⟩
set_option maxRecDepth 100000 in
theorem ab_ok45 : ab_ok 45 2 := ⟨⟨by decide +kernel, by decide +kernel⟩, by decide +kernel, List.mem_of_getElem? (i := 562) (by decide +kernel), List.mem_of_getElem? (i := 65) (by decide +kernel), by decide, by decide +kernel⟩
set_option maxRecDepth 100000 in
theorem ab_ok46 : ab_ok 46 1 := ⟨⟨by decide +kernel, by decide +kernel⟩, by decide +kernel, List.mem_of_getElem? (i := 568) (by decide +kernel), List.mem_of_getElem? (i := 65) (by decide +kernel), by decide, by decide +kernel⟩
set_option maxRecDepth 100000 in
theorem ab_ok47 : ab_ok 47 3 := ⟨⟨by decide +kernel, by decide +kernel⟩, by decide +kernel, List.mem_of_getElem? (i := 565) (by decide +kernel), List.mem_of_getElem? (i := 65) (by decide +kernel), by decide, by decide +kernel⟩
set_option maxRecDepth 100000 in
theorem ab_ok48 : ab_ok 48 0 := ⟨⟨by decide +kernel, by decide +kernel⟩, by decide +kernel, List.mem_of_getElem? (i := 576) (by decide +kernel), List.mem_of_getElem? (i := 65) (by decide +kernel), by decide, by decide +kernel⟩
set_option maxRecDepth 100000 in
theorem ab_ok49 : ab_ok 49 0 := ⟨⟨by decide +kernel, by decide +kernel⟩, by decide +kernel, List.mem_of_getElem? (i := 580) (by decide +kernel), List.mem_of_getElem? (i := 65) (by decide +kernel), by decide, by decide +kernel⟩
set_option maxRecDepth 100000 in
theorem ab_ok50 : ab_ok 50 1 := ⟨⟨by decide +kernel, by decide +kernel⟩, by decide +kernel, List.mem_of_getElem? (i := 584) (by decide +kernel), List.mem_of_getElem? (i := 65) (by decide +kernel), by decide, by decide +kernel⟩
set_option maxRecDepth 100000 in
theorem ab_ok51 : ab_ok 51 0 := ⟨⟨by decide +kernel, by decide +kernel⟩, by decide +kernel, List.mem_of_getElem? (i := 588) (by decide +kernel), List.mem_of_getElem? (i := 65) (by decide +kernel), by decide, by decide +kernel⟩
set_option maxRecDepth 100000 in
theorem ab_ok52 : ab_ok 52 1 := ⟨⟨by decide +kernel, by decide +kernel⟩, by decide +kernel, List.mem_of_getElem? (i := 707) (by decide +kernel), List.mem_of_getElem? (i := 65) (by decide +kernel), by decide, by decide +kernel⟩
set_option maxRecDepth 100000 in
theorem ab_ok53 : ab_ok 53 2 := ⟨⟨by decide +kernel, by decide +kernel⟩, by decide +kernel, List.mem_of_getElem? (i := 712) (by decide +kernel), List.mem_of_getElem? (i := 65) (by decide +kernel), by decide, by decide +kernel⟩
set_option maxRecDepth 100000 in
theorem ab_ok54 : ab_ok 54 1 := ⟨⟨by decide +kernel, by decide +kernel⟩, by decide +kernel, List.mem_of_getElem? (i := 717) (by decide +kernel), List.mem_of_getElem? (i := 65) (by decide +kernel), by decide, by decide +kernel⟩
set_option maxRecDepth 100000 in
theorem ab_ok55 : ab_ok 55 0 := ⟨⟨by decide +kernel, by decide +kernel⟩, by decide +kernel, List.mem_of_getElem? (i := 150) (by decide +kernel), List.mem_of_getElem? (i := 60) (by decide +kernel), by decide, by decide +kernel⟩
set_option maxRecDepth 100000 in
theorem ab_ok56 : ab_ok 56 2 := ⟨⟨by decide +kernel, by decide +kernel⟩, by decide +kernel, List.mem_of_getElem? (i := 340) (by decide +kernel), List.mem_of_getElem? (i := 60) (by decide +kernel), by decide, by decide +kernel⟩
set_option maxRecDepth 100000 in
theorem ab_ok57 : ab_ok 57 3 := ⟨⟨by decide +kernel, by decide +kernel⟩, by decide +kernel, List.mem_of_getElem? (i := 358) (by decide +kernel), List.mem_of_getElem? (i := 60) (by decide +kernel), by decide, by decide +kernel⟩
set_option maxRecDepth 100000 in
theorem ab_ok58 : ab_ok 58 0 := ⟨⟨by decide +kernel, by decide +kernel⟩, by decide +kernel, List.mem_of_getElem? (i := 164) (by decide +kernel), List.mem_of_getElem? (i := 62) (by decide +kernel), by decide, by decide +kernel⟩
set_option maxRecDepth 100000 in
theorem ab_ok59 : ab_ok 59 3 := ⟨⟨by decide +kernel, by decide +kernel⟩, by decide +kernel, List.mem_of_getElem? (i := 362) (by decide +kernel), List.mem_of_getElem? (i := 62) (by decide +kernel), by decide, by decide +kernel⟩
set_option maxRecDepth 100000 in
theorem ab_ok60 : ab_ok 60 0 := ⟨⟨by decide +kernel, by decide +kernel⟩, by decide +kernel, List.mem_of_getElem? (i := 88) (by decide +kernel), List.mem_of_getElem? (i := 56) (by decide +kernel), by decide, by decide +kernel⟩
set_option maxRecDepth 100000 in
theorem ab_ok61 : ab_ok 61 1 := ⟨⟨by decide +kernel, by decide +kernel⟩, by decide +kernel, List.mem_of_getElem? (i := 614) (by decide +kernel), List.mem_of_getElem? (i := 56) (by decide +kernel), by decide, by decide +kernel⟩
set_option maxRecDepth 100000 in
theorem ab_ok62 : ab_ok 62 1 := ⟨⟨by decide +kernel, by decide +kernel⟩, by decide +kernel, List.mem_of_getElem? (i := 592) (by decide +kernel), List.mem_of_getElem? (i := 56) (by decide +kernel), by decide, by decide +kernel⟩
set_option maxRecDepth 100000 in
theorem ab_ok63 : ab_ok 63 2 := ⟨⟨by decide +kernel, by decide +kernel⟩, by decide +kernel, List.mem_of_getElem? (i := 600) (by decide +kernel), List.mem_of_getElem? (i := 56) (by decide +kernel), by decide, by decide +kernel⟩
set_option maxRecDepth 100000 in
theorem ab_ok64 : ab_ok 64 2 := ⟨⟨by decide +kernel, by decide +kernel⟩, by decide +kernel, List.mem_of_getElem? (i := 610) (by decide +kernel), List.mem_of_getElem? (i := 56) (by decide +kernel), by decide, by decide +kernel⟩
set_option maxRecDepth 100000 in
theorem ab_ok65 : ab_ok 65 1 := ⟨⟨by decide +kernel, by decide +kernel⟩, by decide +kernel, List.mem_of_getElem? (i := 699) (by decide +kernel), List.mem_of_getElem? (i := 56) (by decide +kernel), by decide, by decide +kernel⟩
set_option maxRecDepth 100000 in
theorem ab_ok66 : ab_ok 66 0 := ⟨⟨by decide +kernel, by decide +kernel⟩, by decide +kernel, List.mem_of_getElem? (i := 667) (by decide +kernel), List.mem_of_getElem? (i := 56) (by decide +kernel), by decide, by decide +kernel⟩
set_option maxRecDepth 100000 in
theorem ab_ok67 : ab_ok 67 0 := ⟨⟨by decide +kernel, by decide +kernel⟩, by decide +kernel, List.mem_of_getElem? (i := 663) (by decide +kernel), List.mem_of_getElem? (i := 56) (by decide +kernel), by decide, by decide +kernel⟩
set_option maxRecDepth 100000 in
theorem ab_ok68 : ab_ok 68 0 := ⟨⟨by decide +kernel, by decide +kernel⟩, by decide +kernel, List.mem_of_getElem? (i := 73) (by decide +kernel), List.mem_of_getElem? (i := 54) (by decide +kernel), by decide, by decide +kernel⟩
set_option maxRecDepth 100000 in
theorem ab_ok69 : ab_ok 69 2 := ⟨⟨by decide +kernel, by decide +kernel⟩, by decide +kernel, List.mem_of_getElem? (i := 311) (by decide +kernel), List.mem_of_getElem? (i := 54) (by decide +kernel), by decide, by decide +kernel⟩
set_option maxRecDepth 100000 in
theorem ab_ok70 : ab_ok 70 1 := ⟨⟨by decide +kernel, by decide +kernel⟩, by decide +kernel, List.mem_of_getElem? (i := 318) (by decide +kernel), List.mem_of_getElem? (i := 54) (by decide +kernel), by decide, by decide +kernel⟩
set_option maxRecDepth 100000 in
theorem ab_ok71 : ab_ok 71 3 := ⟨⟨by decide +kernel, by decide +kernel⟩, by decide +kernel, List.mem_of_getElem? (i := 322) (by decide +kernel), List.mem_of_getElem? (i := 54) (by decide +kernel), by decide, by decide +kernel⟩
set_option maxRecDepth 100000 in
theorem ab_ok72 : ab_ok 72 3 := ⟨⟨by decide +kernel, by decide +kernel⟩, by decide +kernel, List.mem_of_getElem? (i := 374) (by decide +kernel), List.mem_of_getElem? (i := 54) (by decide +kernel), by decide, by decide +kernel⟩
set_option maxRecDepth 100000 in
theorem ab_ok73 : ab_ok 73 4 := ⟨⟨by decide +kernel, by decide +kernel⟩, by decide +kernel, List.mem_of_getElem? (i := 395) (by decide +kernel), List.mem_of_getElem? (i := 54) (by decide +kernel), by decide, by decide +kernel⟩
set_option maxRecDepth 100000 in
theorem ab_ok74 : ab_ok 74 3 := ⟨⟨by decide +kernel, by decide +kernel⟩, by decide +kernel, List.mem_of_getElem? (i := 444) (by decide +kernel), List.mem_of_getElem? (i := 54) (by decide +kernel), by decide, by decide +kernel⟩
set_option maxRecDepth 100000 in
theorem ab_ok75 : ab_ok 75 1 := ⟨⟨by decide +kernel, by decide +kernel⟩, by decide +kernel, List.mem_of_getElem? (i := 449) (by decide +kernel), List.mem_of_getElem? (i := 54) (by decide +kernel), by decide, by decide +kernel⟩
set_option maxRecDepth 100000 in
theorem ab_ok76 : ab_ok 76 1 := ⟨⟨by decide +kernel, by decide +kernel⟩, by decide +kernel, List.mem_of_getElem? (i := 489) (by decide +kernel), List.mem_of_getElem? (i := 54) (by decide +kernel), by decide, by decide +kernel⟩
set_option maxRecDepth 100000 in
theorem ab_ok77 : ab_ok 77 2 := ⟨⟨by decide +kernel, by decide +kernel⟩, by decide +kernel, List.mem_of_getElem? (i := 493) (by decide +kernel), List.mem_of_getElem? (i := 54) (by decide +kernel), by decide, by decide +kernel⟩
set_option maxRecDepth 100000 in
theorem ab_ok78 : ab_ok 78 2 := ⟨⟨by decide +kernel, by decide +kernel⟩, by decide +kernel, List.mem_of_getElem? (i := 523) (by decide +kernel), List.mem_of_getElem? (i := 54) (by decide +kernel), by decide, by decide +kernel⟩
set_option maxRecDepth 100000 in
theorem ab_ok79 : ab_ok 79 3 := ⟨⟨by decide +kernel, by decide +kernel⟩, by decide +kernel, List.mem_of_getElem? (i := 497) (by decide +kernel), List.mem_of_getElem? (i := 54) (by decide +kernel), by decide, by decide +kernel⟩
set_option maxRecDepth 100000 in
theorem ab_ok80 : ab_ok 80 1 := ⟨⟨by decide +kernel, by decide +kernel⟩, by decide +kernel, List.mem_of_getElem? (i := 544) (by decide +kernel), List.mem_of_getElem? (i := 54) (by decide +kernel), by decide, by decide +kernel⟩
set_option maxRecDepth 100000 in
theorem ab_ok81 : ab_ok 81 1 := ⟨⟨by decide +kernel, by decide +kernel⟩, by decide +kernel, List.mem_of_getElem? (i := 552) (by decide +kernel), List.mem_of_getElem? (i := 54) (by decide +kernel), by decide, by decide +kernel⟩
set_option maxRecDepth 100000 in
theorem ab_ok82 : ab_ok 82 3 := ⟨⟨by decide +kernel, by decide +kernel⟩, by decide +kernel, List.mem_of_getElem? (i := 623) (by decide +kernel), List.mem_of_getElem? (i := 54) (by decide +kernel), by decide, by decide +kernel⟩
set_option maxRecDepth 100000 in
theorem ab_ok83 : ab_ok 83 1 := ⟨⟨by decide +kernel, by decide +kernel⟩, by decide +kernel, List.mem_of_getElem? (i := 627) (by decide +kernel), List.mem_of_getElem? (i := 54) (by decide +kernel), by decide, by decide +kernel⟩
set_option maxRecDepth 100000 in
theorem ab_ok84 : ab_ok 84 2 := ⟨⟨by decide +kernel, by decide +kernel⟩, by decide +kernel, List.mem_of_getElem? (i := 631) (by decide +kernel), List.mem_of_getElem? (i := 54) (by decide +kernel), by decide, by decide +kernel⟩
set_option maxRecDepth 100000 in
theorem ab_ok85 : ab_ok 85 3 := ⟨⟨by decide +kernel, by decide +kernel⟩, by decide +kernel, List.mem_of_getElem? (i := 639) (by decide +kernel), List.mem_of_getElem? (i := 54) (by decide +kernel), by decide, by decide +kernel⟩
set_option maxRecDepth 100000 in
theorem ab_ok86 : ab_ok 86 2 := ⟨⟨by decide +kernel, by decide +kernel⟩, by decide +kernel, List.mem_of_getElem? (i := 643) (by decide +kernel), List.mem_of_getElem? (i := 54) (by decide +kernel), by decide, by decide +kernel⟩
set_option maxRecDepth 100000 in
theorem ab_ok87 : ab_ok 87 3 := ⟨⟨by decide +kernel, by decide +kernel⟩, by decide +kernel, List.mem_of_getElem? (i := 647) (by decide +kernel), List.mem_of_getElem? (i := 54) (by decide +kernel), by decide, by decide +kernel⟩
set_option maxRecDepth 100000 in
theorem ab_ok88 : ab_ok 88 2 := ⟨⟨by decide +kernel, by decide +kernel⟩, by decide +kernel, List.mem_of_getElem? (i := 651) (by decide +kernel), List.mem_of_getElem? (i := 54) (by decide +kernel), by decide, by decide +kernel⟩
set_option maxRecDepth 100000 in
theorem ab_ok89 : ab_ok 89 1 := ⟨⟨by decide +kernel, by decide +kernel⟩, by decide +kernel, List.mem_of_getElem? (i := 659) (by decide +kernel), List.mem_of_getElem? (i := 54) (by decide +kernel), by decide, by decide +kernel⟩
set_option maxRecDepth 100000 in
theorem ab_ok90 : ab_ok 90 4 := ⟨⟨by decide +kernel, by decide +kernel⟩, by decide +kernel, List.mem_of_getElem? (i := 671) (by decide +kernel), List.mem_of_getElem? (i := 54) (by decide +kernel), by decide, by decide +kernel⟩
set_option maxRecDepth 100000 in
theorem ab_ok91 : ab_ok 91 2 := ⟨⟨by decide +kernel, by decide +kernel⟩, by decide +kernel, List.mem_of_getElem? (i := 684) (by decide +kernel), List.mem_of_getElem? (i := 54) (by decide +kernel), by decide, by decide +kernel⟩
set_option maxRecDepth 100000 in
theorem ab_ok92 : ab_ok 92 2 := ⟨⟨by decide +kernel, by decide +kernel⟩, by decide +kernel, List.mem_of_getElem? (i := 691) (by decide +kernel), List.mem_of_getElem? (i := 54) (by decide +kernel), by decide, by decide +kernel⟩
set_option maxRecDepth 100000 in
theorem ab_ok93 : ab_ok 93 1 := ⟨⟨by decide +kernel, by decide +kernel⟩, by decide +kernel, List.mem_of_getElem? (i := 703) (by decide +kernel), List.mem_of_getElem? (i := 54) (by decide +kernel), by decide, by decide +kernel⟩
set_option maxRecDepth 100000 in
theorem ab_ok94 : ab_ok 94 1 := ⟨⟨by decide +kernel, by decide +kernel⟩, by decide +kernel, List.mem_of_getElem? (i := 723) (by decide +kernel), List.mem_of_getElem? (i := 54) (by decide +kernel), by decide, by decide +kernel⟩
set_option maxRecDepth 100000 in
theorem ab_ok95 : ab_ok 95 2 := ⟨⟨by decide +kernel, by decide +kernel⟩, by decide +kernel, List.mem_of_getElem? (i := 727) (by decide +kernel), List.mem_of_getElem? (i := 54) (by decide +kernel), by decide, by decide +kernel⟩
set_option maxRecDepth 100000 in
theorem ab_ok96 : ab_ok 96 2 := ⟨⟨by decide +kernel, by decide +kernel⟩, by decide +kernel, List.mem_of_getElem? (i := 731) (by decide +kernel), List.mem_of_getElem? (i := 54) (by decide +kernel), by decide, by decide +kernel⟩
set_option maxRecDepth 100000 in
theorem ab_ok97 : ab_ok 97 3 := ⟨⟨by decide +kernel, by decide +kernel⟩, by decide +kernel, List.mem_of_getElem? (i := 735) (by decide +kernel), List.mem_of_getElem? (i := 54) (by decide +kernel), by decide, by decide +kernel⟩
set_option maxRecDepth 100000 in
theorem ab_ok98 : ab_ok 98 2 := ⟨⟨by decide +kernel, by decide +kernel⟩, by decide +kernel, List.mem_of_getElem? (i := 739) (by decide +kernel), List.mem_of_getElem? (i := 54) (by decide +kernel), by decide, by decide +kernel⟩
set_option maxRecDepth 100000 in
theorem ab_ok99 : ab_ok 99 0 := ⟨⟨by decide +kernel, by decide +kernel⟩, by decide +kernel, List.mem_of_getElem? (i := 743) (by decide +kernel), List.mem_of_getElem? (i := 54) (by decide +kernel), by decide, by decide +kernel⟩
set_option maxRecDepth 100000 in
theorem ab_ok100 : ab_ok 100 0 := ⟨⟨by decide +kernel, by decide +kernel⟩, by decide +kernel, List.mem_of_getElem? (i := 753) (by decide +kernel), List.mem_of_getElem? (i := 54) (by decide +kernel), by decide, by decide +kernel⟩
set_option maxRecDepth 100000 in
theorem ab_ok101 : ab_ok 101 1 := ⟨⟨by decide +kernel, by decide +kernel⟩, by decide +kernel, List.mem_of_getElem? (i := 757) (by decide +kernel), List.mem_of_getElem? (i := 54) (by decide +kernel), by decide, by decide +kernel⟩
set_option maxRecDepth 100000 in
theorem ab_ok102 : ab_ok 102 2 := ⟨⟨by decide +kernel, by decide +kernel⟩, by decide +kernel, List.mem_of_getElem? (i := 314) (by decide +kernel), List.mem_of_getElem? (i := 54) (by decide +kernel), by decide, by decide +kernel⟩
set_option maxRecDepth 100000 in
theorem ab_ok103 : ab_ok 103 1 := ⟨⟨by decide +kernel, by decide +kernel⟩, by decide +kernel, List.mem_of_getElem? (i := 325) (by decide +kernel), List.mem_of_getElem? (i := 54) (by decide +kernel), by decide, by decide +kernel⟩
set_option maxRecDepth 100000 in
theorem ab_ok104 : ab_ok 104 1 := ⟨⟨by decide +kernel, by decide +kernel⟩, by decide +kernel, List.mem_of_getElem? (i := 380) (by decide +kernel), List.mem_of_getElem? (i := 54) (by decide +kernel), by decide, by decide +kernel⟩
set_option maxRecDepth 100000 in
theorem ab_ok105 : ab_ok 105 2 := ⟨⟨by decide +kernel, by decide +kernel⟩, by decide +kernel, List.mem_of_getElem? (i := 377) (by decide +kernel), List.mem_of_getElem? (i := 54) (by decide +kernel), by decide, by decide +kernel⟩
set_option maxRecDepth 100000 in
theorem ab_ok106 : ab_ok 106 1 := ⟨⟨by decide +kernel, by decide +kernel⟩, by decide +kernel, List.mem_of_getElem? (i := 555) (by decide +kernel), List.mem_of_getElem? (i := 54) (by decide +kernel), by decide, by decide +kernel⟩
set_option maxRecDepth 100000 in
theorem ab_ok107 : ab_ok 107 2 := ⟨⟨by decide +kernel, by decide +kernel⟩, by decide +kernel, List.mem_of_getElem? (i := 635) (by decide +kernel), List.mem_of_getElem? (i := 54) (by decide +kernel), by decide, by decide +kernel⟩
set_option maxRecDepth 100000 in
theorem ab_ok108 : ab_ok 108 2 := ⟨⟨by decide +kernel, by decide +kernel⟩, by decide +kernel, List.mem_of_getElem? (i := 687) (by decide +kernel), List.mem_of_getElem? (i := 54) (by decide +kernel), by decide, by decide +kernel⟩
set_option maxRecDepth 100000 in
theorem ab_ok109 : ab_ok 109 2 := ⟨⟨by decide +kernel, by decide +kernel⟩, by decide +kernel, List.mem_of_getElem? (i := 387) (by decide +kernel), List.mem_of_getElem? (i := 54) (by decide +kernel), by decide, by decide +kernel⟩
set_option maxRecDepth 100000 in
theorem ab_ok110 : ab_ok 110 1 := ⟨⟨by decide +kernel, by decide +kernel⟩, by decide +kernel, List.mem_of_getElem? (i := 367) (by decide +kernel), List.mem_of_getElem? (i := 54) (by decide +kernel), by decide, by decide +kernel⟩
set_option maxRecDepth 100000 in
theorem ab_ok111 : ab_ok 111 1 := ⟨⟨by decide +kernel, by decide +kernel⟩, by decide +kernel, List.mem_of_getElem? (i := 477) (by decide +kernel), List.mem_of_getElem? (i := 54) (by decide +kernel), by decide, by decide +kernel⟩
set_option maxRecDepth 100000 in
theorem ab_ok112 : ab_ok 112 2 := ⟨⟨by decide +kernel, by decide +kernel⟩, by decide +kernel, List.mem_of_getElem? (i := 680) (by decide +kernel), List.mem_of_getElem? (i := 54) (by decide +kernel), by decide, by decide +kernel⟩
set_option maxRecDepth 100000 in
theorem ab_ok113 : ab_ok 113 0 := ⟨⟨by decide +kernel, by decide +kernel⟩, by decide +kernel, List.mem_of_getElem? (i := 572) (by decide +kernel), List.mem_of_getElem? (i := 54) (by decide +kernel), by decide, by decide +kernel⟩
set_option maxRecDepth 100000 in
theorem ab_ok114 : ab_ok 114 0 := ⟨⟨by decide +kernel, by decide +kernel⟩, by decide +kernel, List.mem_of_getElem? (i := 596) (by decide +kernel), List.mem_of_getElem? (i := 54) (by decide +kernel), by decide, by decide +kernel⟩
set_option maxRecDepth 100000 in
theorem ab_ok115 : ab_ok 115 2 := ⟨⟨by decide +kernel, by decide +kernel⟩, by decide +kernel, List.mem_of_getElem? (i := 676) (by decide +kernel), List.mem_of_getElem? (i := 54) (by decide +kernel), by decide, by decide +kernel⟩
set_option maxRecDepth 100000 in
theorem ab_ok116 : ab_ok 116 2 := ⟨⟨by decide +kernel, by decide +kernel⟩, by decide +kernel, List.mem_of_getElem? (i := 695) (by decide +kernel), List.mem_of_getElem? (i := 54) (by decide +kernel), by decide, by decide +kernel⟩
set_option maxRecDepth 100000 in
theorem ab_ok117 : ab_ok 117 0 := ⟨⟨by decide +kernel, by decide +kernel⟩, by decide +kernel, List.mem_of_getElem? (i := 767) (by decide +kernel), List.mem_of_getElem? (i := 66) (by decide +kernel), by decide, by decide +kernel⟩
set_option maxRecDepth 100000 in
theorem ab_ok118 : ab_ok 118 1 := ⟨⟨by decide +kernel, by decide +kernel⟩, by decide +kernel, List.mem_of_getElem? (i := 772) (by decide +kernel), List.mem_of_getElem? (i := 66) (by decide +kernel), by decide, by decide +kernel⟩
set_option maxRecDepth 100000 in
theorem ab_ok119 : ab_ok 119 3 := ⟨⟨by decide +kernel, by decide +kernel⟩, by decide +kernel, List.mem_of_getElem? (i := 885) (by decide +kernel), List.mem_of_getElem? (i := 66) (by decide +kernel), by decide, by decide +kernel⟩
set_option maxRecDepth 100000 in
theorem ab_ok120 : ab_ok 120 1 := ⟨⟨by decide +kernel, by decide +kernel⟩, by decide +kernel, List.mem_of_getElem? (i := 903) (by decide +kernel), List.mem_of_getElem? (i := 66) (by decide +kernel), by decide, by decide +kernel⟩
set_option maxRecDepth 100000 in
theorem ab_ok121 : ab_ok 121 1 := ⟨⟨by decide +kernel, by decide +kernel⟩, by decide +kernel, List.mem_of_getElem? (i := 980) (by decide +kernel), List.mem_of_getElem? (i := 66) (by decide +kernel), by decide, by decide +kernel⟩
set_option maxRecDepth 100000 in
theorem ab_ok122 : ab_ok 122 1 := ⟨⟨by decide +kernel, by decide +kernel⟩, by decide +kernel, List.mem_of_getElem? (i := 918) (by decide +kernel), List.mem_of_getElem? (i := 66) (by decide +kernel), by decide, by decide +kernel⟩
set_option maxRecDepth 100000 in
theorem ab_ok123 : ab_ok 123 1 := ⟨⟨by decide +kernel, by decide +kernel⟩, by decide +kernel, List.mem_of_getElem? (i := 896) (by decide +kernel), List.mem_of_getElem? (i := 66) (by decide +kernel), by decide, by decide +kernel⟩
set_option maxRecDepth 100000 in
theorem ab_ok124 : ab_ok 124 1 := ⟨⟨by decide +kernel, by decide +kernel⟩, by decide +kernel, List.mem_of_getElem? (i := 922) (by decide +kernel), List.mem_of_getElem? (i := 66) (by decide +kernel), by decide, by decide +kernel⟩
set_option maxRecDepth 100000 in
theorem ab_ok125 : ab_ok 125 2 := ⟨⟨by decide +kernel, by decide +kernel⟩, by decide +kernel, List.mem_of_getElem? (i := 915) (by decide +kernel), List.mem_of_getElem? (i := 66) (by decide +kernel), by decide, by decide +kernel⟩
set_option maxRecDepth 100000 in
theorem ab_ok126 : ab_ok 126 1 := ⟨⟨by decide +kernel, by decide +kernel⟩, by decide +kernel, List.mem_of_getElem? (i := 1019) (by decide +kernel), List.mem_of_getElem? (i := 66) (by decide +kernel), by decide, by decide +kernel⟩
set_option maxRecDepth 100000 in
theorem ab_ok127 : ab_ok 127 2 := ⟨⟨by decide +kernel, by decide +kernel⟩, by decide +kernel, List.mem_of_getElem? (i := 882) (by decide +kernel), List.mem_of_getElem? (i := 66) (by decide +kernel), by decide, by decide +kernel⟩
set_option maxRecDepth 100000 in
theorem ab_ok128 : ab_ok 128 1 := ⟨⟨by decide +kernel, by decide +kernel⟩, by decide +kernel, List.mem_of_getElem? (i := 889) (by decide +kernel), List.mem_of_getElem? (i := 66) (by decide +kernel), by decide, by decide +kernel⟩
set_option maxRecDepth 100000 in
theorem ab_ok129 : ab_ok 129 2 := ⟨⟨by decide +kernel, by decide +kernel⟩, by decide +kernel, List.mem_of_getElem? (i := 900) (by decide +kernel), List.mem_of_getElem? (i := 66) (by decide +kernel), by decide, by decide +kernel⟩
set_option maxRecDepth 100000 in
theorem ab_ok130 : ab_ok 130 1 := ⟨⟨by decide +kernel, by decide +kernel⟩, by decide +kernel, List.mem_of_getElem? (i := 907) (by decide +kernel), List.mem_of_getElem? (i := 66) (by decide +kernel), by decide, by decide +kernel⟩
set_option maxRecDepth 100000 in
theorem ab_ok131 : ab_ok 131 3 := ⟨⟨by decide +kernel, by decide +kernel⟩, by decide +kernel, List.mem_of_getElem? (i := 893) (by decide +kernel), List.mem_of_getElem? (i := 66) (by decide +kernel), by decide, by decide +kernel⟩
set_option maxRecDepth 100000 in
theorem ab_ok132 : ab_ok 132 2 := ⟨⟨by decide +kernel, by decide +kernel⟩, by decide +kernel, List.mem_of_getElem? (i := 937) (by decide +kernel), List.mem_of_getElem? (i := 66) (by decide +kernel), by decide, by decide +kernel⟩
set_option maxRecDepth 100000 in
theorem ab_ok133 : ab_ok 133 3 := ⟨⟨by decide +kernel, by decide +kernel⟩, by decide +kernel, List.mem_of_getElem? (i := 941) (by decide +kernel), List.mem_of_getElem? (i := 66) (by decide +kernel), by decide, by decide +kernel⟩
set_option maxRecDepth 100000 in
theorem ab_ok134 : ab_ok 134 4 := ⟨⟨by decide +kernel, by decide +kernel⟩, by decide +kernel, List.mem_of_getElem? (i := 945) (by decide +kernel), List.mem_of_getElem? (i := 66) (by decide +kernel), by decide, by decide +kernel⟩
set_option maxRecDepth 100000 in
theorem ab_ok135 : ab_ok 135 2 := ⟨⟨by decide +kernel, by decide +kernel⟩, by decide +kernel, List.mem_of_getElem? (i := 934) (by decide +kernel), List.mem_of_getElem? (i := 66) (by decide +kernel), by decide, by decide +kernel⟩
set_option maxRecDepth 100000 in
theorem ab_ok136 : ab_ok 136 0 := ⟨⟨by decide +kernel, by decide +kernel⟩, by decide +kernel, List.mem_of_getElem? (i := 930) (by decide +kernel), List.mem_of_getElem? (i := 66) (by decide +kernel), by decide, by decide +kernel⟩
set_option maxRecDepth 100000 in
theorem ab_ok137 : ab_ok 137 2 := ⟨⟨by decide +kernel, by decide +kernel⟩, by decide +kernel, List.mem_of_getElem? (i := 957) (by decide +kernel), List.mem_of_getElem? (i := 66) (by decide +kernel), by decide, by decide +kernel⟩
set_option maxRecDepth 100000 in
theorem ab_ok138 : ab_ok 138 1 := ⟨⟨by decide +kernel, by decide +kernel⟩, by decide +kernel, List.mem_of_getElem? (i := 1083) (by decide +kernel), List.mem_of_getElem? (i := 66) (by decide +kernel), by decide, by decide +kernel⟩
set_option maxRecDepth 100000 in
theorem ab_ok139 : ab_ok 139 1 := ⟨⟨by decide +kernel, by decide +kernel⟩, by decide +kernel, List.mem_of_getElem? (i := 961) (by decide +kernel), List.mem_of_getElem? (i := 66) (by decide +kernel), by decide, by decide +kernel⟩
set_option maxRecDepth 100000 in
theorem ab_ok140 : ab_ok 140 0 := ⟨⟨by decide +kernel, by decide +kernel⟩, by decide +kernel, List.mem_of_getElem? (i := 1099) (by decide +kernel), List.mem_of_getElem? (i := 66) (by decide +kernel), by decide, by decide +kernel⟩
set_option maxRecDepth 100000 in
theorem ab_ok141 : ab_ok 141 3 := ⟨⟨by decide +kernel, by decide +kernel⟩, by decide +kernel, List.mem_of_getElem? (i := 911) (by decide +kernel), List.mem_of_getElem? (i := 66) (by decide +kernel), by decide, by decide +kernel⟩
set_option maxRecDepth 100000 in
theorem ab_ok142 : ab_ok 142 4 := ⟨⟨by decide +kernel, by decide +kernel⟩, by decide +kernel, List.mem_of_getElem? (i := 926) (by decide +kernel), List.mem_of_getElem? (i := 66) (by decide +kernel), by decide, by decide +kernel⟩
set_option maxRecDepth 100000 in
theorem ab_ok143 : ab_ok 143 3 := ⟨⟨by decide +kernel, by decide +kernel⟩, by decide +kernel, List.mem_of_getElem? (i := 953) (by decide +kernel), List.mem_of_getElem? (i := 66) (by decide +kernel), by decide, by decide +kernel⟩
set_option maxRecDepth 100000 in
theorem ab_ok144 : ab_ok 144 3 := ⟨⟨by decide +kernel, by decide +kernel⟩, by decide +kernel, List.mem_of_getElem? (i := 949) (by decide +kernel), List.mem_of_getElem? (i := 66) (by decide +kernel), by decide, by decide +kernel⟩
set_option maxRecDepth 100000 in
theorem ab_ok145 : ab_ok 145 2 := ⟨⟨by decide +kernel, by decide +kernel⟩, by decide +kernel, List.mem_of_getElem? (i := 977) (by decide +kernel), List.mem_of_getElem? (i := 66) (by decide +kernel), by decide, by decide +kernel⟩
set_option maxRecDepth 100000 in
theorem ab_ok146 : ab_ok 146 3 := ⟨⟨by decide +kernel, by decide +kernel⟩, by decide +kernel, List.mem_of_getElem? (i := 984) (by decide +kernel), List.mem_of_getElem? (i := 66) (by decide +kernel), by decide, by decide +kernel⟩
set_option maxRecDepth 100000 in
theorem ab_ok147 : ab_ok 147 1 := ⟨⟨by decide +kernel, by decide +kernel⟩, by decide +kernel, List.mem_of_getElem? (i := 973) (by decide +kernel), List.mem_of_getElem? (i := 66) (by decide +kernel), by decide, by decide +kernel⟩
set_option maxRecDepth 100000 in
theorem ab_ok148 : ab_ok 148 1 := ⟨⟨by decide +kernel, by decide +kernel⟩, by decide +kernel, List.mem_of_getElem? (i := 969) (by decide +kernel), List.mem_of_getElem? (i := 66) (by decide +kernel), by decide, by decide +kernel⟩
set_option maxRecDepth 100000 in
theorem ab_ok149 : ab_ok 149 1 := ⟨⟨by decide +kernel, by decide +kernel⟩, by decide +kernel, List.mem_of_getElem? (i := 965) (by decide +kernel), List.mem_of_getElem? (i := 66) (by decide +kernel), by decide, by decide +kernel⟩
set_option maxRecDepth 100000 in
theorem ab_ok150 : ab_ok 150 1 := ⟨⟨by decide +kernel, by decide +kernel⟩, by decide +kernel, List.mem_of_getElem? (i := 988) (by decide +kernel), List.mem_of_getElem? (i := 66) (by decide +kernel), by decide, by decide +kernel⟩
set_option maxRecDepth 100000 in
theorem ab_ok151 : ab_ok 151 3 := ⟨⟨by decide +kernel, by decide +kernel⟩, by decide +kernel, List.mem_of_getElem? (i := 996) (by decide +kernel), List.mem_of_getElem? (i := 66) (by decide +kernel), by decide, by decide +kernel⟩
set_option maxRecDepth 100000 in
theorem ab_ok152 : ab_ok 152 2 := ⟨⟨by decide +kernel, by decide +kernel⟩, by decide +kernel, List.mem_of_getElem? (i := 992) (by decide +kernel), List.mem_of_getElem? (i := 66) (by decide +kernel), by decide, by decide +kernel⟩
set_option maxRecDepth 100000 in
theorem ab_ok153 : ab_ok 153 3 := ⟨⟨by decide +kernel, by decide +kernel⟩, by decide +kernel, List.mem_of_getElem? (i := 1000) (by decide +kernel), List.mem_of_getElem? (i := 66) (by decide +kernel), by decide, by decide +kernel⟩
set_option maxRecDepth 100000 in
theorem ab_ok154 : ab_ok 154 1 := ⟨⟨by decide +kernel, by decide +kernel⟩, by decide +kernel, List.mem_of_getElem? (i := 1008) (by decide +kernel), List.mem_of_getElem? (i := 66) (by decide +kernel), by decide, by decide +kernel⟩
set_option maxRecDepth 100000 in
theorem ab_ok155 : ab_ok 155 2 := ⟨⟨by decide +kernel, by decide +kernel⟩, by decide +kernel, List.mem_of_getElem? (i := 1004) (by decide +kernel), List.mem_of_getElem? (i := 66) (by decide +kernel), by decide, by decide +kernel⟩
set_option maxRecDepth 100000 in
theorem ab_ok156 : ab_ok 156 1 := ⟨⟨by decide +kernel, by decide +kernel⟩, by decide +kernel, List.mem_of_getElem? (i := 1012) (by decide +kernel), List.mem_of_getElem? (i := 66) (by decide +kernel), by decide, by decide +kernel⟩
set_option maxRecDepth 100000 in
theorem ab_ok157 : ab_ok 157 1 := ⟨⟨by decide +kernel, by decide +kernel⟩, by decide +kernel, List.mem_of_getElem? (i := 1039) (by decide +kernel), List.mem_of_getElem? (i := 66) (by decide +kernel), by decide, by decide +kernel⟩
set_option maxRecDepth 100000 in
theorem ab_ok158 : ab_ok 158 2 := ⟨⟨by decide +kernel, by decide +kernel⟩, by decide +kernel, List.mem_of_getElem? (i := 1035) (by decide +kernel), List.mem_of_getElem? (i := 66) (by decide +kernel), by decide, by decide +kernel⟩
set_option maxRecDepth 100000 in
theorem ab_ok159 : ab_ok 159 0 := ⟨⟨by decide +kernel, by decide +kernel⟩, by decide +kernel, List.mem_of_getElem? (i := 1031) (by decide +kernel), List.mem_of_getElem? (i := 66) (by decide +kernel), by decide, by decide +kernel⟩
set_option maxRecDepth 100000 in
theorem ab_ok160 : ab_ok 160 0 := ⟨⟨by decide +kernel, by decide +kernel⟩, by decide +kernel, List.mem_of_getElem? (i := 1043) (by decide +kernel), List.mem_of_getElem? (i := 66) (by decide +kernel), by decide, by decide +kernel⟩
set_option maxRecDepth 100000 in
theorem ab_ok161 : ab_ok 161 0 := ⟨⟨by decide +kernel, by decide +kernel⟩, by decide +kernel, List.mem_of_getElem? (i := 1027) (by decide +kernel), List.mem_of_getElem? (i := 66) (by decide +kernel), by decide, by decide +kernel⟩
set_option maxRecDepth 100000 in
theorem ab_ok162 : ab_ok 162 0 := ⟨⟨by decide +kernel, by decide +kernel⟩, by decide +kernel, List.mem_of_getElem? (i := 1023) (by decide +kernel), List.mem_of_getElem? (i := 66) (by decide +kernel), by decide, by decide +kernel⟩
set_option maxRecDepth 100000 in
theorem ab_ok163 : ab_ok 163 1 := ⟨⟨by decide +kernel, by decide +kernel⟩, by decide +kernel, List.mem_of_getElem? (i := 1047) (by decide +kernel), List.mem_of_getElem? (i := 66) (by decide +kernel), by decide, by decide +kernel⟩
set_option maxRecDepth 100000 in
theorem ab_ok164 : ab_ok 164 1 := ⟨⟨by decide +kernel, by decide +kernel⟩, by decide +kernel, List.mem_of_getElem? (i := 1051) (by decide +kernel), List.mem_of_getElem? (i := 66) (by decide +kernel), by decide, by decide +kernel⟩
set_option maxRecDepth 100000 in
theorem ab_ok165 : ab_ok 165 1 := ⟨⟨by decide +kernel, by decide +kernel⟩, by decide +kernel, List.mem_of_getElem? (i := 1016) (by decide +kernel), List.mem_of_getElem? (i := 66) (by decide +kernel), by decide, by decide +kernel⟩
set_option maxRecDepth 100000 in
theorem ab_ok166 : ab_ok 166 1 := ⟨⟨by decide +kernel, by decide +kernel⟩, by decide +kernel, List.mem_of_getElem? (i := 1059) (by decide +kernel), List.mem_of_getElem? (i := 66) (by decide +kernel), by decide, by decide +kernel⟩
set_option maxRecDepth 100000 in
theorem ab_ok167 : ab_ok 167 3 := ⟨⟨by decide +kernel, by decide +kernel⟩, by decide +kernel, List.mem_of_getElem? (i := 1055) (by decide +kernel), List.mem_of_getElem? (i := 66) (by decide +kernel), by decide, by decide +kernel⟩
set_option maxRecDepth 100000 in
theorem ab_ok168 : ab_ok 168 1 := ⟨⟨by decide +kernel, by decide +kernel⟩, by decide +kernel, List.mem_of_getElem? (i := 1063) (by decide +kernel), List.mem_of_getElem? (i := 66) (by decide +kernel), by decide, by decide +kernel⟩
set_option maxRecDepth 100000 in
theorem ab_ok169 : ab_ok 169 2 := ⟨⟨by decide +kernel, by decide +kernel⟩, by decide +kernel, List.mem_of_getElem? (i := 1071) (by decide +kernel), List.mem_of_getElem? (i := 66) (by decide +kernel), by decide, by decide +kernel⟩
set_option maxRecDepth 100000 in
theorem ab_ok170 : ab_ok 170 2 := ⟨⟨by decide +kernel, by decide +kernel⟩, by decide +kernel, List.mem_of_getElem? (i := 1067) (by decide +kernel), List.mem_of_getElem? (i := 66) (by decide +kernel), by decide, by decide +kernel⟩
set_option maxRecDepth 100000 in
theorem ab_ok171 : ab_ok 171 3 := ⟨⟨by decide +kernel, by decide +kernel⟩, by decide +kernel, List.mem_of_getElem? (i := 1075) (by decide +kernel), List.mem_of_getElem? (i := 66) (by decide +kernel), by decide, by decide +kernel⟩
set_option maxRecDepth 100000 in
theorem ab_ok172 : ab_ok 172 2 := ⟨⟨by decide +kernel, by decide +kernel⟩, by decide +kernel, List.mem_of_getElem? (i := 1079) (by decide +kernel), List.mem_of_getElem? (i := 66) (by decide +kernel), by decide, by decide +kernel⟩
set_option maxRecDepth 100000 in
theorem ab_ok173 : ab_ok 173 3 := ⟨⟨by decide +kernel, by decide +kernel⟩, by decide +kernel, List.mem_of_getElem? (i := 1087) (by decide +kernel), List.mem_of_getElem? (i := 66) (by decide +kernel), by decide, by decide +kernel⟩
set_option maxRecDepth 100000 in
theorem ab_ok174 : ab_ok 174 2 := ⟨⟨by decide +kernel, by decide +kernel⟩, by decide +kernel, List.mem_of_getElem? (i := 1091) (by decide +kernel), List.mem_of_getElem? (i := 66) (by decide +kernel), by decide, by decide +kernel⟩
set_option maxRecDepth 100000 in
theorem ab_ok175 : ab_ok 175 1 := ⟨⟨by decide +kernel, by decide +kernel⟩, by decide +kernel, List.mem_of_getElem? (i := 1095) (by decide +kernel), List.mem_of_getElem? (i := 66) (by decide +kernel), by decide, by decide +kernel⟩
set_option maxRecDepth 100000 in
theorem ab_ok176 : ab_ok 176 2 := ⟨⟨by decide +kernel, by decide +kernel⟩, by decide +kernel, List.mem_of_getElem? (i := 1108) (by decide +kernel), List.mem_of_getElem? (i := 66) (by decide +kernel), by decide, by decide +kernel⟩
set_option maxRecDepth 100000 in
theorem ab_ok177 : ab_ok 177 4 := ⟨⟨by decide +kernel, by decide +kernel⟩, by decide +kernel, List.mem_of_getElem? (i := 1103) (by decide +kernel), List.mem_of_getElem? (i := 66) (by decide +kernel), by decide, by decide +kernel⟩
set_option maxRecDepth 100000 in
theorem ab_ok178 : ab_ok 178 2 := ⟨⟨by decide +kernel, by decide +kernel⟩, by decide +kernel, List.mem_of_getElem? (i := 1113) (by decide +kernel), List.mem_of_getElem? (i := 66) (by decide +kernel), by decide, by decide +kernel⟩
set_option maxRecDepth 100000 in
theorem ab_ok179 : ab_ok 179 2 := ⟨⟨by decide +kernel, by decide +kernel⟩, by decide +kernel, List.mem_of_getElem? (i := 1121) (by decide +kernel), List.mem_of_getElem? (i := 66) (by decide +kernel), by decide, by decide +kernel⟩
set_option maxRecDepth 100000 in
theorem ab_ok180 : ab_ok 180 2 := ⟨⟨by decide +kernel, by decide +kernel⟩, by decide +kernel, List.mem_of_getElem? (i := 1117) (by decide +kernel), List.mem_of_getElem? (i := 66) (by decide +kernel), by decide, by decide +kernel⟩
set_option maxRecDepth 100000 in
theorem ab_ok181 : ab_ok 181 1 := ⟨⟨by decide +kernel, by decide +kernel⟩, by decide +kernel, List.mem_of_getElem? (i := 1129) (by decide +kernel), List.mem_of_getElem? (i := 66) (by decide +kernel), by decide, by decide +kernel⟩
set_option maxRecDepth 100000 in
theorem ab_ok182 : ab_ok 182 1 := ⟨⟨by decide +kernel, by decide +kernel⟩, by decide +kernel, List.mem_of_getElem? (i := 1133) (by decide +kernel), List.mem_of_getElem? (i := 66) (by decide +kernel), by decide, by decide +kernel⟩
set_option maxRecDepth 100000 in
theorem ab_ok183 : ab_ok 183 1 := ⟨⟨by decide +kernel, by decide +kernel⟩, by decide +kernel, List.mem_of_getElem? (i := 1125) (by decide +kernel), List.mem_of_getElem? (i := 66) (by decide +kernel), by decide, by decide +kernel⟩
set_option maxRecDepth 100000 in
theorem ab_ok184 : ab_ok 184 1 := ⟨⟨by decide +kernel, by decide +kernel⟩, by decide +kernel, List.mem_of_getElem? (i := 1137) (by decide +kernel), List.mem_of_getElem? (i := 66) (by decide +kernel), by decide, by decide +kernel⟩
set_option maxRecDepth 100000 in
theorem ab_ok185 : ab_ok 185 1 := ⟨⟨by decide +kernel, by decide +kernel⟩, by decide +kernel, List.mem_of_getElem? (i := 1144) (by decide +kernel), List.mem_of_getElem? (i := 66) (by decide +kernel), by decide, by decide +kernel⟩
set_option maxRecDepth 100000 in
theorem ab_ok186 : ab_ok 186 2 := ⟨⟨by decide +kernel, by decide +kernel⟩, by decide +kernel, List.mem_of_getElem? (i := 1141) (by decide +kernel), List.mem_of_getElem? (i := 66) (by decide +kernel), by decide, by decide +kernel⟩
set_option maxRecDepth 100000 in
theorem ab_ok187 : ab_ok 187 2 := ⟨⟨by decide +kernel, by decide +kernel⟩, by decide +kernel, List.mem_of_getElem? (i := 1148) (by decide +kernel), List.mem_of_getElem? (i := 66) (by decide +kernel), by decide, by decide +kernel⟩
set_option maxRecDepth 100000 in
theorem ab_ok188 : ab_ok 188 3 := ⟨⟨by decide +kernel, by decide +kernel⟩, by decide +kernel, List.mem_of_getElem? (i := 1152) (by decide +kernel), List.mem_of_getElem? (i := 66) (by decide +kernel), by decide, by decide +kernel⟩
set_option maxRecDepth 100000 in
theorem ab_ok189 : ab_ok 189 2 := ⟨⟨by decide +kernel, by decide +kernel⟩, by decide +kernel, List.mem_of_getElem? (i := 1156) (by decide +kernel), List.mem_of_getElem? (i := 66) (by decide +kernel), by decide, by decide +kernel⟩
set_option maxRecDepth 100000 in
theorem ab_ok190 : ab_ok 190 0 := ⟨⟨by decide +kernel, by decide +kernel⟩, by decide +kernel, List.mem_of_getElem? (i := 1160) (by decide +kernel), List.mem_of_getElem? (i := 66) (by decide +kernel), by decide, by decide +kernel⟩
set_option maxRecDepth 100000 in
theorem ab_ok191 : ab_ok 191 0 := ⟨⟨by decide +kernel, by decide +kernel⟩, by decide +kernel, List.mem_of_getElem? (i := 1164) (by decide +kernel), List.mem_of_getElem? (i := 66) (by decide +kernel), by decide, by decide +kernel⟩
set_option maxRecDepth 100000 in
theorem ab_ok192 : ab_ok 192 1 := ⟨⟨by decide +kernel, by decide +kernel⟩, by decide +kernel, List.mem_of_getElem? (i := 1168) (by decide +kernel), List.mem_of_getElem? (i := 66) (by decide +kernel), by decide, by decide +kernel⟩
set_option maxRecDepth 100000 in
theorem ab_ok193 : ab_ok 193 2 := ⟨⟨by decide +kernel, by decide +kernel⟩, by decide +kernel, List.mem_of_getElem? (i := 370) (by decide +kernel), List.mem_of_getElem? (i := 67) (by decide +kernel), by decide, by decide +kernel⟩
set_option maxRecDepth 100000 in
theorem ab_ok194 : ab_ok 194 2 := ⟨⟨by decide +kernel, by decide +kernel⟩, by decide +kernel, List.mem_of_getElem? (i := 398) (by decide +kernel), List.mem_of_getElem? (i := 67) (by decide +kernel), by decide, by decide +kernel⟩
set_option maxRecDepth 100000 in
theorem ab_ok195 : ab_ok 195 2 := ⟨⟨by decide +kernel, by decide +kernel⟩, by decide +kernel, List.mem_of_getElem? (i := 775) (by decide +kernel), List.mem_of_getElem? (i := 67) (by decide +kernel), by decide, by decide +kernel⟩
set_option maxRecDepth 100000 in
theorem ab_si_0_1 : ab_sI RX0 1 2 0 := ⟨ab_ok2, List.mem_of_getElem? (i := 135) (by decide +kernel), rfl, rfl, Or.inr ⟨"LevelLadders", List.mem_of_getElem? (i := 144) (by decide +kernel)⟩⟩
set_option maxRecDepth 100000 in
theorem ab_lk_0_1 : ab_lk 0 1 = 2 := by decide +kernel
set_option maxRecDepth 100000 in
theorem ab_mo_1_1 : Cond.methodLink RX1 1 objectInit ∈ lw_tbl := List.mem_of_getElem? (i := 137) (by decide +kernel)
set_option maxRecDepth 100000 in
theorem ab_lk_1_1 : ab_lk 1 1 = 998 := by decide +kernel
set_option maxRecDepth 100000 in
theorem ab_mo_2_3 : Cond.methodLink RX2 3 objectInit ∈ lw_tbl := List.mem_of_getElem? (i := 172) (by decide +kernel)
set_option maxRecDepth 100000 in
theorem ab_lk_2_3 : ab_lk 2 3 = 998 := by decide +kernel
set_option maxRecDepth 100000 in
theorem ab_fp_2_11 : ab_fp RX2 "<init>" 11 2 0 := ⟨RX2, TX2, 6, rfl, by decide, Or.inr ⟨rfl, rfl, rfl, List.mem_of_getElem? (i := 173) (by decide +kernel)⟩⟩
set_option maxRecDepth 100000 in
theorem ab_lk_2_11 : ab_lk 2 11 = 200 := by decide +kernel
set_option maxRecDepth 100000 in
theorem ab_fp_2_15 : ab_fp RX2 "<init>" 15 2 1 := ⟨RX2, TX2, 6, rfl, by decide, Or.inr ⟨rfl, rfl, rfl, List.mem_of_getElem? (i := 174) (by decide +kernel)⟩⟩
set_option maxRecDepth 100000 in
theorem ab_lk_2_15 : ab_lk 2 15 = 201 := by decide +kernel
set_option maxRecDepth 100000 in
theorem ab_fp_2_18 : ∀ mn, ab_fp RX2 mn 18 2 2 := fun _ => ⟨RX2, TX2, 6, rfl, by decide, Or.inl ⟨rfl, Or.inl (List.mem_of_getElem? (i := 175) (by decide +kernel))⟩⟩
set_option maxRecDepth 100000 in
theorem ab_lk_2_18 : ab_lk 2 18 = 202 := by decide +kernel
set_option maxRecDepth 100000 in
theorem ab_fp_2_22 : ∀ mn, ab_fp RX2 mn 22 2 3 := fun _ => ⟨RX2, TX2, 6, rfl, by decide, Or.inl ⟨rfl, Or.inl (List.mem_of_getElem? (i := 176) (by decide +kernel))⟩⟩
set_option maxRecDepth 100000 in
theorem ab_lk_2_22 : ab_lk 2 22 = 203 := by decide +kernel
set_option maxRecDepth 100000 in
theorem ab_fl_2_11 : ab_fl RX2 11 2 0 := ⟨RX2, TX2, 6, rfl, by decide, Or.inl (List.mem_of_getElem? (i := 173) (by decide +kernel))⟩
set_option maxRecDepth 100000 in
theorem ab_fp_2_25 : ∀ mn, ab_fp RX2 mn 25 2 4 := fun _ => ⟨RX2, TX2, 6, rfl, by decide, Or.inl ⟨rfl, Or.inl (List.mem_of_getElem? (i := 178) (by decide +kernel))⟩⟩
set_option maxRecDepth 100000 in
theorem ab_lk_2_25 : ab_lk 2 25 = 204 := by decide +kernel
set_option maxRecDepth 100000 in
theorem ab_fp_2_28 : ∀ mn, ab_fp RX2 mn 28 2 5 := fun _ => ⟨RX2, TX2, 6, rfl, by decide, Or.inl ⟨rfl, Or.inl (List.mem_of_getElem? (i := 181) (by decide +kernel))⟩⟩
set_option maxRecDepth 100000 in
theorem ab_lk_2_28 : ab_lk 2 28 = 205 := by decide +kernel
set_option maxRecDepth 100000 in
theorem ab_fl_2_22 : ab_fl RX2 22 2 3 := ⟨RX2, TX2, 6, rfl, by decide, Or.inl (List.mem_of_getElem? (i := 176) (by decide +kernel))⟩
set_option maxRecDepth 100000 in
theorem ab_sv_2_31 : ab_sV RX2 31 2 9 1 := ⟨ab_ok9, List.mem_of_getElem? (i := 468) (by decide +kernel), RX2, TX2, 6, rfl, Or.inl ⟨Or.inl (List.mem_of_getElem? (i := 466) (by decide +kernel)), List.mem_of_getElem? (i := 4) (by decide +kernel)⟩⟩
set_option maxRecDepth 100000 in
theorem ab_vk_2_31 : ∀ ci, ab_vk 2 31 ci = 9 := fun _ => rfl
set_option maxRecDepth 100000 in
theorem ab_fl_2_15 : ab_fl RX2 15 2 1 := ⟨RX2, TX2, 6, rfl, by decide, Or.inl (List.mem_of_getElem? (i := 174) (by decide +kernel))⟩
set_option maxRecDepth 100000 in
theorem ab_fl_2_25 : ab_fl RX2 25 2 4 := ⟨RX2, TX2, 6, rfl, by decide, Or.inl (List.mem_of_getElem? (i := 178) (by decide +kernel))⟩
set_option maxRecDepth 100000 in
theorem ab_sv_2_35 : ab_sV RX2 35 2 10 2 := ⟨ab_ok10, List.mem_of_getElem? (i := 472) (by decide +kernel), RX2, TX2, 6, rfl, Or.inl ⟨Or.inl (List.mem_of_getElem? (i := 470) (by decide +kernel)), List.mem_of_getElem? (i := 5) (by decide +kernel)⟩⟩
set_option maxRecDepth 100000 in
theorem ab_vk_2_35 : ∀ ci, ab_vk 2 35 ci = 10 := fun _ => rfl
set_option maxRecDepth 100000 in
theorem ab_fl_2_28 : ab_fl RX2 28 2 5 := ⟨RX2, TX2, 6, rfl, by decide, Or.inl (List.mem_of_getElem? (i := 181) (by decide +kernel))⟩
set_option maxRecDepth 100000 in
theorem ab_ss_2_39 : ab_sS RX2 39 110 1 := ⟨ab_ok110, List.mem_of_getElem? (i := 366) (by decide +kernel), Or.inr ⟨"LevelLadders", List.mem_of_getElem? (i := 474) (by decide +kernel)⟩⟩
set_option maxRecDepth 100000 in
theorem ab_lk_2_39 : ab_lk 2 39 = 110 := by decide +kernel
set_option maxRecDepth 100000 in
theorem ab_ss_2_42 : ab_sS RX2 42 111 1 := ⟨ab_ok111, List.mem_of_getElem? (i := 476) (by decide +kernel), Or.inr ⟨"LevelLadders", List.mem_of_getElem? (i := 475) (by decide +kernel)⟩⟩
set_option maxRecDepth 100000 in
theorem ab_lk_2_42 : ab_lk 2 42 = 111 := by decide +kernel
set_option maxRecDepth 100000 in
theorem ab_sv_2_45 : ab_sV RX2 45 2 11 2 := ⟨ab_ok11, List.mem_of_getElem? (i := 480) (by decide +kernel), RX2, TX2, 6, rfl, Or.inl ⟨Or.inl (List.mem_of_getElem? (i := 478) (by decide +kernel)), List.mem_of_getElem? (i := 6) (by decide +kernel)⟩⟩
set_option maxRecDepth 100000 in
theorem ab_vk_2_45 : ∀ ci, ab_vk 2 45 ci = 11 := fun _ => rfl
set_option maxRecDepth 100000 in
theorem ab_sv_2_48 : ab_sV RX2 48 2 12 2 := ⟨ab_ok12, List.mem_of_getElem? (i := 484) (by decide +kernel), RX2, TX2, 6, rfl, Or.inl ⟨Or.inl (List.mem_of_getElem? (i := 482) (by decide +kernel)), List.mem_of_getElem? (i := 7) (by decide +kernel)⟩⟩
set_option maxRecDepth 100000 in
theorem ab_vk_2_48 : ∀ ci, ab_vk 2 48 ci = 12 := fun _ => rfl
set_option maxRecDepth 100000 in
theorem ab_fl_2_18 : ab_fl RX2 18 2 2 := ⟨RX2, TX2, 6, rfl, by decide, Or.inl (List.mem_of_getElem? (i := 175) (by decide +kernel))⟩
set_option maxRecDepth 100000 in
theorem ab_sv_2_51 : ab_sV RX2 51 2 14 0 := ⟨ab_ok14, List.mem_of_getElem? (i := 534) (by decide +kernel), RX2, TX2, 6, rfl, Or.inl ⟨Or.inl (List.mem_of_getElem? (i := 532) (by decide +kernel)), List.mem_of_getElem? (i := 9) (by decide +kernel)⟩⟩
set_option maxRecDepth 100000 in
theorem ab_vk_2_51 : ∀ ci, ab_vk 2 51 ci = 14 := fun _ => rfl
set_option maxRecDepth 100000 in
theorem ab_sv_2_55 : ab_sV RX2 55 2 15 2 := ⟨ab_ok15, List.mem_of_getElem? (i := 538) (by decide +kernel), RX2, TX2, 6, rfl, Or.inl ⟨Or.inl (List.mem_of_getElem? (i := 536) (by decide +kernel)), List.mem_of_getElem? (i := 10) (by decide +kernel)⟩⟩
set_option maxRecDepth 100000 in
theorem ab_vk_2_55 : ∀ ci, ab_vk 2 55 ci = 15 := fun _ => rfl
set_option maxRecDepth 100000 in
theorem ab_mo_3_3 : Cond.methodLink RX3 3 objectInit ∈ lw_tbl := List.mem_of_getElem? (i := 130) (by decide +kernel)
set_option maxRecDepth 100000 in
theorem ab_lk_3_3 : ab_lk 3 3 = 998 := by decide +kernel
set_option maxRecDepth 100000 in
theorem ab_an_3_9 : Cond.classLink RX3 9 "LevelLadders$Free" ∈ lw_tbl ∧ Cond.arrayOver (.object "LevelLadders$Free") ∈ lw_tbl := ⟨List.mem_of_getElem? (i := 131) (by decide +kernel), List.mem_of_getElem? (i := 132) (by decide +kernel)⟩
set_option maxRecDepth 100000 in
theorem ab_lk_3_9 : ab_lk 3 9 = 1 := by decide +kernel
set_option maxRecDepth 100000 in
theorem ab_nw_3_9 : ab_lk 3 9 = 1 ∧ ab_nc RX3 9 1 0 := ⟨by decide +kernel, RX1, TX1, rfl, List.mem_of_getElem? (i := 131) (by decide +kernel), List.mem_of_getElem? (i := 133) (by decide +kernel), List.mem_of_getElem? (i := 58) (by decide +kernel)⟩
set_option maxRecDepth 100000 in
theorem ab_si_3_11 : ab_sI RX3 11 2 0 := ⟨ab_ok2, List.mem_of_getElem? (i := 135) (by decide +kernel), rfl, rfl, Or.inr ⟨"LevelLadders", List.mem_of_getElem? (i := 134) (by decide +kernel)⟩⟩
set_option maxRecDepth 100000 in
theorem ab_lk_3_11 : ab_lk 3 11 = 2 := by decide +kernel
set_option maxRecDepth 100000 in
theorem ab_nw_3_12 : ab_lk 3 12 = 0 ∧ ab_nc RX3 12 0 0 := ⟨by decide +kernel, RX0, TX0, rfl, List.mem_of_getElem? (i := 139) (by decide +kernel), List.mem_of_getElem? (i := 140) (by decide +kernel), List.mem_of_getElem? (i := 59) (by decide +kernel)⟩
set_option maxRecDepth 100000 in
theorem ab_si_3_14 : ab_sI RX3 14 0 0 := ⟨ab_ok0, List.mem_of_getElem? (i := 142) (by decide +kernel), rfl, rfl, Or.inr ⟨"LevelLadders", List.mem_of_getElem? (i := 141) (by decide +kernel)⟩⟩
set_option maxRecDepth 100000 in
theorem ab_lk_3_14 : ab_lk 3 14 = 0 := by decide +kernel
set_option maxRecDepth 100000 in
theorem ab_nw_3_15 : ab_lk 3 15 = 8 ∧ ab_nc RX3 15 8 0 := ⟨by decide +kernel, RX8, TX8, rfl, List.mem_of_getElem? (i := 146) (by decide +kernel), List.mem_of_getElem? (i := 147) (by decide +kernel), List.mem_of_getElem? (i := 60) (by decide +kernel)⟩
set_option maxRecDepth 100000 in
theorem ab_si_3_17 : ab_sI RX3 17 55 0 := ⟨ab_ok55, List.mem_of_getElem? (i := 149) (by decide +kernel), rfl, rfl, Or.inr ⟨"LevelLadders", List.mem_of_getElem? (i := 148) (by decide +kernel)⟩⟩
set_option maxRecDepth 100000 in
theorem ab_lk_3_17 : ab_lk 3 17 = 55 := by decide +kernel
set_option maxRecDepth 100000 in
theorem ab_nw_3_18 : ab_lk 3 18 = 5 ∧ ab_nc RX3 18 5 0 := ⟨by decide +kernel, RX5, TX5, rfl, List.mem_of_getElem? (i := 153) (by decide +kernel), List.mem_of_getElem? (i := 154) (by decide +kernel), List.mem_of_getElem? (i := 61) (by decide +kernel)⟩
set_option maxRecDepth 100000 in
theorem ab_si_3_20 : ab_sI RX3 20 33 0 := ⟨ab_ok33, List.mem_of_getElem? (i := 156) (by decide +kernel), rfl, rfl, Or.inr ⟨"LevelLadders", List.mem_of_getElem? (i := 155) (by decide +kernel)⟩⟩
set_option maxRecDepth 100000 in
theorem ab_lk_3_20 : ab_lk 3 20 = 33 := by decide +kernel
set_option maxRecDepth 100000 in
theorem ab_nw_3_21 : ab_lk 3 21 = 9 ∧ ab_nc RX3 21 9 0 := ⟨by decide +kernel, RX9, TX9, rfl, List.mem_of_getElem? (i := 160) (by decide +kernel), List.mem_of_getElem? (i := 161) (by decide +kernel), List.mem_of_getElem? (i := 62) (by decide +kernel)⟩
set_option maxRecDepth 100000 in
theorem ab_si_3_23 : ab_sI RX3 23 58 0 := ⟨ab_ok58, List.mem_of_getElem? (i := 163) (by decide +kernel), rfl, rfl, Or.inr ⟨"LevelLadders", List.mem_of_getElem? (i := 162) (by decide +kernel)⟩⟩
set_option maxRecDepth 100000 in
theorem ab_lk_3_23 : ab_lk 3 23 = 58 := by decide +kernel
set_option maxRecDepth 100000 in
theorem ab_fp_3_24 : ab_fp RX3 "<init>" 24 3 0 := ⟨RX3, TX3, 7, rfl, by decide, Or.inr ⟨rfl, rfl, rfl, List.mem_of_getElem? (i := 196) (by decide +kernel)⟩⟩
set_option maxRecDepth 100000 in
theorem ab_lk_3_24 : ab_lk 3 24 = 300 := by decide +kernel
set_option maxRecDepth 100000 in
theorem ab_fp_3_30 : ab_fp RX3 "<init>" 30 3 1 := ⟨RX3, TX3, 7, rfl, by decide, Or.inr ⟨rfl, rfl, rfl, List.mem_of_getElem? (i := 197) (by decide +kernel)⟩⟩
set_option maxRecDepth 100000 in
theorem ab_lk_3_30 : ab_lk 3 30 = 301 := by decide +kernel
set_option maxRecDepth 100000 in
theorem ab_fp_3_34 : ∀ mn, ab_fp RX3 mn 34 3 2 := fun _ => ⟨RX3, TX3, 7, rfl, by decide, Or.inl ⟨rfl, Or.inl (List.mem_of_getElem? (i := 198) (by decide +kernel))⟩⟩
set_option maxRecDepth 100000 in
theorem ab_lk_3_34 : ab_lk 3 34 = 302 := by decide +kernel
set_option maxRecDepth 100000 in
theorem ab_fp_3_38 : ab_fp RX3 "<init>" 38 3 3 := ⟨RX3, TX3, 7, rfl, by decide, Or.inr ⟨rfl, rfl, rfl, List.mem_of_getElem? (i := 199) (by decide +kernel)⟩⟩
set_option maxRecDepth 100000 in
theorem ab_lk_3_38 : ab_lk 3 38 = 303 := by decide +kernel
set_option maxRecDepth 100000 in
theorem ab_fp_3_41 : ab_fp RX3 "<init>" 41 3 4 := ⟨RX3, TX3, 7, rfl, by decide, Or.inr ⟨rfl, rfl, rfl, List.mem_of_getElem? (i := 200) (by decide +kernel)⟩⟩
set_option maxRecDepth 100000 in
theorem ab_lk_3_41 : ab_lk 3 41 = 304 := by decide +kernel
set_option maxRecDepth 100000 in
theorem ab_fp_3_44 : ab_fp RX3 "<init>" 44 3 5 := ⟨RX3, TX3, 7, rfl, by decide, Or.inr ⟨rfl, rfl, rfl, List.mem_of_getElem? (i := 201) (by decide +kernel)⟩⟩
set_option maxRecDepth 100000 in
theorem ab_lk_3_44 : ab_lk 3 44 = 305 := by decide +kernel
set_option maxRecDepth 100000 in
theorem ab_nw_3_47 : ab_lk 3 47 = 2 ∧ ab_nc RX3 47 2 6 := ⟨by decide +kernel, RX2, TX2, rfl, List.mem_of_getElem? (i := 167) (by decide +kernel), List.mem_of_getElem? (i := 168) (by decide +kernel), List.mem_of_getElem? (i := 63) (by decide +kernel)⟩
set_option maxRecDepth 100000 in
theorem ab_si_3_49 : ab_sI RX3 49 5 0 := ⟨ab_ok5, List.mem_of_getElem? (i := 170) (by decide +kernel), rfl, rfl, Or.inr ⟨"LevelLadders", List.mem_of_getElem? (i := 169) (by decide +kernel)⟩⟩
set_option maxRecDepth 100000 in
theorem ab_lk_3_49 : ab_lk 3 49 = 5 := by decide +kernel
set_option maxRecDepth 100000 in
theorem ab_fp_3_50 : ab_fp RX3 "<init>" 50 3 6 := ⟨RX3, TX3, 7, rfl, by decide, Or.inr ⟨rfl, rfl, rfl, List.mem_of_getElem? (i := 202) (by decide +kernel)⟩⟩
set_option maxRecDepth 100000 in
theorem ab_lk_3_50 : ab_lk 3 50 = 306 := by decide +kernel
set_option maxRecDepth 100000 in
theorem ab_fl_3_24 : ab_fl RX3 24 3 0 := ⟨RX3, TX3, 7, rfl, by decide, Or.inl (List.mem_of_getElem? (i := 196) (by decide +kernel))⟩
set_option maxRecDepth 100000 in
theorem ab_fl_3_38 : ab_fl RX3 38 3 3 := ⟨RX3, TX3, 7, rfl, by decide, Or.inl (List.mem_of_getElem? (i := 199) (by decide +kernel))⟩
set_option maxRecDepth 100000 in
theorem ab_fl_3_41 : ab_fl RX3 41 3 4 := ⟨RX3, TX3, 7, rfl, by decide, Or.inl (List.mem_of_getElem? (i := 200) (by decide +kernel))⟩
set_option maxRecDepth 100000 in
theorem ab_fl_3_34 : ab_fl RX3 34 3 2 := ⟨RX3, TX3, 7, rfl, by decide, Or.inl (List.mem_of_getElem? (i := 198) (by decide +kernel))⟩
set_option maxRecDepth 100000 in
theorem ab_sv_3_54 : ab_sV RX3 54 3 21 1 := ⟨ab_ok21, List.mem_of_getElem? (i := 405) (by decide +kernel), RX3, TX3, 7, rfl, Or.inl ⟨Or.inl (List.mem_of_getElem? (i := 403) (by decide +kernel)), List.mem_of_getElem? (i := 0) (by decide +kernel)⟩⟩
set_option maxRecDepth 100000 in
theorem ab_vk_3_54 : ∀ ci, ab_vk 3 54 ci = 21 := fun _ => rfl
set_option maxRecDepth 100000 in
theorem ab_fl_3_30 : ab_fl RX3 30 3 1 := ⟨RX3, TX3, 7, rfl, by decide, Or.inl (List.mem_of_getElem? (i := 197) (by decide +kernel))⟩
set_option maxRecDepth 100000 in
theorem ab_mc_3_58 : Cond.methodLink RX3 58 arraycopyName ∈ lw_tbl := List.mem_of_getElem? (i := 407) (by decide +kernel)
set_option maxRecDepth 100000 in
theorem ab_lk_3_58 : ab_lk 3 58 = 999 := by decide +kernel
set_option maxRecDepth 100000 in
theorem ab_lk_3_64 : ab_lk 3 64 = 991 := by decide +kernel
set_option maxRecDepth 100000 in
theorem ab_gs_3_64 : Cond.fieldLink RX3 64 (ab_stn 1).1 (ab_stn 1).2.1 (ab_stn 1).2.2 ∈ lw_tbl ∨ ∃ host, Cond.fieldLinkNest RX3 64 (ab_stn 1).1 (ab_stn 1).2.1 (ab_stn 1).2.2 host ∈ lw_tbl := Or.inr ⟨"LevelLadders", List.mem_of_getElem? (i := 410) (by decide +kernel)⟩
set_option maxRecDepth 100000 in
theorem ab_sv_3_67 : ab_sV RX3 67 3 22 3 := ⟨ab_ok22, List.mem_of_getElem? (i := 413) (by decide +kernel), RX3, TX3, 7, rfl, Or.inl ⟨Or.inl (List.mem_of_getElem? (i := 411) (by decide +kernel)), List.mem_of_getElem? (i := 1) (by decide +kernel)⟩⟩
set_option maxRecDepth 100000 in
theorem ab_vk_3_67 : ∀ ci, ab_vk 3 67 ci = 22 := fun _ => rfl
set_option maxRecDepth 100000 in
theorem ab_sv_3_71 : ab_sV RX3 71 3 25 1 := ⟨ab_ok25, List.mem_of_getElem? (i := 434) (by decide +kernel), RX3, TX3, 7, rfl, Or.inl ⟨Or.inl (List.mem_of_getElem? (i := 432) (by decide +kernel)), List.mem_of_getElem? (i := 3) (by decide +kernel)⟩⟩
set_option maxRecDepth 100000 in
theorem ab_vk_3_71 : ∀ ci, ab_vk 3 71 ci = 25 := fun _ => rfl
set_option maxRecDepth 100000 in
theorem ab_lk_3_75 : ab_lk 3 75 = 994 := by decide +kernel
set_option maxRecDepth 100000 in
theorem ab_gs_3_75 : Cond.fieldLink RX3 75 (ab_stn 4).1 (ab_stn 4).2.1 (ab_stn 4).2.2 ∈ lw_tbl ∨ ∃ host, Cond.fieldLinkNest RX3 75 (ab_stn 4).1 (ab_stn 4).2.1 (ab_stn 4).2.2 host ∈ lw_tbl := Or.inr ⟨"LevelLadders", List.mem_of_getElem? (i := 415) (by decide +kernel)⟩
set_option maxRecDepth 100000 in
theorem ab_ss_3_78 : ab_sS RX3 78 23 3 := ⟨ab_ok23, List.mem_of_getElem? (i := 417) (by decide +kernel), Or.inl (List.mem_of_getElem? (i := 416) (by decide +kernel))⟩
set_option maxRecDepth 100000 in
theorem ab_lk_3_78 : ab_lk 3 78 = 23 := by decide +kernel
set_option maxRecDepth 100000 in
theorem ab_lk_3_82 : ab_lk 3 82 = 993 := by decide +kernel
set_option maxRecDepth 100000 in
theorem ab_gs_3_82 : Cond.fieldLink RX3 82 (ab_stn 3).1 (ab_stn 3).2.1 (ab_stn 3).2.2 ∈ lw_tbl ∨ ∃ host, Cond.fieldLinkNest RX3 82 (ab_stn 3).1 (ab_stn 3).2.1 (ab_stn 3).2.2 host ∈ lw_tbl := Or.inr ⟨"LevelLadders", List.mem_of_getElem? (i := 419) (by decide +kernel)⟩
set_option maxRecDepth 100000 in
theorem ab_sv_3_85 : ab_sV RX3 85 3 17 1 := ⟨ab_ok17, List.mem_of_getElem? (i := 327) (by decide +kernel), RX3, TX3, 7, rfl, Or.inl ⟨Or.inl (List.mem_of_getElem? (i := 420) (by decide +kernel)), List.mem_of_getElem? (i := 328) (by decide +kernel)⟩⟩
set_option maxRecDepth 100000 in
theorem ab_vk_3_85 : ∀ ci, ab_vk 3 85 ci = 17 := fun _ => rfl
set_option maxRecDepth 100000 in
theorem ab_sv_3_89_1 : ab_sV RX3 89 1 3 2 := ⟨ab_ok3, List.mem_of_getElem? (i := 331) (by decide +kernel), RX1, TX1, 0, rfl, Or.inl ⟨Or.inl (List.mem_of_getElem? (i := 421) (by decide +kernel)), List.mem_of_getElem? (i := 332) (by decide +kernel)⟩⟩
set_option maxRecDepth 100000 in
theorem ab_vk_3_89_1 : ab_vk 3 89 1 = 3 := by decide +kernel
set_option maxRecDepth 100000 in
theorem ab_sv_3_89_0 : ab_sV RX3 89 0 3 2 := ⟨ab_ok3, List.mem_of_getElem? (i := 331) (by decide +kernel), RX0, TX0, 0, rfl, Or.inr ⟨⟨"LevelLadders$Free", "slope", "(II)I"⟩, "LevelLadders$Free", cX1_slope, 3, (some .int), List.mem_of_getElem? (i := 421) (by decide +kernel), List.mem_of_getElem? (i := 333) (by decide +kernel), List.mem_of_getElem? (i := 331) (by decide +kernel), List.mem_of_getElem? (i := 334) (by decide +kernel), List.mem_of_getElem? (i := 345) (by decide +kernel), ⟨by decide +kernel, by decide +kernel⟩, by decide +kernel⟩⟩
set_option maxRecDepth 100000 in
theorem ab_vk_3_89_0 : ab_vk 3 89 0 = 3 := by decide +kernel
set_option maxRecDepth 100000 in
theorem ab_sv_3_89_8 : ab_sV RX3 89 8 56 2 := ⟨ab_ok56, List.mem_of_getElem? (i := 339) (by decide +kernel), RX8, TX8, 0, rfl, Or.inr ⟨⟨"LevelLadders$Free", "slope", "(II)I"⟩, "LevelLadders$Free", cX1_slope, 3, (some .int), List.mem_of_getElem? (i := 421) (by decide +kernel), List.mem_of_getElem? (i := 333) (by decide +kernel), List.mem_of_getElem? (i := 331) (by decide +kernel), List.mem_of_getElem? (i := 338) (by decide +kernel), List.mem_of_getElem? (i := 345) (by decide +kernel), ⟨by decide +kernel, by decide +kernel⟩, by decide +kernel⟩⟩
set_option maxRecDepth 100000 in
theorem ab_vk_3_89_8 : ab_vk 3 89 8 = 56 := by decide +kernel
set_option maxRecDepth 100000 in
theorem ab_sv_3_89_5 : ab_sV RX3 89 5 34 2 := ⟨ab_ok34, List.mem_of_getElem? (i := 336) (by decide +kernel), RX5, TX5, 0, rfl, Or.inr ⟨⟨"LevelLadders$Free", "slope", "(II)I"⟩, "LevelLadders$Free", cX1_slope, 3, (some .int), List.mem_of_getElem? (i := 421) (by decide +kernel), List.mem_of_getElem? (i := 333) (by decide +kernel), List.mem_of_getElem? (i := 331) (by decide +kernel), List.mem_of_getElem? (i := 335) (by decide +kernel), List.mem_of_getElem? (i := 345) (by decide +kernel), ⟨by decide +kernel, by decide +kernel⟩, by decide +kernel⟩⟩
set_option maxRecDepth 100000 in
theorem ab_vk_3_89_5 : ab_vk 3 89 5 = 34 := by decide +kernel
set_option maxRecDepth 100000 in
theorem ab_sv_3_89_9 : ab_sV RX3 89 9 34 2 := ⟨ab_ok34, List.mem_of_getElem? (i := 336) (by decide +kernel), RX9, TX9, 0, rfl, Or.inr ⟨⟨"LevelLadders$Free", "slope", "(II)I"⟩, "LevelLadders$Free", cX1_slope, 3, (some .int), List.mem_of_getElem? (i := 421) (by decide +kernel), List.mem_of_getElem? (i := 333) (by decide +kernel), List.mem_of_getElem? (i := 331) (by decide +kernel), List.mem_of_getElem? (i := 344) (by decide +kernel), List.mem_of_getElem? (i := 345) (by decide +kernel), ⟨by decide +kernel, by decide +kernel⟩, by decide +kernel⟩⟩
set_option maxRecDepth 100000 in
theorem ab_vk_3_89_9 : ab_vk 3 89 9 = 34 := by decide +kernel
set_option maxRecDepth 100000 in
theorem ab_sv_3_93 : ab_sV RX3 93 3 24 3 := ⟨ab_ok24, List.mem_of_getElem? (i := 424) (by decide +kernel), RX3, TX3, 7, rfl, Or.inl ⟨Or.inl (List.mem_of_getElem? (i := 422) (by decide +kernel)), List.mem_of_getElem? (i := 2) (by decide +kernel)⟩⟩
set_option maxRecDepth 100000 in
theorem ab_vk_3_93 : ∀ ci, ab_vk 3 93 ci = 24 := fun _ => rfl
set_option maxRecDepth 100000 in
theorem ab_sv_3_96 : ab_sV RX3 96 3 18 2 := ⟨ab_ok18, List.mem_of_getElem? (i := 427) (by decide +kernel), RX3, TX3, 7, rfl, Or.inl ⟨Or.inl (List.mem_of_getElem? (i := 426) (by decide +kernel)), List.mem_of_getElem? (i := 428) (by decide +kernel)⟩⟩
set_option maxRecDepth 100000 in
theorem ab_vk_3_96 : ∀ ci, ab_vk 3 96 ci = 18 := fun _ => rfl
set_option maxRecDepth 100000 in
theorem ab_ss_3_99 : ab_sS RX3 99 110 1 := ⟨ab_ok110, List.mem_of_getElem? (i := 366) (by decide +kernel), Or.inr ⟨"LevelLadders", List.mem_of_getElem? (i := 430) (by decide +kernel)⟩⟩
set_option maxRecDepth 100000 in
theorem ab_lk_3_99 : ab_lk 3 99 = 110 := by decide +kernel
set_option maxRecDepth 100000 in
theorem ab_sv_3_103_1 : ab_sV RX3 103 1 4 3 := ⟨ab_ok4, List.mem_of_getElem? (i := 347) (by decide +kernel), RX1, TX1, 0, rfl, Or.inl ⟨Or.inl (List.mem_of_getElem? (i := 431) (by decide +kernel)), List.mem_of_getElem? (i := 348) (by decide +kernel)⟩⟩
set_option maxRecDepth 100000 in
theorem ab_vk_3_103_1 : ab_vk 3 103 1 = 4 := by decide +kernel
set_option maxRecDepth 100000 in
theorem ab_sv_3_103_0 : ab_sV RX3 103 0 1 3 := ⟨ab_ok1, List.mem_of_getElem? (i := 351) (by decide +kernel), RX0, TX0, 0, rfl, Or.inr ⟨⟨"LevelLadders$Free", "centre", "(III)I"⟩, "LevelLadders$Free", cX1_centre, 4, (some .int), List.mem_of_getElem? (i := 431) (by decide +kernel), List.mem_of_getElem? (i := 349) (by decide +kernel), List.mem_of_getElem? (i := 347) (by decide +kernel), List.mem_of_getElem? (i := 350) (by decide +kernel), List.mem_of_getElem? (i := 364) (by decide +kernel), ⟨by decide +kernel, by decide +kernel⟩, by decide +kernel⟩⟩
set_option maxRecDepth 100000 in
theorem ab_vk_3_103_0 : ab_vk 3 103 0 = 1 := by decide +kernel
set_option maxRecDepth 100000 in
theorem ab_sv_3_103_8 : ab_sV RX3 103 8 57 3 := ⟨ab_ok57, List.mem_of_getElem? (i := 357) (by decide +kernel), RX8, TX8, 0, rfl, Or.inr ⟨⟨"LevelLadders$Free", "centre", "(III)I"⟩, "LevelLadders$Free", cX1_centre, 4, (some .int), List.mem_of_getElem? (i := 431) (by decide +kernel), List.mem_of_getElem? (i := 349) (by decide +kernel), List.mem_of_getElem? (i := 347) (by decide +kernel), List.mem_of_getElem? (i := 356) (by decide +kernel), List.mem_of_getElem? (i := 364) (by decide +kernel), ⟨by decide +kernel, by decide +kernel⟩, by decide +kernel⟩⟩
set_option maxRecDepth 100000 in
theorem ab_vk_3_103_8 : ab_vk 3 103 8 = 57 := by decide +kernel
set_option maxRecDepth 100000 in
theorem ab_sv_3_103_5 : ab_sV RX3 103 5 35 3 := ⟨ab_ok35, List.mem_of_getElem? (i := 354) (by decide +kernel), RX5, TX5, 0, rfl, Or.inr ⟨⟨"LevelLadders$Free", "centre", "(III)I"⟩, "LevelLadders$Free", cX1_centre, 4, (some .int), List.mem_of_getElem? (i := 431) (by decide +kernel), List.mem_of_getElem? (i := 349) (by decide +kernel), List.mem_of_getElem? (i := 347) (by decide +kernel), List.mem_of_getElem? (i := 353) (by decide +kernel), List.mem_of_getElem? (i := 364) (by decide +kernel), ⟨by decide +kernel, by decide +kernel⟩, by decide +kernel⟩⟩
set_option maxRecDepth 100000 in
theorem ab_vk_3_103_5 : ab_vk 3 103 5 = 35 := by decide +kernel
set_option maxRecDepth 100000 in
theorem ab_sv_3_103_9 : ab_sV RX3 103 9 59 3 := ⟨ab_ok59, List.mem_of_getElem? (i := 361) (by decide +kernel), RX9, TX9, 0, rfl, Or.inr ⟨⟨"LevelLadders$Free", "centre", "(III)I"⟩, "LevelLadders$Free", cX1_centre, 4, (some .int), List.mem_of_getElem? (i := 431) (by decide +kernel), List.mem_of_getElem? (i := 349) (by decide +kernel), List.mem_of_getElem? (i := 347) (by decide +kernel), List.mem_of_getElem? (i := 360) (by decide +kernel), List.mem_of_getElem? (i := 364) (by decide +kernel), ⟨by decide +kernel, by decide +kernel⟩, by decide +kernel⟩⟩
set_option maxRecDepth 100000 in
theorem ab_vk_3_103_9 : ab_vk 3 103 9 = 59 := by decide +kernel
set_option maxRecDepth 100000 in
theorem ab_sv_3_106 : ab_sV RX3 106 3 19 2 := ⟨ab_ok19, List.mem_of_getElem? (i := 437) (by decide +kernel), RX3, TX3, 7, rfl, Or.inl ⟨Or.inl (List.mem_of_getElem? (i := 436) (by decide +kernel)), List.mem_of_getElem? (i := 438) (by decide +kernel)⟩⟩
set_option maxRecDepth 100000 in
theorem ab_vk_3_106 : ∀ ci, ab_vk 3 106 ci = 19 := fun _ => rfl
set_option maxRecDepth 100000 in
theorem ab_fl_3_109 : ab_fl RX3 109 10 0 := ⟨RX10, TX10, 2, rfl, by decide, Or.inl (List.mem_of_getElem? (i := 91) (by decide +kernel))⟩
set_option maxRecDepth 100000 in
theorem ab_lk_3_109 : ab_lk 3 109 = 1000 := by decide +kernel
set_option maxRecDepth 100000 in
theorem ab_fl_3_114 : ab_fl RX3 114 10 1 := ⟨RX10, TX10, 2, rfl, by decide, Or.inl (List.mem_of_getElem? (i := 95) (by decide +kernel))⟩
set_option maxRecDepth 100000 in
theorem ab_lk_3_114 : ab_lk 3 114 = 1001 := by decide +kernel
set_option maxRecDepth 100000 in
theorem ab_fl_3_44 : ab_fl RX3 44 3 5 := ⟨RX3, TX3, 7, rfl, by decide, Or.inl (List.mem_of_getElem? (i := 201) (by decide +kernel))⟩
set_option maxRecDepth 100000 in
theorem ab_sv_3_117 : ab_sV RX3 117 10 62 1 := ⟨ab_ok62, List.mem_of_getElem? (i := 590) (by decide +kernel), RX10, TX10, 2, rfl, Or.inl ⟨Or.inl (List.mem_of_getElem? (i := 606) (by decide +kernel)), List.mem_of_getElem? (i := 591) (by decide +kernel)⟩⟩
set_option maxRecDepth 100000 in
theorem ab_vk_3_117 : ∀ ci, ab_vk 3 117 ci = 62 := fun _ => rfl
set_option maxRecDepth 100000 in
theorem ab_fl_3_50 : ab_fl RX3 50 3 6 := ⟨RX3, TX3, 7, rfl, by decide, Or.inl (List.mem_of_getElem? (i := 202) (by decide +kernel))⟩
set_option maxRecDepth 100000 in
theorem ab_sv_3_120 : ab_sV RX3 120 2 6 2 := ⟨ab_ok6, List.mem_of_getElem? (i := 455) (by decide +kernel), RX2, TX2, 6, rfl, Or.inl ⟨Or.inl (List.mem_of_getElem? (i := 454) (by decide +kernel)), List.mem_of_getElem? (i := 456) (by decide +kernel)⟩⟩
set_option maxRecDepth 100000 in
theorem ab_vk_3_120 : ∀ ci, ab_vk 3 120 ci = 6 := fun _ => rfl
set_option maxRecDepth 100000 in
theorem ab_sv_3_124 : ab_sV RX3 124 2 7 3 := ⟨ab_ok7, List.mem_of_getElem? (i := 459) (by decide +kernel), RX2, TX2, 6, rfl, Or.inl ⟨Or.inl (List.mem_of_getElem? (i := 458) (by decide +kernel)), List.mem_of_getElem? (i := 460) (by decide +kernel)⟩⟩
set_option maxRecDepth 100000 in
theorem ab_vk_3_124 : ∀ ci, ab_vk 3 124 ci = 7 := fun _ => rfl
set_option maxRecDepth 100000 in
theorem ab_sv_3_127 : ab_sV RX3 127 2 8 0 := ⟨ab_ok8, List.mem_of_getElem? (i := 463) (by decide +kernel), RX2, TX2, 6, rfl, Or.inl ⟨Or.inl (List.mem_of_getElem? (i := 462) (by decide +kernel)), List.mem_of_getElem? (i := 464) (by decide +kernel)⟩⟩
set_option maxRecDepth 100000 in
theorem ab_vk_3_127 : ∀ ci, ab_vk 3 127 ci = 8 := fun _ => rfl
set_option maxRecDepth 100000 in
theorem ab_mo_4_3 : Cond.methodLink RX4 3 objectInit ∈ lw_tbl := List.mem_of_getElem? (i := 82) (by decide +kernel)
set_option maxRecDepth 100000 in
theorem ab_lk_4_3 : ab_lk 4 3 = 998 := by decide +kernel
set_option maxRecDepth 100000 in
theorem ab_fp_4_9 : ab_fp RX4 "<init>" 9 4 0 := ⟨RX4, TX4, 5, rfl, by decide, Or.inr ⟨rfl, rfl, rfl, List.mem_of_getElem? (i := 104) (by decide +kernel)⟩⟩
set_option maxRecDepth 100000 in
theorem ab_lk_4_9 : ab_lk 4 9 = 400 := by decide +kernel
set_option maxRecDepth 100000 in
theorem ab_an_4_15 : Cond.classLink RX4 15 "LevelLadders$Vector" ∈ lw_tbl ∧ Cond.arrayOver (.object "LevelLadders$Vector") ∈ lw_tbl := ⟨List.mem_of_getElem? (i := 83) (by decide +kernel), List.mem_of_getElem? (i := 84) (by decide +kernel)⟩
set_option maxRecDepth 100000 in
theorem ab_lk_4_15 : ab_lk 4 15 = 10 := by decide +kernel
set_option maxRecDepth 100000 in
theorem ab_nw_4_15 : ab_lk 4 15 = 10 ∧ ab_nc RX4 15 10 2 := ⟨by decide +kernel, RX10, TX10, rfl, List.mem_of_getElem? (i := 83) (by decide +kernel), List.mem_of_getElem? (i := 85) (by decide +kernel), List.mem_of_getElem? (i := 56) (by decide +kernel)⟩
set_option maxRecDepth 100000 in
theorem ab_si_4_17 : ab_sI RX4 17 60 0 := ⟨ab_ok60, List.mem_of_getElem? (i := 87) (by decide +kernel), rfl, rfl, Or.inr ⟨"LevelLadders", List.mem_of_getElem? (i := 86) (by decide +kernel)⟩⟩
set_option maxRecDepth 100000 in
theorem ab_lk_4_17 : ab_lk 4 17 = 60 := by decide +kernel
set_option maxRecDepth 100000 in
theorem ab_fp_4_18 : ab_fp RX4 "<init>" 18 4 1 := ⟨RX4, TX4, 5, rfl, by decide, Or.inr ⟨rfl, rfl, rfl, List.mem_of_getElem? (i := 106) (by decide +kernel)⟩⟩
set_option maxRecDepth 100000 in
theorem ab_lk_4_18 : ab_lk 4 18 = 401 := by decide +kernel
set_option maxRecDepth 100000 in
theorem ab_fp_4_22 : ab_fp RX4 "<init>" 22 4 2 := ⟨RX4, TX4, 5, rfl, by decide, Or.inr ⟨rfl, rfl, rfl, List.mem_of_getElem? (i := 108) (by decide +kernel)⟩⟩
set_option maxRecDepth 100000 in
theorem ab_lk_4_22 : ab_lk 4 22 = 402 := by decide +kernel
set_option maxRecDepth 100000 in
theorem ab_fp_4_25 : ab_fp RX4 "<init>" 25 4 3 := ⟨RX4, TX4, 5, rfl, by decide, Or.inr ⟨rfl, rfl, rfl, List.mem_of_getElem? (i := 110) (by decide +kernel)⟩⟩
set_option maxRecDepth 100000 in
theorem ab_lk_4_25 : ab_lk 4 25 = 403 := by decide +kernel
set_option maxRecDepth 100000 in
theorem ab_fl_4_9 : ab_fl RX4 9 4 0 := ⟨RX4, TX4, 5, rfl, by decide, Or.inl (List.mem_of_getElem? (i := 104) (by decide +kernel))⟩
set_option maxRecDepth 100000 in
theorem ab_mc_4_28 : Cond.methodLink RX4 28 arraycopyName ∈ lw_tbl := List.mem_of_getElem? (i := 748) (by decide +kernel)
set_option maxRecDepth 100000 in
theorem ab_lk_4_28 : ab_lk 4 28 = 999 := by decide +kernel
set_option maxRecDepth 100000 in
theorem ab_fl_4_18 : ab_fl RX4 18 4 1 := ⟨RX4, TX4, 5, rfl, by decide, Or.inl (List.mem_of_getElem? (i := 106) (by decide +kernel))⟩
set_option maxRecDepth 100000 in
theorem ab_sv_4_34 : ab_sV RX4 34 10 61 1 := ⟨ab_ok61, List.mem_of_getElem? (i := 612) (by decide +kernel), RX10, TX10, 2, rfl, Or.inl ⟨Or.inl (List.mem_of_getElem? (i := 749) (by decide +kernel)), List.mem_of_getElem? (i := 613) (by decide +kernel)⟩⟩
set_option maxRecDepth 100000 in
theorem ab_vk_4_34 : ∀ ci, ab_vk 4 34 ci = 61 := fun _ => rfl
set_option maxRecDepth 100000 in
theorem ab_fl_4_22 : ab_fl RX4 22 4 2 := ⟨RX4, TX4, 5, rfl, by decide, Or.inl (List.mem_of_getElem? (i := 108) (by decide +kernel))⟩
set_option maxRecDepth 100000 in
theorem ab_fl_4_25 : ab_fl RX4 25 4 3 := ⟨RX4, TX4, 5, rfl, by decide, Or.inl (List.mem_of_getElem? (i := 110) (by decide +kernel))⟩
set_option maxRecDepth 100000 in
theorem ab_fl_4_38 : ab_fl RX4 38 4 4 := ⟨RX4, TX4, 5, rfl, by decide, Or.inl (List.mem_of_getElem? (i := 112) (by decide +kernel))⟩
set_option maxRecDepth 100000 in
theorem ab_lk_4_38 : ab_lk 4 38 = 404 := by decide +kernel
set_option maxRecDepth 100000 in
theorem ab_fp_4_38 : ∀ mn, ab_fp RX4 mn 38 4 4 := fun _ => ⟨RX4, TX4, 5, rfl, by decide, Or.inl ⟨rfl, Or.inl (List.mem_of_getElem? (i := 112) (by decide +kernel))⟩⟩
set_option maxRecDepth 100000 in
theorem ab_sv_4_42 : ab_sV RX4 42 10 66 0 := ⟨ab_ok66, List.mem_of_getElem? (i := 665) (by decide +kernel), RX10, TX10, 2, rfl, Or.inl ⟨Or.inl (List.mem_of_getElem? (i := 762) (by decide +kernel)), List.mem_of_getElem? (i := 666) (by decide +kernel)⟩⟩
set_option maxRecDepth 100000 in
theorem ab_vk_4_42 : ∀ ci, ab_vk 4 42 ci = 66 := fun _ => rfl
set_option maxRecDepth 100000 in
theorem ab_si_5_1 : ab_sI RX5 1 2 0 := ⟨ab_ok2, List.mem_of_getElem? (i := 135) (by decide +kernel), rfl, rfl, Or.inr ⟨"LevelLadders", List.mem_of_getElem? (i := 158) (by decide +kernel)⟩⟩
set_option maxRecDepth 100000 in
theorem ab_lk_5_1 : ab_lk 5 1 = 2 := by decide +kernel
set_option maxRecDepth 100000 in
theorem ab_mo_6_3 : Cond.methodLink RX6 3 objectInit ∈ lw_tbl := List.mem_of_getElem? (i := 223) (by decide +kernel)
set_option maxRecDepth 100000 in
theorem ab_lk_6_3 : ab_lk 6 3 = 998 := by decide +kernel
set_option maxRecDepth 100000 in
theorem ab_fp_6_9 : ab_fp RX6 "<init>" 9 6 0 := ⟨RX6, TX6, 4, rfl, by decide, Or.inr ⟨rfl, rfl, rfl, List.mem_of_getElem? (i := 224) (by decide +kernel)⟩⟩
set_option maxRecDepth 100000 in
theorem ab_lk_6_9 : ab_lk 6 9 = 600 := by decide +kernel
set_option maxRecDepth 100000 in
theorem ab_fp_6_15 : ab_fp RX6 "<init>" 15 6 1 := ⟨RX6, TX6, 4, rfl, by decide, Or.inr ⟨rfl, rfl, rfl, List.mem_of_getElem? (i := 225) (by decide +kernel)⟩⟩
set_option maxRecDepth 100000 in
theorem ab_lk_6_15 : ab_lk 6 15 = 601 := by decide +kernel
set_option maxRecDepth 100000 in
theorem ab_fp_6_19 : ab_fp RX6 "<init>" 19 6 2 := ⟨RX6, TX6, 4, rfl, by decide, Or.inr ⟨rfl, rfl, rfl, List.mem_of_getElem? (i := 226) (by decide +kernel)⟩⟩
set_option maxRecDepth 100000 in
theorem ab_lk_6_19 : ab_lk 6 19 = 602 := by decide +kernel
set_option maxRecDepth 100000 in
theorem ab_fp_6_22 : ab_fp RX6 "<init>" 22 6 3 := ⟨RX6, TX6, 4, rfl, by decide, Or.inr ⟨rfl, rfl, rfl, List.mem_of_getElem? (i := 227) (by decide +kernel)⟩⟩
set_option maxRecDepth 100000 in
theorem ab_lk_6_22 : ab_lk 6 22 = 603 := by decide +kernel
set_option maxRecDepth 100000 in
theorem ab_fl_6_19 : ab_fl RX6 19 6 2 := ⟨RX6, TX6, 4, rfl, by decide, Or.inl (List.mem_of_getElem? (i := 226) (by decide +kernel))⟩
set_option maxRecDepth 100000 in
theorem ab_fl_6_15 : ab_fl RX6 15 6 1 := ⟨RX6, TX6, 4, rfl, by decide, Or.inl (List.mem_of_getElem? (i := 225) (by decide +kernel))⟩
set_option maxRecDepth 100000 in
theorem ab_mc_6_25 : Cond.methodLink RX6 25 arraycopyName ∈ lw_tbl := List.mem_of_getElem? (i := 502) (by decide +kernel)
set_option maxRecDepth 100000 in
theorem ab_lk_6_25 : ab_lk 6 25 = 999 := by decide +kernel
set_option maxRecDepth 100000 in
theorem ab_lk_6_31 : ab_lk 6 31 = 995 := by decide +kernel
set_option maxRecDepth 100000 in
theorem ab_gs_6_31 : Cond.fieldLink RX6 31 (ab_stn 5).1 (ab_stn 5).2.1 (ab_stn 5).2.2 ∈ lw_tbl ∨ ∃ host, Cond.fieldLinkNest RX6 31 (ab_stn 5).1 (ab_stn 5).2.1 (ab_stn 5).2.2 host ∈ lw_tbl := Or.inl (List.mem_of_getElem? (i := 503) (by decide +kernel))
set_option maxRecDepth 100000 in
theorem ab_sv_6_34 : ab_sV RX6 34 3 20 2 := ⟨ab_ok20, List.mem_of_getElem? (i := 400) (by decide +kernel), RX3, TX3, 7, rfl, Or.inl ⟨Or.inl (List.mem_of_getElem? (i := 505) (by decide +kernel)), List.mem_of_getElem? (i := 401) (by decide +kernel)⟩⟩
set_option maxRecDepth 100000 in
theorem ab_vk_6_34 : ∀ ci, ab_vk 6 34 ci = 20 := fun _ => rfl
set_option maxRecDepth 100000 in
theorem ab_fl_6_22 : ab_fl RX6 22 6 3 := ⟨RX6, TX6, 4, rfl, by decide, Or.inl (List.mem_of_getElem? (i := 227) (by decide +kernel))⟩
set_option maxRecDepth 100000 in
theorem ab_sv_6_40 : ab_sV RX6 40 3 28 1 := ⟨ab_ok28, List.mem_of_getElem? (i := 451) (by decide +kernel), RX3, TX3, 7, rfl, Or.inl ⟨Or.inl (List.mem_of_getElem? (i := 506) (by decide +kernel)), List.mem_of_getElem? (i := 452) (by decide +kernel)⟩⟩
set_option maxRecDepth 100000 in
theorem ab_vk_6_40 : ∀ ci, ab_vk 6 40 ci = 28 := fun _ => rfl
set_option maxRecDepth 100000 in
theorem ab_fl_6_44 : ab_fl RX6 44 2 5 := ⟨RX2, TX2, 6, rfl, by decide, Or.inr ⟨"LevelLadders", List.mem_of_getElem? (i := 180) (by decide +kernel)⟩⟩
set_option maxRecDepth 100000 in
theorem ab_lk_6_44 : ab_lk 6 44 = 205 := by decide +kernel
set_option maxRecDepth 100000 in
theorem ab_fl_6_9 : ab_fl RX6 9 6 0 := ⟨RX6, TX6, 4, rfl, by decide, Or.inl (List.mem_of_getElem? (i := 224) (by decide +kernel))⟩
set_option maxRecDepth 100000 in
theorem ab_sv_6_50 : ab_sV RX6 50 6 38 2 := ⟨ab_ok38, List.mem_of_getElem? (i := 509) (by decide +kernel), RX6, TX6, 4, rfl, Or.inl ⟨Or.inl (List.mem_of_getElem? (i := 507) (by decide +kernel)), List.mem_of_getElem? (i := 8) (by decide +kernel)⟩⟩
set_option maxRecDepth 100000 in
theorem ab_vk_6_50 : ∀ ci, ab_vk 6 50 ci = 38 := fun _ => rfl
set_option maxRecDepth 100000 in
theorem ab_ss_6_54 : ab_sS RX6 54 110 1 := ⟨ab_ok110, List.mem_of_getElem? (i := 366) (by decide +kernel), Or.inr ⟨"LevelLadders", List.mem_of_getElem? (i := 511) (by decide +kernel)⟩⟩
set_option maxRecDepth 100000 in
theorem ab_lk_6_54 : ab_lk 6 54 = 110 := by decide +kernel
set_option maxRecDepth 100000 in
theorem ab_mo_7_3 : Cond.methodLink RX7 3 objectInit ∈ lw_tbl := List.mem_of_getElem? (i := 243) (by decide +kernel)
set_option maxRecDepth 100000 in
theorem ab_lk_7_3 : ab_lk 7 3 = 998 := by decide +kernel
set_option maxRecDepth 100000 in
theorem ab_fp_7_9 : ab_fp RX7 "<init>" 9 7 4 := ⟨RX7, TX7, 6, rfl, by decide, Or.inr ⟨rfl, rfl, rfl, List.mem_of_getElem? (i := 251) (by decide +kernel)⟩⟩
set_option maxRecDepth 100000 in
theorem ab_lk_7_9 : ab_lk 7 9 = 704 := by decide +kernel
set_option maxRecDepth 100000 in
theorem ab_fp_7_15 : ab_fp RX7 "<init>" 15 7 0 := ⟨RX7, TX7, 6, rfl, by decide, Or.inr ⟨rfl, rfl, rfl, List.mem_of_getElem? (i := 244) (by decide +kernel)⟩⟩
