def ab_nmL_0 : List MethodName := [yX0_init, yX0_centre, yX1_init, yX1_slope, yX1_centre, yX2_init, yX2_resize, yX2_store, yX2_reduce, yX2_pivotRow, yX2_exchange, yX2_multiplyRow, yX2_clearColumn, yX2_nullNumber, yX2_freeColumn, yX2_rawNullNumber, yX3_init, yX3_kindOf, yX3_made, yX3_formed]
def ab_nmL_1 : List MethodName := [yX3_build, yX3_isBuilt, yX3_fillActs, yX3_joined, yX3_exchanged, yX3_fillForms, yX3_move, yX3_productOf, yX3_reducedForms, yX3_reducedLowerings, yX4_init, yX4_copyFrom, yX4_filledNumbers, yX5_init, yX5_slope, yX5_centre, yX6_init, yX6_learn, yX6_extend, yX6_howMany]
def ab_nmL_2 : List MethodName := [yX6_weight, yX7_init, yX7_clear, yX7_append, yX7_fault, yX7_next, yX7_modeBegun, yX7_isFigure, yX7_rewind, yX7_nextTerm, yX7_addMode, yX7_termLevel, yX7_appendTerms, yX7_appendTerm, yX7_appendNumber, yX8_init, yX8_slope, yX8_centre, yX9_init, yX9_centre]
def ab_nmL_3 : List MethodName := [yX10_init, yX10_copyFrom, yX10_becomeZero, yX10_becomeBasis, yX10_addTimes, yX10_multiply, yX10_filled, yX10_isZero, yX11_init, yX11_set, yX11_of, yX11_bracket, yX11_partition, yX11_act, yX11_form, yX11_determinant, yX11_rank, yX11_zeros, yX11_vanishing, yX11_were]
def ab_nmL_4 : List MethodName := [yX11_feed, yX11_read, yX11_become, yX11_level, yX11_coordinate, yX11_put, yX11_raise, yX11_add, yX11_product, yX11_isLowest, yX11_odds, yX11_plan, yX11_behind, yX11_write, yX11_paper, yX11_judge, yX11_list, yX11_lay, yX11_get, yX11_image]
def ab_nmL_5 : List MethodName := [yX11_undo, yX11_count, yX11_isWithin, yX11_isMode, yX11_isLevel, yX11_isBasis, yX11_isVector, yX11_hasNumber, yX11_isRowNumber, yX11_part, yX11_modulo, yX11_inverse, yX11_commonDivisor, yX11_sumOfTerms, yX11_addTerm, yX11_endsAsZero, yX11_doRow, yX12_init, yX12_follows, yX12_in]
def ab_nmL_6 : List MethodName := [yX12_mod, yX12_inverse, yX12_isLevel, yX12_isMode, yX12_many, yX12_isOf, yX12_isVector, yX12_set, yX12_of, yX12_slope, yX12_centre, yX12_bracket, yX12_row, yX12_placeOf, yX12_addsTo, yX12_lays, yX12_layAll, yX12_thinks, yX12_thinksOf, yX12_goes]
def ab_nmL_7 : List MethodName := [yX12_isNought, yX12_partition, yX12_act, yX12_formOf, yX12_form, yX12_changes, yX12_clears, yX12_steps, yX12_layForms, yX12_determinant, yX12_rank, yX12_weighs, yX12_zeros, yX12_were, yX12_layLowering, yX12_vanishing, yX12_feed, yX12_takes, yX12_isHere, yX12_readNumber]
def ab_nmL_8 : List MethodName := [yX12_readMode, yX12_readTerm, yX12_readTerms, yX12_levelOfTerm, yX12_termDone, yX12_read, yX12_becomesThought, yX12_become, yX12_level, yX12_isCoordinate, yX12_coordinate, yX12_put, yX12_raise, yX12_add, yX12_product, yX12_isLowest, yX12_endsAsNought, yX12_odds, yX12_plan, yX12_rowDone]
def ab_nmL_9 : List MethodName := [yX12_behind, yX12_writes, yX12_writesNumber, yX12_write, yX12_paper, yX12_isList, yX12_judge, yX12_list, yX12_lay, yX12_get, yX12_image, yX12_undo, yX12_count, yJ9_floorMod_7cf53, yJ9_max_7cf53, yJ9_min_7cf53, yL_law]
def ab_nmL : List MethodName := ab_nmL_0 ++ (ab_nmL_1 ++ (ab_nmL_2 ++ (ab_nmL_3 ++ (ab_nmL_4 ++ (ab_nmL_5 ++ (ab_nmL_6 ++ (ab_nmL_7 ++ (ab_nmL_8 ++ (ab_nmL_9)))))))))
def ab_codeL_0 : List ByteArray := [cX0_init, cX0_centre, cX1_init, cX1_slope, cX1_centre, cX2_init, cX2_resize, cX2_store, cX2_reduce, cX2_pivotRow, cX2_exchange, cX2_multiplyRow, cX2_clearColumn, cX2_nullNumber, cX2_freeColumn, cX2_rawNullNumber, cX3_init, cX3_kindOf, cX3_made, cX3_formed]
def ab_codeL_1 : List ByteArray := [cX3_build, cX3_isBuilt, cX3_fillActs, cX3_joined, cX3_exchanged, cX3_fillForms, cX3_move, cX3_productOf, cX3_reducedForms, cX3_reducedLowerings, cX4_init, cX4_copyFrom, cX4_filledNumbers, cX5_init, cX5_slope, cX5_centre, cX6_init, cX6_learn, cX6_extend, cX6_howMany]
def ab_codeL_2 : List ByteArray := [cX6_weight, cX7_init, cX7_clear, cX7_append, cX7_fault, cX7_next, cX7_modeBegun, cX7_isFigure, cX7_rewind, cX7_nextTerm, cX7_addMode, cX7_termLevel, cX7_appendTerms, cX7_appendTerm, cX7_appendNumber, cX8_init, cX8_slope, cX8_centre, cX9_init, cX9_centre]
def ab_codeL_3 : List ByteArray := [cX10_init, cX10_copyFrom, cX10_becomeZero, cX10_becomeBasis, cX10_addTimes, cX10_multiply, cX10_filled, cX10_isZero, cX11_init, cX11_set, cX11_of, cX11_bracket, cX11_partition, cX11_act, cX11_form, cX11_determinant, cX11_rank, cX11_zeros, cX11_vanishing, cX11_were]
def ab_codeL_4 : List ByteArray := [cX11_feed, cX11_read, cX11_become, cX11_level, cX11_coordinate, cX11_put, cX11_raise, cX11_add, cX11_product, cX11_isLowest, cX11_odds, cX11_plan, cX11_behind, cX11_write, cX11_paper, cX11_judge, cX11_list, cX11_lay, cX11_get, cX11_image]
def ab_codeL_5 : List ByteArray := [cX11_undo, cX11_count, cX11_isWithin, cX11_isMode, cX11_isLevel, cX11_isBasis, cX11_isVector, cX11_hasNumber, cX11_isRowNumber, cX11_part, cX11_modulo, cX11_inverse, cX11_commonDivisor, cX11_sumOfTerms, cX11_addTerm, cX11_endsAsZero, cX11_doRow, cX12_init, cX12_follows, cX12_in]
def ab_codeL_6 : List ByteArray := [cX12_mod, cX12_inverse, cX12_isLevel, cX12_isMode, cX12_many, cX12_isOf, cX12_isVector, cX12_set, cX12_of, cX12_slope, cX12_centre, cX12_bracket, cX12_row, cX12_placeOf, cX12_addsTo, cX12_lays, cX12_layAll, cX12_thinks, cX12_thinksOf, cX12_goes]
def ab_codeL_7 : List ByteArray := [cX12_isNought, cX12_partition, cX12_act, cX12_formOf, cX12_form, cX12_changes, cX12_clears, cX12_steps, cX12_layForms, cX12_determinant, cX12_rank, cX12_weighs, cX12_zeros, cX12_were, cX12_layLowering, cX12_vanishing, cX12_feed, cX12_takes, cX12_isHere, cX12_readNumber]
def ab_codeL_8 : List ByteArray := [cX12_readMode, cX12_readTerm, cX12_readTerms, cX12_levelOfTerm, cX12_termDone, cX12_read, cX12_becomesThought, cX12_become, cX12_level, cX12_isCoordinate, cX12_coordinate, cX12_put, cX12_raise, cX12_add, cX12_product, cX12_isLowest, cX12_endsAsNought, cX12_odds, cX12_plan, cX12_rowDone]
def ab_codeL_9 : List ByteArray := [cX12_behind, cX12_writes, cX12_writesNumber, cX12_write, cX12_paper, cX12_isList, cX12_judge, cX12_list, cX12_lay, cX12_get, cX12_image, cX12_undo, cX12_count, cJ9_floorMod_7cf53, cJ9_max_7cf53, cJ9_min_7cf53, cL_law]
def ab_codeL : List ByteArray := ab_codeL_0 ++ (ab_codeL_1 ++ (ab_codeL_2 ++ (ab_codeL_3 ++ (ab_codeL_4 ++ (ab_codeL_5 ++ (ab_codeL_6 ++ (ab_codeL_7 ++ (ab_codeL_8 ++ (ab_codeL_9)))))))))
def ab_maxLL_0 : List Nat := [1, 4, 1, 3, 4, 1, 3, 4, 4, 3, 5, 4, 7, 5, 2, 3, 1, 2, 3, 3, 6, 3, 11, 5, 6, 7, 8, 8, 6, 6, 1, 3, 3, 1, 3, 4, 1, 6, 5, 5, 6, 2, 1, 2, 3, 2, 1, 3, 1, 4]
def ab_maxLL_1 : List Nat := [2, 3, 4, 4, 2, 1, 3, 4, 1, 4, 1, 2, 3, 3, 4, 3, 3, 1, 1, 4, 2, 5, 5, 6, 4, 2, 2, 3, 5, 4, 2, 4, 4, 2, 3, 6, 5, 5, 4, 4, 7, 3, 4, 2, 2, 5, 4, 5, 3, 1]
def ab_maxLL_2 : List Nat := [1, 2, 2, 1, 1, 2, 1, 3, 2, 4, 1, 2, 3, 4, 3, 7, 4, 3, 5, 3, 1, 3, 1, 1, 2, 3, 1, 4, 2, 3, 4, 4, 2, 8, 6, 14, 4, 4, 3, 6, 2, 5, 5, 6, 4, 5, 6, 7, 4, 2]
def ab_maxLL_3 : List Nat := [2, 8, 3, 4, 5, 6, 2, 2, 3, 2, 3, 1, 1, 5, 4, 6, 3, 4, 2, 3, 3, 5, 3, 5, 7, 3, 6, 9, 3, 4, 4, 2, 2, 6, 2, 1, 4, 4, 5, 3, 2, 2, 4, 3, 2, 2, 4]
def ab_maxLL : List Nat := ab_maxLL_0 ++ (ab_maxLL_1 ++ (ab_maxLL_2 ++ (ab_maxLL_3)))
def ab_retL_0 : List (Option FieldType) := [none, (some .int), none, (some .int), (some .int), none, none, none, none, (some .int), none, none, none, (some .int), (some .int), (some .int), none, (some (.object "LevelLadders$Free")), (some .int), (some .int)]
def ab_retL_1 : List (Option FieldType) := [none, (some .boolean), none, (some .int), (some .int), none, none, (some .int), (some (.object "LevelLadders$Grid")), (some (.object "LevelLadders$Grid")), none, none, (some .int), none, (some .int), (some .int), none, none, none, (some .int)]
def ab_retL_2 : List (Option FieldType) := [(some .int), none, none, (some .boolean), (some .int), (some .int), (some .int), (some .boolean), none, (some .boolean), none, (some .int), none, none, none, none, (some .int), (some .int), none, (some .int)]
def ab_retL_3 : List (Option FieldType) := [none, none, none, none, none, none, (some .int), (some .boolean), none, (some .int), (some .int), (some .int), (some .int), (some .int), (some .int), (some .int), (some .int), (some .int), (some .int), (some .int)]
def ab_retL_4 : List (Option FieldType) := [(some .int), (some .int), (some .int), (some .int), (some .int), (some .int), (some .int), (some .int), (some .int), (some .int), (some .long), (some .int), (some .int), (some .int), (some .int), (some .int), (some .int), (some .int), (some .long), (some .int)]
def ab_retL_5 : List (Option FieldType) := [(some .int), (some .int), (some .boolean), (some .boolean), (some .boolean), (some .boolean), (some .boolean), (some .boolean), (some .boolean), (some .int), (some .int), (some .int), (some .int), (some .int), none, (some .boolean), none, none, none, (some .boolean)]
def ab_retL_6 : List (Option FieldType) := [(some .int), (some .int), (some .boolean), (some .boolean), (some .int), (some .boolean), (some .boolean), (some .int), (some .int), (some .int), (some .int), (some .int), (some .int), (some .int), none, none, none, none, none, none]
def ab_retL_7 : List (Option FieldType) := [(some .boolean), (some .int), (some .int), (some .int), (some .int), none, none, none, none, (some .int), (some .int), (some .int), (some .int), (some .int), none, (some .int), (some .int), (some .boolean), (some .boolean), none]
def ab_retL_8 : List (Option FieldType) := [(some .boolean), (some .boolean), (some .boolean), (some .int), none, (some .int), none, (some .int), (some .int), (some .boolean), (some .int), (some .int), (some .int), (some .int), (some .int), (some .int), (some .boolean), (some .long), (some .int), none]
def ab_retL_9 : List (Option FieldType) := [(some .int), none, none, (some .int), (some .int), (some .boolean), (some .int), (some .int), (some .int), (some .long), (some .int), (some .int), (some .int), (some .int), (some .int), (some .int), (some .boolean)]
def ab_retL : List (Option FieldType) := ab_retL_0 ++ (ab_retL_1 ++ (ab_retL_2 ++ (ab_retL_3 ++ (ab_retL_4 ++ (ab_retL_5 ++ (ab_retL_6 ++ (ab_retL_7 ++ (ab_retL_8 ++ (ab_retL_9)))))))))
def ab_depL_0 : List Nat := [2, 0, 1, 0, 0, 1, 0, 0, 2, 0, 0, 0, 0, 3, 0, 2, 4, 0, 0, 0, 3, 0, 2, 0, 1, 1, 1, 1, 3, 3, 2, 2, 1, 2, 0, 0, 1, 4, 2, 0, 0, 1, 0, 0, 3, 2, 1, 0, 0, 1]
def ab_depL_1 : List Nat := [0, 0, 3, 2, 1, 3, 1, 1, 3, 1, 1, 1, 0, 1, 0, 0, 0, 1, 5, 1, 1, 2, 3, 4, 4, 4, 4, 6, 4, 5, 1, 4, 3, 2, 4, 4, 4, 2, 4, 4, 4, 3, 4, 4, 1, 2, 1, 1, 1, 3]
def ab_depL_2 : List Nat := [3, 2, 0, 0, 1, 2, 1, 3, 2, 0, 1, 0, 0, 3, 2, 2, 2, 2, 1, 0, 0, 0, 1, 1, 0, 2, 1, 1, 1, 1, 1, 2, 0, 0, 0, 2, 3, 0, 0, 1, 0, 3, 4, 2, 4, 0, 1, 2, 4, 5]
def ab_depL_3 : List Nat := [5, 5, 6, 6, 4, 5, 1, 0, 1, 2, 2, 3, 4, 2, 3, 5, 0, 3, 2, 2, 3, 3, 4, 2, 4, 4, 2, 4, 2, 2, 4, 0, 1, 2, 1, 1, 2, 2, 2, 2, 0, 0, 1, 0, 0, 0, 7]
def ab_depL : List Nat := ab_depL_0 ++ (ab_depL_1 ++ (ab_depL_2 ++ (ab_depL_3)))
def ab_costL_0 : List (Nat × Nat) := [(0, 0), (0, 0), (0, 0), (0, 0), (0, 0), (2, 91), (0, 0), (0, 0), (0, 0), (0, 0), (0, 0), (0, 0), (0, 0), (0, 0), (0, 0), (0, 0), (13, 835), (0, 0), (0, 0), (0, 0), (0, 0), (0, 0), (0, 0), (0, 0), (0, 0), (0, 0), (0, 0), (0, 0), (0, 0), (0, 0), (12, 60), (0, 0), (0, 0), (0, 0), (0, 0), (0, 0), (4, 637), (0, 0), (0, 0), (0, 0), (0, 0), (2, 124), (0, 0), (0, 0), (0, 0), (0, 0), (0, 0), (0, 0), (0, 0), (0, 0)]
def ab_costL_1 : List (Nat × Nat) := [(0, 0), (0, 0), (0, 0), (0, 0), (0, 0), (0, 0), (0, 0), (0, 0), (0, 0), (0, 0), (1, 7), (0, 0), (0, 0), (0, 0), (0, 0), (0, 0), (0, 0), (0, 0), (61, 1947), (0, 0), (0, 0), (0, 0), (0, 0), (0, 0), (0, 0), (0, 0), (0, 0), (0, 0), (0, 0), (0, 0), (0, 0), (0, 0), (0, 0), (0, 0), (0, 0), (0, 0), (0, 0), (0, 0), (0, 0), (0, 0), (0, 0), (0, 0), (0, 0), (0, 0), (0, 0), (0, 0), (0, 0), (0, 0), (0, 0), (0, 0)]
def ab_costL_2 : List (Nat × Nat) := [(0, 0), (0, 0), (0, 0), (0, 0), (0, 0), (0, 0), (0, 0), (0, 0), (0, 0), (0, 0), (0, 0), (0, 0), (0, 0), (0, 0), (0, 0), (0, 0), (0, 0), (23, 2253), (0, 0), (0, 0), (0, 0), (0, 0), (0, 0), (0, 0), (0, 0), (0, 0), (0, 0), (0, 0), (0, 0), (0, 0), (0, 0), (0, 0), (0, 0), (0, 0), (0, 0), (0, 0), (0, 0), (0, 0), (0, 0), (0, 0), (0, 0), (0, 0), (0, 0), (0, 0), (0, 0), (0, 0), (0, 0), (0, 0), (0, 0), (0, 0)]
def ab_costL_3 : List (Nat × Nat) := [(0, 0), (0, 0), (0, 0), (0, 0), (0, 0), (0, 0), (0, 0), (0, 0), (0, 0), (0, 0), (0, 0), (0, 0), (0, 0), (0, 0), (0, 0), (0, 0), (0, 0), (0, 0), (0, 0), (0, 0), (0, 0), (0, 0), (0, 0), (0, 0), (0, 0), (0, 0), (0, 0), (0, 0), (0, 0), (0, 0), (0, 0), (0, 0), (0, 0), (0, 0), (0, 0), (0, 0), (0, 0), (0, 0), (0, 0), (0, 0), (0, 0), (0, 0), (0, 0), (0, 0), (0, 0), (0, 0), (600000, 7302250)]
def ab_costL : List (Nat × Nat) := ab_costL_0 ++ (ab_costL_1 ++ (ab_costL_2 ++ (ab_costL_3)))
def ab_onL_0 : List Nat := [0, 0, 1, 1, 1, 2, 2, 2, 2, 2, 2, 2, 2, 2, 2, 2, 3, 3, 3, 3, 3, 3, 3, 3, 3, 3, 3, 3, 3, 3, 4, 4, 4, 5, 5, 5, 6, 6, 6, 6, 6, 7, 7, 7, 7, 7, 7, 7, 7, 7]
def ab_onL_1 : List Nat := [7, 7, 7, 7, 7, 8, 8, 8, 9, 9, 10, 10, 10, 10, 10, 10, 10, 10, 11, 11, 11, 11, 11, 11, 11, 11, 11, 11, 11, 11, 11, 11, 11, 11, 11, 11, 11, 11, 11, 11, 11, 11, 11, 11, 11, 11, 11, 11, 11, 11]
def ab_onL_2 : List Nat := [11, 11, 11, 11, 11, 11, 11, 11, 11, 11, 11, 11, 11, 11, 11, 11, 11, 12, 12, 12, 12, 12, 12, 12, 12, 12, 12, 12, 12, 12, 12, 12, 12, 12, 12, 12, 12, 12, 12, 12, 12, 12, 12, 12, 12, 12, 12, 12, 12, 12]
def ab_onL_3 : List Nat := [12, 12, 12, 12, 12, 12, 12, 12, 12, 12, 12, 12, 12, 12, 12, 12, 12, 12, 12, 12, 12, 12, 12, 12, 12, 12, 12, 12, 12, 12, 12, 12, 12, 12, 12, 12, 12, 12, 12, 12, 12, 12, 12, 13, 13, 13, 14]
def ab_onL : List Nat := ab_onL_0 ++ (ab_onL_1 ++ (ab_onL_2 ++ (ab_onL_3)))
def ab_lkT_0 : List (Nat × Nat × Nat) := [(0, 1, 2), (1, 1, 998), (2, 3, 998), (2, 11, 200), (2, 15, 201), (2, 18, 202), (2, 22, 203), (2, 25, 204), (2, 28, 205), (2, 31, 9), (2, 35, 10), (2, 39, 110), (2, 42, 111), (2, 45, 11), (2, 48, 12), (2, 51, 14), (2, 55, 15), (3, 3, 998), (3, 9, 1), (3, 11, 2), (3, 12, 0), (3, 14, 0), (3, 15, 8), (3, 17, 55), (3, 18, 5), (3, 20, 33), (3, 21, 9), (3, 23, 58), (3, 24, 300), (3, 30, 301), (3, 34, 302), (3, 38, 303), (3, 41, 304), (3, 44, 305), (3, 47, 2), (3, 49, 5), (3, 50, 306), (3, 54, 21), (3, 58, 999), (3, 64, 991), (3, 67, 22), (3, 71, 25), (3, 75, 994), (3, 78, 23), (3, 82, 993), (3, 85, 17), (3, 93, 24), (3, 96, 18), (3, 99, 110), (3, 106, 19)]
def ab_lkT_1 : List (Nat × Nat × Nat) := [(3, 109, 1000), (3, 114, 1001), (3, 117, 62), (3, 120, 6), (3, 124, 7), (3, 127, 8), (4, 3, 998), (4, 9, 400), (4, 15, 10), (4, 17, 60), (4, 18, 401), (4, 22, 402), (4, 25, 403), (4, 28, 999), (4, 34, 61), (4, 38, 404), (4, 42, 66), (5, 1, 2), (6, 3, 998), (6, 9, 600), (6, 15, 601), (6, 19, 602), (6, 22, 603), (6, 25, 999), (6, 31, 995), (6, 34, 20), (6, 40, 28), (6, 44, 205), (6, 50, 38), (6, 54, 110), (7, 3, 998), (7, 9, 704), (7, 15, 700), (7, 19, 701), (7, 23, 45), (7, 27, 47), (7, 31, 46), (7, 35, 702), (7, 38, 703), (7, 41, 705), (7, 44, 50), (7, 48, 991), (7, 51, 1000), (7, 56, 1001), (7, 59, 53), (7, 63, 43), (7, 67, 54), (7, 70, 992), (7, 73, 109), (8, 1, 0)]
def ab_lkT_2 : List (Nat × Nat × Nat) := [(8, 7, 3), (8, 11, 1), (9, 1, 33), (9, 7, 35), (10, 3, 998), (10, 9, 1001), (10, 15, 1000), (10, 19, 999), (10, 25, 62), (10, 29, 66), (11, 3, 998), (11, 9, 4), (11, 11, 30), (11, 12, 1100), (11, 18, 1101), (11, 21, 3), (11, 23, 16), (11, 24, 1103), (11, 28, 6), (11, 30, 36), (11, 31, 1104), (11, 35, 7), (11, 37, 41), (11, 40, 1105), (11, 44, 1106), (11, 47, 10), (11, 49, 60), (11, 50, 1107), (11, 54, 1108), (11, 59, 1109), (11, 62, 1110), (11, 66, 102), (11, 70, 400), (11, 73, 103), (11, 77, 17), (11, 91, 110), (11, 95, 105), (11, 98, 991), (11, 101, 992), (11, 104, 109), (11, 107, 104), (11, 110, 194), (11, 115, 20), (11, 119, 18), (11, 122, 19), (11, 125, 28), (11, 129, 205), (11, 135, 204), (11, 138, 79), (11, 141, 29)]
def ab_lkT_3 : List (Nat × Nat × Nat) := [(11, 144, 203), (11, 147, 13), (11, 150, 37), (11, 154, 39), (11, 157, 40), (11, 160, 43), (11, 163, 701), (11, 166, 106), (11, 169, 44), (11, 173, 113), (11, 176, 401), (11, 180, 61), (11, 184, 42), (11, 187, 63), (11, 191, 1000), (11, 194, 107), (11, 197, 1001), (11, 200, 26), (11, 204, 64), (11, 207, 27), (11, 211, 67), (11, 215, 0), (11, 217, 115), (11, 220, 112), (11, 223, 404), (11, 226, 108), (11, 229, 402), (11, 232, 403), (11, 235, 116), (11, 238, 52), (11, 241, 700), (11, 245, 31), (11, 248, 1102), (11, 252, 32), (11, 255, 993), (11, 258, 994), (11, 261, 193), (11, 264, 48), (11, 267, 49), (11, 270, 51), (11, 273, 62), (11, 276, 114), (11, 279, 705), (11, 282, 704), (11, 285, 703), (11, 288, 1103515245), (11, 289, 65), (12, 3, 998), (12, 9, 1200), (12, 15, 1201)]
def ab_lkT_4 : List (Nat × Nat × Nat) := [(12, 18, 1202), (12, 21, 1203), (12, 24, 1204), (12, 27, 1205), (12, 30, 1206), (12, 33, 1207), (12, 36, 1209), (12, 39, 1212), (12, 42, 1213), (12, 45, 1214), (12, 48, 1215), (12, 52, 1216), (12, 55, 1218), (12, 58, 1219), (12, 61, 1220), (12, 64, 1223), (12, 67, 1227), (12, 70, 1228), (12, 73, 1230), (12, 76, 1231), (12, 79, 1233), (12, 82, 118), (12, 86, 195), (12, 92, 119), (12, 96, 122), (12, 100, 124), (12, 104, 120), (12, 107, 123), (12, 110, 129), (12, 113, 130), (12, 116, 132), (12, 119, 133), (12, 123, 134), (12, 127, 135), (12, 131, 1217), (12, 135, 125), (12, 139, 136), (12, 142, 137), (12, 145, 139), (12, 148, 143), (12, 151, 1222), (12, 154, 1224), (12, 157, 1221), (12, 160, 145), (12, 163, 121), (12, 166, 146), (12, 170, 147), (12, 173, 148), (12, 176, 151), (12, 179, 154)]
def ab_lkT_5 : List (Nat × Nat × Nat) := [(12, 182, 1208), (12, 185, 1225), (12, 188, 1226), (12, 191, 158), (12, 194, 157), (12, 197, 1229), (12, 200, 159), (12, 203, 160), (12, 207, 161), (12, 210, 163), (12, 213, 126), (12, 216, 162), (12, 219, 164), (12, 222, 166), (12, 225, 169), (12, 228, 138), (12, 231, 140), (12, 234, 1103515245), (12, 235, 0), (12, 237, 176), (12, 240, 1211), (12, 243, 179), (12, 246, 1210), (12, 249, 181), (12, 252, 182), (12, 255, 185), (12, 258, 1232), (14, 7, 11), (14, 9, 68), (14, 10, 12), (14, 12, 117), (14, 13, 69), (14, 17, 127), (14, 18, 70), (14, 22, 128), (14, 23, 71), (14, 27, 131), (14, 28, 72), (14, 31, 141), (14, 32, 73), (14, 36, 142), (14, 37, 74), (14, 40, 144), (14, 41, 75), (14, 44, 149), (14, 45, 76), (14, 48, 150), (14, 49, 77), (14, 52, 152), (14, 53, 78)]
def ab_lkT_6 : List (Nat × Nat × Nat) := [(14, 56, 155), (14, 57, 79), (14, 60, 153), (14, 61, 80), (14, 64, 156), (14, 65, 81), (14, 68, 165), (14, 69, 82), (14, 72, 167), (14, 73, 83), (14, 76, 168), (14, 77, 84), (14, 80, 170), (14, 81, 85), (14, 84, 171), (14, 85, 86), (14, 88, 172), (14, 89, 87), (14, 92, 173), (14, 93, 88), (14, 96, 174), (14, 97, 89), (14, 100, 175), (14, 101, 90), (14, 105, 177), (14, 106, 91), (14, 109, 178), (14, 110, 92), (14, 113, 180), (14, 114, 93), (14, 117, 183), (14, 118, 94), (14, 121, 184), (14, 122, 95), (14, 125, 186), (14, 126, 96), (14, 129, 187), (14, 130, 1), (14, 132, 97), (14, 136, 188), (14, 137, 98), (14, 141, 189), (14, 142, 99), (14, 146, 190), (14, 147, 100), (14, 150, 191), (14, 151, 101), (14, 154, 192)]
def ab_lkT : List (Nat × Nat × Nat) := ab_lkT_0 ++ (ab_lkT_1 ++ (ab_lkT_2 ++ (ab_lkT_3 ++ (ab_lkT_4 ++ (ab_lkT_5 ++ (ab_lkT_6))))))
def ab_vkT_0 : List (Nat × Nat × Nat × Nat) := [(3, 89, 0, 3), (3, 89, 1, 3), (3, 89, 5, 34), (3, 89, 8, 56), (3, 89, 9, 34), (3, 103, 0, 1), (3, 103, 1, 4), (3, 103, 5, 35), (3, 103, 8, 57), (3, 103, 9, 59), (11, 81, 0, 3), (11, 81, 1, 3), (11, 81, 5, 34), (11, 81, 8, 56), (11, 81, 9, 34), (11, 87, 0, 1), (11, 87, 1, 4), (11, 87, 5, 35), (11, 87, 8, 57), (11, 87, 9, 59)]
def ab_vkT : List (Nat × Nat × Nat × Nat) := ab_vkT_0
/-! ===== the plain machine: values, cells, heaps; its steps ===== -/
abbrev ab_V : Type := Int ⊕ (Int64 ⊕ Option Nat)
abbrev ab_C : Type := (Nat × List ab_V) ⊕ ((Nat × Nat × (Int → Int)) ⊕ ((Nat × (Int → Int64)) ⊕ (Nat × Nat × (Int → Option Nat))))
abbrev ab_H : Type := Nat → Option ab_C
abbrev ab_L : Type := List (Option ab_V)
abbrev ab_Q : Type := Option ab_V → ab_H → Nat → Prop
abbrev ab_P : Type := Nat → Nat → ab_L → List ab_V → ab_H → Nat → Nat × Nat → ab_Q → Prop
abbrev vi (x : Int) : ab_V := .inl x
abbrev vl (x : Int64) : ab_V := .inr (.inl x)
abbrev vr (a : Nat) : ab_V := .inr (.inr (some a))
abbrev vo (a : Option Nat) : ab_V := .inr (.inr a)
def ab_hs (h : ab_H) (a : Nat) (c : ab_C) : ab_H := fun b => if b = a then some c else h b
def ab_ui {α : Type} (f : Int → α) (i : Int) (x : α) : Int → α := fun j => if j = i then x else f j
def ab_cpy {α : Type} (f g : Int → α) (sp dp n : Int) : Int → α := fun j => if dp ≤ j ∧ j < dp + n then f (sp + (j - dp)) else g j
abbrev ab_inR (x : Int) : Prop := -2147483648 ≤ x ∧ x < 2147483648
def ab_cc (c : ClassFile.Cond) (x y : Int) : Prop := match c with
  | .eq => x = y
  | .ne => ¬ x = y
  | .lt => x < y
  | .ge => y ≤ x
  | .gt => y < x
  | .le => x ≤ y
def ab_cat (v : ab_V) : Nat := match v with
  | .inr (.inl _) => 2
  | _ => 1
def ab_nl : ab_L → Bool
  | [] => true
  | some (.inr (.inl _)) :: _ => false
  | _ :: l => ab_nl l
def ab_sl : List ab_V → ab_L
  | [] => []
  | .inr (.inl x) :: vs => some (.inr (.inl x)) :: none :: ab_sl vs
  | v :: vs => some v :: ab_sl vs
def ab_ent (m : Nat) (vs : List ab_V) : ab_L := ab_sl vs ++ List.replicate (m - (ab_sl vs).length) none
def ab_tb (l : List Int) (j : Int) : Int := l.getD j.toNat 0
def ab_nm (k : Nat) : MethodName := ab_nmL.getD k yL_law
def ab_code (k : Nat) : ByteArray := ab_codeL.getD k cL_law
def ab_maxL (k : Nat) : Nat := ab_maxLL.getD k 0
def ab_ret (k : Nat) : Option FieldType := ab_retL.getD k none
def ab_dep (k : Nat) : Nat := ab_depL.getD k 0
def ab_cost (k : Nat) : Nat × Nat := ab_costL.getD k (0, 0)
def ab_own (k : Nat) : String := (ab_nm k).cls
/-- a field of class ci: its type -/
def ab_tyf (ci : Nat) : Nat → FieldType := match ci with
  | 2 => tyX2
  | 3 => tyX3
  | 4 => tyX4
  | 6 => tyX6
  | 7 => tyX7
  | 10 => tyX10
  | 11 => tyX11
  | 12 => tyX12
  | _ => tyX0
def ab_dv (ty : FieldType) : ab_V := match ty with
  | .object _ => vo none
  | .array _ => vo none
  | .long => vl 0
  | _ => vi 0
def ab_dfs (ci N : Nat) : List ab_V := (List.range N).map fun j => ab_dv (ab_tyf ci j)
def ab_fit (ty : FieldType) (v : ab_V) : Prop := match ty, v with
  | .int, .inl _ => True
  | .boolean, .inl x => x = 0 ∨ x = 1
  | .object _, .inr (.inr _) => True
  | .array _, .inr (.inr _) => True
  | _, _ => False
def ab_fl (o : String) (idx ci kf : Nat) : Prop := ∃ (C : String) (T : u_T) (N : Nat), vwCl[ci]? = some (C, T, N) ∧ kf < N ∧ (Cond.fieldLink o idx (T kf).1 (T kf).2.1 (T kf).2.2.1 ∈ lw_tbl ∨ ∃ host, Cond.fieldLinkNest o idx (T kf).1 (T kf).2.1 (T kf).2.2.1 host ∈ lw_tbl)
def ab_fp (o : String) (mn : String) (idx ci kf : Nat) : Prop := ∃ (C : String) (T : u_T) (N : Nat), vwCl[ci]? = some (C, T, N) ∧ kf < N ∧ (((T kf).2.2.2 = false ∧ (Cond.fieldLink o idx (T kf).1 (T kf).2.1 (T kf).2.2.1 ∈ lw_tbl ∨ ∃ host, Cond.fieldLinkNest o idx (T kf).1 (T kf).2.1 (T kf).2.2.1 host ∈ lw_tbl)) ∨ ((T kf).2.2.2 = true ∧ mn = "<init>" ∧ (T kf).1 = o ∧ Cond.fieldLink o idx (T kf).1 (T kf).2.1 (T kf).2.2.1 ∈ lw_tbl))
def ab_on (k : Nat) : Nat := ab_onL.getD k 99
/-- what a class's link stands for, by number: a field 100 * class + place, a method, a class, an element type; 998 Object.<init>, 999 arraycopy -/
def ab_lk (o idx : Nat) : Nat := match ab_lkT.find? (fun q => q.1 == o && q.2.1 == idx) with
  | some q => q.2.2
  | none => 997
def ab_vk (o idx ci : Nat) : Nat := match ab_vkT.find? (fun q => q.1 == o && q.2.1 == idx && q.2.2.1 == ci) with
  | some q => q.2.2.2
  | none => ab_lk o idx
def ab_c8 (z : Nat) : Int64 := if z = 1 then 4294967295 else -9223372036854775808
def ab_xl (k idx ci kf : Nat) : Prop := (ab_lk (ab_on k) idx = ci * 100 + kf ∧ kf < 100) ∧ ab_fl (ab_own k) idx ci kf
def ab_xp (k idx ci kf : Nat) : Prop := (ab_lk (ab_on k) idx = ci * 100 + kf ∧ kf < 100) ∧ ab_fp (ab_own k) (ab_nm k).name idx ci kf
def ab_nc (o : String) (idx ci N : Nat) : Prop := ∃ (C : String) (T : u_T), vwCl[ci]? = some (C, T, N) ∧ Cond.classLink o idx C ∈ lw_tbl ∧ Cond.instantiable C N ∈ lw_tbl ∧ Cond.initialized C ∈ lw_tbl
abbrev ab_noMH (c : String) : Prop := c ≠ "java/lang/invoke/MethodHandle" ∧ c ≠ "java/lang/invoke/VarHandle"
def ab_ok (j n : Nat) : Prop := ab_noMH (ab_nm j).cls ∧ (parseMethodDescriptor (ab_nm j).desc).map (fun d => d.parameters.length) = some n ∧ Cond.code (ab_nm j) (ab_code j) (ab_maxL j) (ab_ret j) ∈ lw_tbl ∧ Cond.initialized (ab_nm j).cls ∈ lw_tbl ∧ ab_maxL j ≤ 19 ∧ plainFor (ab_nm j) = true
def ab_ln (o : String) (idx j : Nat) : Prop := Cond.methodLink o idx (ab_nm j) ∈ lw_tbl ∨ ∃ host, Cond.methodLinkNest o idx (ab_nm j) host ∈ lw_tbl
def ab_sS (o : String) (idx j n : Nat) : Prop := ab_ok j n ∧ Cond.static (ab_nm j) ∈ lw_tbl ∧ ab_ln o idx j
def ab_sV (o : String) (idx ci j n : Nat) : Prop := ab_ok j n ∧ Cond.instanceMethod (ab_nm j) ∈ lw_tbl ∧ ∃ (C : String) (T : u_T) (N : Nat), vwCl[ci]? = some (C, T, N) ∧
  ((ab_ln o idx j ∧ Cond.selects C (ab_nm j) (ab_nm j) ∈ lw_tbl) ∨
   (∃ (x : MethodName) (owner : String) (b0 : ByteArray) (m0 : Nat) (r0 : Option FieldType), Cond.methodLink o idx x ∈ lw_tbl ∧ Cond.sameMethod x.cls owner x.name x.desc ∈ lw_tbl ∧ Cond.instanceMethod ⟨owner, x.name, x.desc⟩ ∈ lw_tbl ∧ Cond.selects C x (ab_nm j) ∈ lw_tbl ∧ Cond.code ⟨owner, x.name, x.desc⟩ b0 m0 r0 ∈ lw_tbl ∧ ab_noMH owner ∧ (parseMethodDescriptor x.desc).map (fun d => d.parameters.length) = some n))
def ab_sI (o : String) (idx j n : Nat) : Prop := ab_ok j n ∧ Cond.instanceMethod (ab_nm j) ∈ lw_tbl ∧ (ab_nm j).name = "<init>" ∧ ab_ret j = none ∧ ab_ln o idx j
def ab_sU (o : String) (idx j n : Nat) : Prop := ab_ok j n ∧ ∃ sup : String, Cond.methodLink o idx ⟨sup, (ab_nm j).name, (ab_nm j).desc⟩ ∈ lw_tbl ∧ Cond.sameMethod sup (ab_nm j).cls (ab_nm j).name (ab_nm j).desc ∈ lw_tbl ∧ Cond.superclass o sup ∈ lw_tbl ∧ (sup = (ab_nm j).cls ∨ Cond.superclass sup (ab_nm j).cls ∈ lw_tbl) ∧ Cond.instanceMethod (ab_nm j) ∈ lw_tbl ∧ (ab_nm j).name ≠ "<init>"
/-- element types of arrays, by number -/
def ab_ety (t : Nat) : FieldType := match t with
  | 0 => .int
  | 1 => .byte
  | 2 => .boolean
  | 3 => .long
  | 4 => .object "LevelLadders$Vector"
  | 5 => .object "LevelLadders$Free"
  | _ => .array .long
def ab_na (t : ArrayType) (m : Nat) : Option ab_C := match t with
  | .int => some (.inr (.inl (0, m, fun _ => 0)))
  | .byte => some (.inr (.inl (1, m, fun _ => 0)))
  | .boolean => some (.inr (.inl (2, m, fun _ => 0)))
  | .long => some (.inr (.inr (.inl (m, fun _ => 0))))
  | _ => none
def ab_alen (c : ab_C) : Option Nat := match c with
  | .inl _ => none
  | .inr (.inl (_, m, _)) => some m
  | .inr (.inr (.inl (m, _))) => some m
  | .inr (.inr (.inr (_, m, _))) => some m
/-- the statics: START, LENGTH, REST, FIRST, DEGREE at 1 .. 5; the script at 0 -/
def ab_stn (i : Nat) : String × String × String := match i with
  | 1 => ("LevelLadders", "START", "[I")
  | 2 => ("LevelLadders", "LENGTH", "[I")
  | 3 => ("LevelLadders", "REST", "[I")
  | 4 => ("LevelLadders", "FIRST", "[I")
  | _ => ("LevelLadders$Sweep", "DEGREE", "[I")
def ab_st (S : Nat × (Int → Int)) (i : Nat) : Nat × (Int → Int) := match i with
  | 0 => S
  | 1 => (7, ab_tb [0, 1, 2, 4, 7, 12, 19])
  | 2 => (19, ab_tb [0, 1, 1, 2, 1, 2, 3, 1, 2, 2, 3, 4, 1, 2, 2, 3, 3, 4, 5])
  | 3 => (19, ab_tb [0, 0, 0, 1, 0, 1, 3, 0, 1, 2, 3, 6, 0, 1, 2, 3, 5, 6, 11])
  | 4 => (19, ab_tb [0, 1, 2, 1, 3, 2, 1, 4, 3, 2, 2, 1, 5, 4, 3, 3, 2, 2, 1])
  | _ => (6, ab_tb [0, 1, 3, 6, 12, 20])
/-- a call of method j with arguments As, and what follows -/
def ab_call (P : ab_P) (j : Nat) (As : List ab_V) (k pc : Nat) (L : ab_L) (rest : List ab_V) (h : ab_H) (n : Nat) (u : Nat × Nat) (Q : ab_Q) : Prop :=
  (rest.map ab_cat).sum ≤ 8 ∧ (ab_sl As).length ≤ ab_maxL j ∧ ab_dep j + 1 ≤ ab_dep k ∧ u.1 + (ab_cost j).1 ≤ (ab_cost k).1 ∧ u.2 + (ab_cost j).2 ≤ (ab_cost k).2 ∧
  ∃ R : ab_Q, P j 0 (ab_ent (ab_maxL j) As) [] h n (0, 0) R ∧ ∀ r h' n', R r h' n' → P k (pc + 3) L (r.toList ++ rest) h' n' (u.1 + (ab_cost j).1, u.2 + (ab_cost j).2) Q
def ab_acp (P : ab_P) (idx k pc : Nat) (L : ab_L) (S : List ab_V) (h : ab_H) (n : Nat) (u : Nat × Nat) (Q : ab_Q) : Prop :=
  ∃ m dp a sp a0 S' n0 n1 f g, S = vi m :: vi dp :: vr a :: vi sp :: vr a0 :: S' ∧ (ab_lk (ab_on k) idx = 999 ∧ Cond.methodLink (ab_own k) idx arraycopyName ∈ lw_tbl) ∧ h a0 = some (.inr (.inl (0, n0, f))) ∧ h a = some (.inr (.inl (0, n1, g))) ∧ 6 ≤ a0 ∧ 6 ≤ a ∧ 0 ≤ sp ∧ 0 ≤ dp ∧ 0 ≤ m ∧ sp + m ≤ (n0 : Int) ∧ dp + m ≤ (n1 : Int) ∧ (S'.map ab_cat).sum ≤ 8 ∧ 1 ≤ ab_dep k ∧ P k (pc + 3) L S' (ab_hs h a (.inr (.inl (0, n1, ab_cpy f g sp dp m)))) n u Q
def ab_mnp (P : ab_P) (idx k pc : Nat) (L : ab_L) (S : List ab_V) (h : ab_H) (n : Nat) (u : Nat × Nat) (Q : ab_Q) : Prop :=
  ∃ (m w : Nat) (S' : List ab_V), S = vi w :: vi m :: S' ∧ m ≤ 4096 ∧ w ≤ 4096 ∧ Cond.classLink (ab_own k) idx "[[J" ∈ lw_tbl ∧ u.1 + (1 + m) ≤ (ab_cost k).1 ∧ u.2 + (m + m * w) ≤ (ab_cost k).2 ∧
    P k (pc + 4) L (vr n :: S') (fun b => if b = n then some (.inr (.inr (.inr (6, m, fun i => if 0 ≤ i ∧ i < m then some (n + 1 + i.toNat) else none)))) else if n < b ∧ b < n + 1 + m then some (.inr (.inr (.inl (w, fun _ => 0)))) else h b) (n + 1 + m) (u.1 + 1 + m, u.2 + m + m * w) Q
def ab_I (P : ab_P) (i : Instr) (len k pc : Nat) (L : ab_L) (S : List ab_V) (h : ab_H) (n : Nat) (u : Nat × Nat) (Q : ab_Q) : Prop := match i with
  | .iload_n j => len = 1 ∧ ∃ x, L[(j : Nat)]? = some (some (vi x)) ∧ P k (pc + 1) L (vi x :: S) h n u Q
  | .iload j => len = 2 ∧ ∃ x, L[j]? = some (some (vi x)) ∧ P k (pc + 2) L (vi x :: S) h n u Q
  | .aload_n j => len = 1 ∧ ∃ x, L[(j : Nat)]? = some (some (vr x)) ∧ P k (pc + 1) L (vr x :: S) h n u Q
  | .aload j => len = 2 ∧ ∃ x, L[j]? = some (some (vr x)) ∧ P k (pc + 2) L (vr x :: S) h n u Q
  | .lload_n j => len = 1 ∧ ∃ x, L[(j : Nat)]? = some (some (vl x)) ∧ P k (pc + 1) L (vl x :: S) h n u Q
  | .istore_n j => len = 1 ∧ ∃ x S', S = vi x :: S' ∧ (j : Nat) < L.length ∧ ab_nl L = true ∧ P k (pc + 1) (L.set j (some (vi x))) S' h n u Q
  | .istore j => len = 2 ∧ ∃ x S', S = vi x :: S' ∧ j < L.length ∧ ab_nl L = true ∧ P k (pc + 2) (L.set j (some (vi x))) S' h n u Q
  | .astore_n j => len = 1 ∧ ∃ x S', S = vr x :: S' ∧ (j : Nat) < L.length ∧ ab_nl L = true ∧ P k (pc + 1) (L.set j (some (vr x))) S' h n u Q
  | .astore j => len = 2 ∧ ∃ x S', S = vr x :: S' ∧ j < L.length ∧ ab_nl L = true ∧ P k (pc + 2) (L.set j (some (vr x))) S' h n u Q
  | .iconst x => len = 1 ∧ P k (pc + 1) L (vi x :: S) h n u Q
  | .bipush x => len = 2 ∧ (Int8.ofInt x).toInt32 = Int32.ofInt x ∧ P k (pc + 2) L (vi x :: S) h n u Q
  | .sipush x => len = 3 ∧ (Int16.ofInt x).toInt32 = Int32.ofInt x ∧ P k (pc + 3) L (vi x :: S) h n u Q
  | .lconst x => len = 1 ∧ P k (pc + 1) L (vl (Int64.ofNat (x : Nat)) :: S) h n u Q
  | .ldc idx => len = 2 ∧ ∃ x : Int, (x = (ab_lk (ab_on k) idx : Nat) ∧ Cond.constant (ab_own k) idx (Int32.ofInt x) ∈ lw_tbl) ∧ P k (pc + 2) L (vi x :: S) h n u Q
  | .ldc_w idx => len = 3 ∧ ∃ x : Int, (x = (ab_lk (ab_on k) idx : Nat) ∧ Cond.constant (ab_own k) idx (Int32.ofInt x) ∈ lw_tbl) ∧ P k (pc + 3) L (vi x :: S) h n u Q
  | .ldc2_w idx => len = 3 ∧ ∃ x : Int64, (x = ab_c8 (ab_lk (ab_on k) idx) ∧ Cond.constantLong (ab_own k) idx x ∈ lw_tbl) ∧ P k (pc + 3) L (vl x :: S) h n u Q
  | .iadd => len = 1 ∧ ∃ y x S', S = vi y :: vi x :: S' ∧ P k (pc + 1) L (vi (x + y) :: S') h n u Q
  | .isub => len = 1 ∧ ∃ y x S', S = vi y :: vi x :: S' ∧ P k (pc + 1) L (vi (x - y) :: S') h n u Q
  | .imul => len = 1 ∧ ∃ y x S', S = vi y :: vi x :: S' ∧ P k (pc + 1) L (vi (x * y) :: S') h n u Q
  | .ineg => len = 1 ∧ ∃ x S', S = vi x :: S' ∧ P k (pc + 1) L (vi (-x) :: S') h n u Q
  | .idiv => len = 1 ∧ ∃ y x S', S = vi y :: vi x :: S' ∧ ab_inR x ∧ 0 < y ∧ ab_inR y ∧ P k (pc + 1) L (vi (x.tdiv y) :: S') h n u Q
  | .irem => len = 1 ∧ ∃ y x S', S = vi y :: vi x :: S' ∧ ab_inR x ∧ 0 < y ∧ ab_inR y ∧ P k (pc + 1) L (vi (x.tmod y) :: S') h n u Q
  | .iand => len = 1 ∧ ∃ x S', S = vi 63 :: vi x :: S' ∧ P k (pc + 1) L (vi (x % 64) :: S') h n u Q
  | .ixor => len = 1 ∧ ∃ y x S', S = vi y :: vi x :: S' ∧ ab_inR x ∧ 0 ≤ y ∧ ab_inR y ∧ ∀ z, ab_inR z → (z < 0 ↔ x < 0) → P k (pc + 1) L (vi z :: S') h n u Q
  | .iushr => len = 1 ∧ ∃ x S', S = vi 16 :: vi x :: S' ∧ P k (pc + 1) L (vi (x % 4294967296 / 65536) :: S') h n u Q
  | .i2l => len = 1 ∧ ∃ x S', S = vi x :: S' ∧ ab_inR x ∧ P k (pc + 1) L (vl (Int64.ofInt x) :: S') h n u Q
  | .i2b => len = 1 ∧ ∃ x S', S = vi x :: S' ∧ -128 ≤ x ∧ x < 128 ∧ P k (pc + 1) L (vi x :: S') h n u Q
  | .land => len = 1 ∧ ∃ y x S', S = vl y :: vl x :: S' ∧ P k (pc + 1) L (vl (x &&& y) :: S') h n u Q
  | .lor => len = 1 ∧ ∃ y x S', S = vl y :: vl x :: S' ∧ P k (pc + 1) L (vl (x ||| y) :: S') h n u Q
  | .lshl => len = 1 ∧ ∃ y x S', S = vi y :: vl x :: S' ∧ P k (pc + 1) L (vl (x <<< ((Int32.ofInt y).toInt64 &&& 63)) :: S') h n u Q
  | .lcmp => len = 1 ∧ ∃ y x S', S = vl y :: vl x :: S' ∧ ∀ z, ab_inR z → (z = 0 ↔ x = y) → P k (pc + 1) L (vi z :: S') h n u Q
  | .dup => len = 1 ∧ ∃ v S', S = v :: S' ∧ ab_cat v = 1 ∧ P k (pc + 1) L (v :: v :: S') h n u Q
  | .pop => len = 1 ∧ ∃ v S', S = v :: S' ∧ ab_cat v = 1 ∧ P k (pc + 1) L S' h n u Q
  | .iinc j d => len = 3 ∧ ∃ x, L[j]? = some (some (vi x)) ∧ ab_nl L = true ∧ P k (pc + 3) (L.set j (some (vi (x + d)))) S h n u Q
  | .goto off => len = 3 ∧ ∃ t : Nat, (pc : Int) + off = (t : Int) ∧ P k t L S h n u Q
  | .ifCond c off => len = 3 ∧ ∃ x S', S = vi x :: S' ∧ ab_inR x ∧ ∃ t : Nat, (pc : Int) + off = (t : Int) ∧ (ab_cc c x 0 → P k t L S' h n u Q) ∧ (¬ ab_cc c x 0 → P k (pc + 3) L S' h n u Q)
  | .if_icmp c off => len = 3 ∧ ∃ y x S', S = vi y :: vi x :: S' ∧ ab_inR x ∧ ab_inR y ∧ ∃ t : Nat, (pc : Int) + off = (t : Int) ∧ (ab_cc c x y → P k t L S' h n u Q) ∧ (¬ ab_cc c x y → P k (pc + 3) L S' h n u Q)
  | .tableswitch d lo hi offs => ∃ x S', S = vi x :: S' ∧ ab_inR x ∧ ((x < lo ∨ hi < x) → ∃ t : Nat, (pc : Int) + d = (t : Int) ∧ P k t L S' h n u Q) ∧ (¬ (x < lo ∨ hi < x) → ∃ (o : Int) (t : Nat), offs[(x - lo).toNat]? = some o ∧ (pc : Int) + o = (t : Int) ∧ P k t L S' h n u Q)
  | .lookupswitch d ps => ∃ x S', S = vi x :: S' ∧ ab_inR x ∧ (ps.toList.zip (ps.toList.drop 1)).all (fun (a, next) => a.1 < next.1) = true ∧ ∃ t : Nat, (pc : Int) + Op.lookupswitch.offset ps.toList d x = (t : Int) ∧ P k t L S' h n u Q
  | .ireturn => len = 1 ∧ u.1 ≤ (ab_cost k).1 ∧ u.2 ≤ (ab_cost k).2 ∧ ∃ x, S = [vi x] ∧ (ab_ret k = some .int ∨ (ab_ret k = some .boolean ∧ (x = 0 ∨ x = 1))) ∧ Q (some (vi x)) h n
  | .lreturn => len = 1 ∧ u.1 ≤ (ab_cost k).1 ∧ u.2 ≤ (ab_cost k).2 ∧ ab_ret k = some .long ∧ ∃ x, S = [vl x] ∧ Q (some (vl x)) h n
  | .areturn => len = 1 ∧ u.1 ≤ (ab_cost k).1 ∧ u.2 ≤ (ab_cost k).2 ∧ (∃ C, ab_ret k = some (.object C)) ∧ ∃ x, S = [vr x] ∧ Q (some (vr x)) h n
  | .return_ => len = 1 ∧ u.1 ≤ (ab_cost k).1 ∧ u.2 ≤ (ab_cost k).2 ∧ ab_ret k = none ∧ S = [] ∧ Q none h n
  | .getstatic idx => len = 3 ∧ ∃ i, 1 ≤ i ∧ i < 6 ∧ ab_lk (ab_on k) idx = 990 + i ∧ (Cond.fieldLink (ab_own k) idx (ab_stn i).1 (ab_stn i).2.1 (ab_stn i).2.2 ∈ lw_tbl ∨ ∃ host, Cond.fieldLinkNest (ab_own k) idx (ab_stn i).1 (ab_stn i).2.1 (ab_stn i).2.2 host ∈ lw_tbl) ∧ P k (pc + 3) L (vr i :: S) h n u Q
  | .getfield idx => len = 3 ∧ ∃ a S' ci fs kf v, S = vr a :: S' ∧ h a = some (.inl (ci, fs)) ∧ 6 ≤ a ∧ ab_xl k idx ci kf ∧ fs[kf]? = some v ∧ P k (pc + 3) L (v :: S') h n u Q
  | .putfield idx => len = 3 ∧ ∃ v a S' ci fs kf, S = v :: vr a :: S' ∧ h a = some (.inl (ci, fs)) ∧ 6 ≤ a ∧ ab_xp k idx ci kf ∧ kf < fs.length ∧ ab_fit (ab_tyf ci kf) v ∧ P k (pc + 3) L S' (ab_hs h a (.inl (ci, fs.set kf v))) n u Q
  | .new idx => len = 3 ∧ ∃ ci N, (ab_lk (ab_on k) idx = ci ∧ ab_nc (ab_own k) idx ci N) ∧ u.1 + 1 ≤ (ab_cost k).1 ∧ u.2 + N ≤ (ab_cost k).2 ∧ P k (pc + 3) L (vr n :: S) (ab_hs h n (.inl (ci, ab_dfs ci N))) (n + 1) (u.1 + 1, u.2 + N) Q
  | .newarray t => len = 2 ∧ ∃ (m : Nat) (c : ab_C) (S' : List ab_V), S = vi m :: S' ∧ m ≤ 4096 ∧ ab_na t m = some c ∧ u.1 + 1 ≤ (ab_cost k).1 ∧ u.2 + m ≤ (ab_cost k).2 ∧ P k (pc + 2) L (vr n :: S') (ab_hs h n c) (n + 1) (u.1 + 1, u.2 + m) Q
  | .anewarray idx => len = 3 ∧ ∃ (m t : Nat) (E : String) (S' : List ab_V), S = vi m :: S' ∧ m ≤ 4096 ∧ (t = 4 ∨ t = 5) ∧ ab_ety t = .object E ∧ Cond.classLink (ab_own k) idx E ∈ lw_tbl ∧ Cond.arrayOver (.object E) ∈ lw_tbl ∧ u.1 + 1 ≤ (ab_cost k).1 ∧ u.2 + m ≤ (ab_cost k).2 ∧ P k (pc + 3) L (vr n :: S') (ab_hs h n (.inr (.inr (.inr (t, m, fun _ => none))))) (n + 1) (u.1 + 1, u.2 + m) Q
  | .multianewarray idx d => len = 4 ∧ d = 2 ∧ ab_mnp P idx k pc L S h n u Q
  | .arraylength => len = 1 ∧ ∃ a S' c m, S = vr a :: S' ∧ h a = some c ∧ ab_alen c = some m ∧ P k (pc + 1) L (vi m :: S') h n u Q
  | .iaload => len = 1 ∧ ∃ i a S' m f, S = vi i :: vr a :: S' ∧ h a = some (.inr (.inl (0, m, f))) ∧ 0 ≤ i ∧ i < (m : Int) ∧ P k (pc + 1) L (vi (f i) :: S') h n u Q
  | .baload => len = 1 ∧ ∃ i a S' t m f, S = vi i :: vr a :: S' ∧ h a = some (.inr (.inl (t, m, f))) ∧ 6 ≤ a ∧ (t = 1 ∨ t = 2) ∧ 0 ≤ i ∧ i < (m : Int) ∧ P k (pc + 1) L (vi (f i) :: S') h n u Q
  | .laload => len = 1 ∧ ∃ i a S' m f, S = vi i :: vr a :: S' ∧ h a = some (.inr (.inr (.inl (m, f)))) ∧ 6 ≤ a ∧ 0 ≤ i ∧ i < (m : Int) ∧ P k (pc + 1) L (vl (f i) :: S') h n u Q
  | .aaload => len = 1 ∧ ∃ i a S' t m f, S = vi i :: vr a :: S' ∧ h a = some (.inr (.inr (.inr (t, m, f)))) ∧ 6 ≤ a ∧ 0 ≤ i ∧ i < (m : Int) ∧ P k (pc + 1) L (vo (f i) :: S') h n u Q
  | .iastore => len = 1 ∧ ∃ x i a S' m f, S = vi x :: vi i :: vr a :: S' ∧ h a = some (.inr (.inl (0, m, f))) ∧ 6 ≤ a ∧ 0 ≤ i ∧ i < (m : Int) ∧ P k (pc + 1) L S' (ab_hs h a (.inr (.inl (0, m, ab_ui f i x)))) n u Q
  | .bastore => len = 1 ∧ ∃ x i a S' t m f, S = vi x :: vi i :: vr a :: S' ∧ h a = some (.inr (.inl (t, m, f))) ∧ 6 ≤ a ∧ ((t = 1 ∧ -128 ≤ x ∧ x < 128) ∨ (t = 2 ∧ (x = 0 ∨ x = 1))) ∧ 0 ≤ i ∧ i < (m : Int) ∧ P k (pc + 1) L S' (ab_hs h a (.inr (.inl (t, m, ab_ui f i x)))) n u Q
  | .lastore => len = 1 ∧ ∃ x i a S' m f, S = vl x :: vi i :: vr a :: S' ∧ h a = some (.inr (.inr (.inl (m, f)))) ∧ 6 ≤ a ∧ 0 ≤ i ∧ i < (m : Int) ∧ P k (pc + 1) L S' (ab_hs h a (.inr (.inr (.inl (m, ab_ui f i x))))) n u Q
  | .aastore => len = 1 ∧ ∃ b i a S' t m f ci fs E C T N, S = vr b :: vi i :: vr a :: S' ∧ h a = some (.inr (.inr (.inr (t, m, f)))) ∧ 6 ≤ a ∧ h b = some (.inl (ci, fs)) ∧ 6 ≤ b ∧ ab_ety t = .object E ∧ vwCl[ci]? = some (C, T, N) ∧ (C = E ∨ Cond.castable C E ∈ lw_tbl) ∧ 0 ≤ i ∧ i < (m : Int) ∧ P k (pc + 1) L S' (ab_hs h a (.inr (.inr (.inr (t, m, ab_ui f i (some b)))))) n u Q
  | .invokestatic idx => len = 3 ∧ ((∃ j As rest, S = As.reverse ++ rest ∧ (ab_lk (ab_on k) idx = j ∧ ab_sS (ab_own k) idx j As.length) ∧ ab_call P j As k pc L rest h n u Q) ∨
      ab_acp P idx k pc L S h n u Q)
  | .invokevirtual idx => len = 3 ∧ ∃ j As b rest ci fs, S = As.reverse ++ vr b :: rest ∧ h b = some (.inl (ci, fs)) ∧ 6 ≤ b ∧ (ab_vk (ab_on k) idx ci = j ∧ ab_sV (ab_own k) idx ci j As.length) ∧ ab_call P j (vr b :: As) k pc L rest h n u Q
  | .invokespecial idx => len = 3 ∧ ((∃ b rest, S = vr b :: rest ∧ (ab_lk (ab_on k) idx = 998 ∧ Cond.methodLink (ab_own k) idx objectInit ∈ lw_tbl) ∧ (rest.map ab_cat).sum ≤ 8 ∧ 1 ≤ ab_dep k ∧ P k (pc + 3) L rest h n u Q) ∨
      (∃ j As b rest, S = As.reverse ++ vr b :: rest ∧ (ab_lk (ab_on k) idx = j ∧ ab_sI (ab_own k) idx j As.length) ∧ ab_call P j (vr b :: As) k pc L rest h n u Q) ∨
      (∃ j As b rest ci fs, S = As.reverse ++ vr b :: rest ∧ h b = some (.inl (ci, fs)) ∧ 6 ≤ b ∧ (ab_lk (ab_on k) idx = j ∧ ab_sU (ab_own k) idx j As.length) ∧ (∃ C T N, vwCl[ci]? = some (C, T, N)) ∧ ab_call P j (vr b :: As) k pc L rest h n u Q))
  | _ => False
def ab_F (P : ab_P) (k pc : Nat) (L : ab_L) (S : List ab_V) (h : ab_H) (n : Nat) (u : Nat × Nat) (Q : ab_Q) : Prop := ∃ (i : Instr) (len : Nat), decode (ab_code k) pc = .ok (i, len) ∧ ab_I P i len k pc L S h n u Q
/-- from here the plain machine comes to the method's end, with Q -/
def ab_G (k pc : Nat) (L : ab_L) (S : List ab_V) (h : ab_H) (n : Nat) (u : Nat × Nat) (Q : ab_Q) : Prop := ∀ P : ab_P, (∀ k pc L S h n u Q, ab_F P k pc L S h n u Q → P k pc L S h n u Q) → P k pc L S h n u Q
