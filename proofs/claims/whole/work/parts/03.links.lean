set_option maxRecDepth 100000 in
theorem hX0_init_X0 : ∀ w ∈ u_ws RX0 TX0 3, w ∈ wsX0_init := mem_places [18, 19, 20] rfl
set_option maxRecDepth 100000 in
theorem hX0_init_X2 : ∀ w ∈ u_ws RX2 TX2 2, w ∈ wsX0_init := mem_places [21, 22] rfl
set_option maxRecDepth 100000 in
theorem kX0_init_11 : Cond.fieldLink RX0 11 (TX0 0).1 (TX0 0).2.1 (TX0 0).2.2.1 ∈ wsX0_init := List.mem_of_getElem? (i := 6) rfl
set_option maxRecDepth 100000 in
theorem kX0_init_21 : Cond.fieldLink RX0 21 (TX0 1).1 (TX0 1).2.1 (TX0 1).2.2.1 ∈ wsX0_init := List.mem_of_getElem? (i := 10) rfl
set_option maxRecDepth 100000 in
theorem kX0_init_25 : Cond.fieldLink RX0 25 (TX0 2).1 (TX0 2).2.1 (TX0 2).2.2.1 ∈ wsX0_init := List.mem_of_getElem? (i := 11) rfl
set_option maxRecDepth 100000 in
theorem hX0_compare_X0 : ∀ w ∈ u_ws RX0 TX0 3, w ∈ wsX0_compare := mem_places [17, 18, 19] rfl
set_option maxRecDepth 100000 in
theorem hX0_compare_X2 : ∀ w ∈ u_ws RX2 TX2 2, w ∈ wsX0_compare := mem_places [20, 21] rfl
set_option maxRecDepth 100000 in
theorem kX0_compare_21 : Cond.fieldLink RX0 21 (TX0 1).1 (TX0 1).2.1 (TX0 1).2.2.1 ∈ wsX0_compare := List.mem_of_getElem? (i := 1) rfl
set_option maxRecDepth 100000 in
theorem kX0_compare_25 : Cond.fieldLink RX0 25 (TX0 2).1 (TX0 2).2.1 (TX0 2).2.2.1 ∈ wsX0_compare := List.mem_of_getElem? (i := 2) rfl
set_option maxRecDepth 100000 in
theorem kX0_compare_11 : Cond.fieldLink RX0 11 (TX0 0).1 (TX0 0).2.1 (TX0 0).2.2.1 ∈ wsX0_compare := List.mem_of_getElem? (i := 3) rfl
set_option maxRecDepth 100000 in
theorem hX0_operations_X0 : ∀ w ∈ u_ws RX0 TX0 3, w ∈ wsX0_operations := mem_places [2, 3, 4] rfl
set_option maxRecDepth 100000 in
theorem kX0_operations_11 : Cond.fieldLink RX0 11 (TX0 0).1 (TX0 0).2.1 (TX0 0).2.2.1 ∈ wsX0_operations := List.mem_of_getElem? (i := 1) rfl
set_option maxRecDepth 100000 in
theorem hX0_writeTo_X0 : ∀ w ∈ u_ws RX0 TX0 3, w ∈ wsX0_writeTo := mem_places [33, 34, 35] rfl
set_option maxRecDepth 100000 in
theorem hX0_writeTo_X2 : ∀ w ∈ u_ws RX2 TX2 2, w ∈ wsX0_writeTo := mem_places [36, 37] rfl
set_option maxRecDepth 100000 in
theorem hX0_writeTo_X3 : ∀ w ∈ u_ws RX3 TX3 4, w ∈ wsX0_writeTo := mem_places [38, 39, 40, 41] rfl
set_option maxRecDepth 100000 in
theorem kX0_writeTo_21 : Cond.fieldLink RX0 21 (TX0 1).1 (TX0 1).2.1 (TX0 1).2.2.1 ∈ wsX0_writeTo := List.mem_of_getElem? (i := 1) rfl
set_option maxRecDepth 100000 in
theorem kX0_writeTo_25 : Cond.fieldLink RX0 25 (TX0 2).1 (TX0 2).2.1 (TX0 2).2.2.1 ∈ wsX0_writeTo := List.mem_of_getElem? (i := 2) rfl
set_option maxRecDepth 100000 in
theorem hX0_pairTo_X0 : ∀ w ∈ u_ws RX0 TX0 3, w ∈ wsX0_pairTo := mem_places [24, 25, 26] rfl
set_option maxRecDepth 100000 in
theorem hX0_pairTo_X2 : ∀ w ∈ u_ws RX2 TX2 2, w ∈ wsX0_pairTo := mem_places [27, 28] rfl
set_option maxRecDepth 100000 in
theorem kX0_pairTo_21 : Cond.fieldLink RX0 21 (TX0 1).1 (TX0 1).2.1 (TX0 1).2.2.1 ∈ wsX0_pairTo := List.mem_of_getElem? (i := 1) rfl
set_option maxRecDepth 100000 in
theorem kX0_pairTo_25 : Cond.fieldLink RX0 25 (TX0 2).1 (TX0 2).2.1 (TX0 2).2.2.1 ∈ wsX0_pairTo := List.mem_of_getElem? (i := 2) rfl
set_option maxRecDepth 100000 in
theorem hX0_restAt_X0 : ∀ w ∈ u_ws RX0 TX0 3, w ∈ wsX0_restAt := mem_places [13, 14, 15] rfl
set_option maxRecDepth 100000 in
theorem hX0_restAt_X2 : ∀ w ∈ u_ws RX2 TX2 2, w ∈ wsX0_restAt := mem_places [16, 17] rfl
set_option maxRecDepth 100000 in
theorem kX0_restAt_21 : Cond.fieldLink RX0 21 (TX0 1).1 (TX0 1).2.1 (TX0 1).2.2.1 ∈ wsX0_restAt := List.mem_of_getElem? (i := 1) rfl
set_option maxRecDepth 100000 in
theorem kX0_restAt_25 : Cond.fieldLink RX0 25 (TX0 2).1 (TX0 2).2.1 (TX0 2).2.2.1 ∈ wsX0_restAt := List.mem_of_getElem? (i := 2) rfl
set_option maxRecDepth 100000 in
theorem kX0_restAt_11 : Cond.fieldLink RX0 11 (TX0 0).1 (TX0 0).2.1 (TX0 0).2.2.1 ∈ wsX0_restAt := List.mem_of_getElem? (i := 3) rfl
set_option maxRecDepth 100000 in
theorem hX0_stepAt_X0 : ∀ w ∈ u_ws RX0 TX0 3, w ∈ wsX0_stepAt := mem_places [9, 10, 11] rfl
set_option maxRecDepth 100000 in
theorem hX0_stepAt_X2 : ∀ w ∈ u_ws RX2 TX2 2, w ∈ wsX0_stepAt := mem_places [12, 13] rfl
set_option maxRecDepth 100000 in
theorem kX0_stepAt_21 : Cond.fieldLink RX0 21 (TX0 1).1 (TX0 1).2.1 (TX0 1).2.2.1 ∈ wsX0_stepAt := List.mem_of_getElem? (i := 1) rfl
set_option maxRecDepth 100000 in
theorem kX0_stepAt_11 : Cond.fieldLink RX0 11 (TX0 0).1 (TX0 0).2.1 (TX0 0).2.2.1 ∈ wsX0_stepAt := List.mem_of_getElem? (i := 2) rfl
set_option maxRecDepth 100000 in
theorem hX0_isSame_X0 : ∀ w ∈ u_ws RX0 TX0 3, w ∈ wsX0_isSame := mem_places [3, 4, 5] rfl
set_option maxRecDepth 100000 in
theorem hX0_isSame_X2 : ∀ w ∈ u_ws RX2 TX2 2, w ∈ wsX0_isSame := mem_places [6, 7] rfl
set_option maxRecDepth 100000 in
theorem kX0_isSame_21 : Cond.fieldLink RX0 21 (TX0 1).1 (TX0 1).2.1 (TX0 1).2.2.1 ∈ wsX0_isSame := List.mem_of_getElem? (i := 1) rfl
set_option maxRecDepth 100000 in
theorem kX0_isSame_25 : Cond.fieldLink RX0 25 (TX0 2).1 (TX0 2).2.1 (TX0 2).2.2.1 ∈ wsX0_isSame := List.mem_of_getElem? (i := 2) rfl
set_option maxRecDepth 100000 in
theorem hX1_init_X1 : ∀ w ∈ u_ws RX1 TX1 5, w ∈ wsX1_init := mem_places [33, 34, 35, 36, 37] rfl
set_option maxRecDepth 100000 in
theorem hX1_init_X2 : ∀ w ∈ u_ws RX2 TX2 2, w ∈ wsX1_init := mem_places [31, 32] rfl
set_option maxRecDepth 100000 in
theorem hX1_init_X4 : ∀ w ∈ u_ws RX4 TX4 3, w ∈ wsX1_init := mem_places [38, 39, 40] rfl
set_option maxRecDepth 100000 in
theorem kX1_init_14 : Cond.fieldLink RX1 14 (TX1 0).1 (TX1 0).2.1 (TX1 0).2.2.1 ∈ wsX1_init := List.mem_of_getElem? (i := 7) rfl
set_option maxRecDepth 100000 in
theorem kX1_init_20 : Cond.fieldLink RX1 20 (TX1 1).1 (TX1 1).2.1 (TX1 1).2.2.1 ∈ wsX1_init := List.mem_of_getElem? (i := 8) rfl
set_option maxRecDepth 100000 in
theorem kX1_init_26 : Cond.fieldLink RX1 26 (TX1 2).1 (TX1 2).2.1 (TX1 2).2.2.1 ∈ wsX1_init := List.mem_of_getElem? (i := 12) rfl
set_option maxRecDepth 100000 in
theorem kX1_init_30 : Cond.fieldLink RX1 30 (TX1 3).1 (TX1 3).2.1 (TX1 3).2.2.1 ∈ wsX1_init := List.mem_of_getElem? (i := 13) rfl
set_option maxRecDepth 100000 in
theorem kX1_init_33 : Cond.fieldLink RX1 33 (TX1 4).1 (TX1 4).2.1 (TX1 4).2.2.1 ∈ wsX1_init := List.mem_of_getElem? (i := 14) rfl
set_option maxRecDepth 100000 in
theorem hX1_begin_X0 : ∀ w ∈ u_ws RX0 TX0 3, w ∈ wsX1_begin := mem_places [58, 59, 60] rfl
set_option maxRecDepth 100000 in
theorem hX1_begin_X1 : ∀ w ∈ u_ws RX1 TX1 5, w ∈ wsX1_begin := mem_places [53, 54, 55, 56, 57] rfl
set_option maxRecDepth 100000 in
theorem hX1_begin_X2 : ∀ w ∈ u_ws RX2 TX2 2, w ∈ wsX1_begin := mem_places [61, 62] rfl
set_option maxRecDepth 100000 in
theorem hX1_begin_X4 : ∀ w ∈ u_ws RX4 TX4 3, w ∈ wsX1_begin := mem_places [63, 64, 65] rfl
set_option maxRecDepth 100000 in
theorem kX1_begin_14 : Cond.fieldLink RX1 14 (TX1 0).1 (TX1 0).2.1 (TX1 0).2.2.1 ∈ wsX1_begin := List.mem_of_getElem? (i := 1) rfl
set_option maxRecDepth 100000 in
theorem kX1_begin_20 : Cond.fieldLink RX1 20 (TX1 1).1 (TX1 1).2.1 (TX1 1).2.2.1 ∈ wsX1_begin := List.mem_of_getElem? (i := 2) rfl
set_option maxRecDepth 100000 in
theorem kX1_begin_26 : Cond.fieldLink RX1 26 (TX1 2).1 (TX1 2).2.1 (TX1 2).2.2.1 ∈ wsX1_begin := List.mem_of_getElem? (i := 3) rfl
set_option maxRecDepth 100000 in
theorem kX1_begin_30 : Cond.fieldLink RX1 30 (TX1 3).1 (TX1 3).2.1 (TX1 3).2.2.1 ∈ wsX1_begin := List.mem_of_getElem? (i := 4) rfl
set_option maxRecDepth 100000 in
theorem kX1_begin_33 : Cond.fieldLink RX1 33 (TX1 4).1 (TX1 4).2.1 (TX1 4).2.2.1 ∈ wsX1_begin := List.mem_of_getElem? (i := 5) rfl
set_option maxRecDepth 100000 in
theorem hX1_mergeTo_X1 : ∀ w ∈ u_ws RX1 TX1 5, w ∈ wsX1_mergeTo := mem_places [70, 71, 72, 73, 74] rfl
set_option maxRecDepth 100000 in
theorem hX1_mergeTo_X2 : ∀ w ∈ u_ws RX2 TX2 2, w ∈ wsX1_mergeTo := mem_places [78, 79] rfl
set_option maxRecDepth 100000 in
theorem hX1_mergeTo_X4 : ∀ w ∈ u_ws RX4 TX4 3, w ∈ wsX1_mergeTo := mem_places [75, 76, 77] rfl
set_option maxRecDepth 100000 in
theorem kX1_mergeTo_26 : Cond.fieldLink RX1 26 (TX1 2).1 (TX1 2).2.1 (TX1 2).2.2.1 ∈ wsX1_mergeTo := List.mem_of_getElem? (i := 1) rfl
set_option maxRecDepth 100000 in
theorem kX1_mergeTo_14 : Cond.fieldLink RX1 14 (TX1 0).1 (TX1 0).2.1 (TX1 0).2.2.1 ∈ wsX1_mergeTo := List.mem_of_getElem? (i := 2) rfl
set_option maxRecDepth 100000 in
theorem kX1_mergeTo_20 : Cond.fieldLink RX1 20 (TX1 1).1 (TX1 1).2.1 (TX1 1).2.2.1 ∈ wsX1_mergeTo := List.mem_of_getElem? (i := 3) rfl
set_option maxRecDepth 100000 in
theorem kX1_mergeTo_30 : Cond.fieldLink RX1 30 (TX1 3).1 (TX1 3).2.1 (TX1 3).2.2.1 ∈ wsX1_mergeTo := List.mem_of_getElem? (i := 4) rfl
set_option maxRecDepth 100000 in
theorem kX1_mergeTo_33 : Cond.fieldLink RX1 33 (TX1 4).1 (TX1 4).2.1 (TX1 4).2.2.1 ∈ wsX1_mergeTo := List.mem_of_getElem? (i := 5) rfl
set_option maxRecDepth 100000 in
theorem hX1_isStable_X1 : ∀ w ∈ u_ws RX1 TX1 5, w ∈ wsX1_isStable := mem_places [10, 11, 12, 13, 14] rfl
set_option maxRecDepth 100000 in
theorem hX1_isStable_X2 : ∀ w ∈ u_ws RX2 TX2 2, w ∈ wsX1_isStable := mem_places [15, 16] rfl
set_option maxRecDepth 100000 in
theorem kX1_isStable_14 : Cond.fieldLink RX1 14 (TX1 0).1 (TX1 0).2.1 (TX1 0).2.2.1 ∈ wsX1_isStable := List.mem_of_getElem? (i := 1) rfl
set_option maxRecDepth 100000 in
theorem kX1_isStable_20 : Cond.fieldLink RX1 20 (TX1 1).1 (TX1 1).2.1 (TX1 1).2.2.1 ∈ wsX1_isStable := List.mem_of_getElem? (i := 2) rfl
set_option maxRecDepth 100000 in
theorem hX1_endStretches_X1 : ∀ w ∈ u_ws RX1 TX1 5, w ∈ wsX1_endStretches := mem_places [10, 11, 12, 13, 14] rfl
set_option maxRecDepth 100000 in
theorem hX1_endStretches_X4 : ∀ w ∈ u_ws RX4 TX4 3, w ∈ wsX1_endStretches := mem_places [15, 16, 17] rfl
set_option maxRecDepth 100000 in
theorem kX1_endStretches_26 : Cond.fieldLink RX1 26 (TX1 2).1 (TX1 2).2.1 (TX1 2).2.2.1 ∈ wsX1_endStretches := List.mem_of_getElem? (i := 1) rfl
set_option maxRecDepth 100000 in
theorem kX1_endStretches_30 : Cond.fieldLink RX1 30 (TX1 3).1 (TX1 3).2.1 (TX1 3).2.2.1 ∈ wsX1_endStretches := List.mem_of_getElem? (i := 2) rfl
set_option maxRecDepth 100000 in
theorem kX1_endStretches_33 : Cond.fieldLink RX1 33 (TX1 4).1 (TX1 4).2.1 (TX1 4).2.2.1 ∈ wsX1_endStretches := List.mem_of_getElem? (i := 3) rfl
set_option maxRecDepth 100000 in
theorem hX1_goOnBehindStable_X1 : ∀ w ∈ u_ws RX1 TX1 5, w ∈ wsX1_goOnBehindStable := mem_places [11, 12, 13, 14, 15] rfl
set_option maxRecDepth 100000 in
theorem hX1_goOnBehindStable_X4 : ∀ w ∈ u_ws RX4 TX4 3, w ∈ wsX1_goOnBehindStable := mem_places [16, 17, 18] rfl
set_option maxRecDepth 100000 in
theorem kX1_goOnBehindStable_26 : Cond.fieldLink RX1 26 (TX1 2).1 (TX1 2).2.1 (TX1 2).2.2.1 ∈ wsX1_goOnBehindStable := List.mem_of_getElem? (i := 1) rfl
set_option maxRecDepth 100000 in
theorem kX1_goOnBehindStable_30 : Cond.fieldLink RX1 30 (TX1 3).1 (TX1 3).2.1 (TX1 3).2.2.1 ∈ wsX1_goOnBehindStable := List.mem_of_getElem? (i := 2) rfl
set_option maxRecDepth 100000 in
theorem kX1_goOnBehindStable_33 : Cond.fieldLink RX1 33 (TX1 4).1 (TX1 4).2.1 (TX1 4).2.2.1 ∈ wsX1_goOnBehindStable := List.mem_of_getElem? (i := 3) rfl
set_option maxRecDepth 100000 in
theorem hX1_mergeStretch_X1 : ∀ w ∈ u_ws RX1 TX1 5, w ∈ wsX1_mergeStretch := mem_places [37, 38, 39, 40, 41] rfl
set_option maxRecDepth 100000 in
theorem hX1_mergeStretch_X2 : ∀ w ∈ u_ws RX2 TX2 2, w ∈ wsX1_mergeStretch := mem_places [45, 46] rfl
set_option maxRecDepth 100000 in
theorem hX1_mergeStretch_X4 : ∀ w ∈ u_ws RX4 TX4 3, w ∈ wsX1_mergeStretch := mem_places [42, 43, 44] rfl
set_option maxRecDepth 100000 in
theorem kX1_mergeStretch_30 : Cond.fieldLink RX1 30 (TX1 3).1 (TX1 3).2.1 (TX1 3).2.2.1 ∈ wsX1_mergeStretch := List.mem_of_getElem? (i := 1) rfl
set_option maxRecDepth 100000 in
theorem kX1_mergeStretch_33 : Cond.fieldLink RX1 33 (TX1 4).1 (TX1 4).2.1 (TX1 4).2.2.1 ∈ wsX1_mergeStretch := List.mem_of_getElem? (i := 2) rfl
set_option maxRecDepth 100000 in
theorem kX1_mergeStretch_26 : Cond.fieldLink RX1 26 (TX1 2).1 (TX1 2).2.1 (TX1 2).2.2.1 ∈ wsX1_mergeStretch := List.mem_of_getElem? (i := 3) rfl
set_option maxRecDepth 100000 in
theorem hX2_init_X2 : ∀ w ∈ u_ws RX2 TX2 2, w ∈ wsX2_init := mem_places [7, 8] rfl
set_option maxRecDepth 100000 in
theorem kX2_init_9 : Cond.fieldLink RX2 9 (TX2 0).1 (TX2 0).2.1 (TX2 0).2.2.1 ∈ wsX2_init := List.mem_of_getElem? (i := 5) rfl
set_option maxRecDepth 100000 in
theorem kX2_init_15 : Cond.fieldLink RX2 15 (TX2 1).1 (TX2 1).2.1 (TX2 1).2.2.1 ∈ wsX2_init := List.mem_of_getElem? (i := 6) rfl
set_option maxRecDepth 100000 in
theorem hX2_empty_X2 : ∀ w ∈ u_ws RX2 TX2 2, w ∈ wsX2_empty := mem_places [2, 3] rfl
set_option maxRecDepth 100000 in
theorem kX2_empty_15 : Cond.fieldLink RX2 15 (TX2 1).1 (TX2 1).2.1 (TX2 1).2.2.1 ∈ wsX2_empty := List.mem_of_getElem? (i := 1) rfl
set_option maxRecDepth 100000 in
theorem hX2_add_X2 : ∀ w ∈ u_ws RX2 TX2 2, w ∈ wsX2_add := mem_places [3, 4] rfl
set_option maxRecDepth 100000 in
theorem kX2_add_15 : Cond.fieldLink RX2 15 (TX2 1).1 (TX2 1).2.1 (TX2 1).2.2.1 ∈ wsX2_add := List.mem_of_getElem? (i := 1) rfl
set_option maxRecDepth 100000 in
theorem kX2_add_9 : Cond.fieldLink RX2 9 (TX2 0).1 (TX2 0).2.1 (TX2 0).2.2.1 ∈ wsX2_add := List.mem_of_getElem? (i := 2) rfl
set_option maxRecDepth 100000 in
theorem hX2_addAll_X2 : ∀ w ∈ u_ws RX2 TX2 2, w ∈ wsX2_addAll := mem_places [12, 13] rfl
set_option maxRecDepth 100000 in
theorem hX2_at_X2 : ∀ w ∈ u_ws RX2 TX2 2, w ∈ wsX2_at := mem_places [3, 4] rfl
set_option maxRecDepth 100000 in
theorem kX2_at_15 : Cond.fieldLink RX2 15 (TX2 1).1 (TX2 1).2.1 (TX2 1).2.2.1 ∈ wsX2_at := List.mem_of_getElem? (i := 1) rfl
set_option maxRecDepth 100000 in
theorem kX2_at_9 : Cond.fieldLink RX2 9 (TX2 0).1 (TX2 0).2.1 (TX2 0).2.2.1 ∈ wsX2_at := List.mem_of_getElem? (i := 2) rfl
set_option maxRecDepth 100000 in
theorem hX3_init_X3 : ∀ w ∈ u_ws RX3 TX3 4, w ∈ wsX3_init := mem_places [9, 10, 11, 12] rfl
set_option maxRecDepth 100000 in
theorem kX3_init_9 : Cond.fieldLink RX3 9 (TX3 0).1 (TX3 0).2.1 (TX3 0).2.2.1 ∈ wsX3_init := List.mem_of_getElem? (i := 5) rfl
set_option maxRecDepth 100000 in
theorem kX3_init_15 : Cond.fieldLink RX3 15 (TX3 1).1 (TX3 1).2.1 (TX3 1).2.2.1 ∈ wsX3_init := List.mem_of_getElem? (i := 6) rfl
set_option maxRecDepth 100000 in
theorem kX3_init_18 : Cond.fieldLink RX3 18 (TX3 2).1 (TX3 2).2.1 (TX3 2).2.2.1 ∈ wsX3_init := List.mem_of_getElem? (i := 7) rfl
set_option maxRecDepth 100000 in
theorem kX3_init_21 : Cond.fieldLink RX3 21 (TX3 3).1 (TX3 3).2.1 (TX3 3).2.2.1 ∈ wsX3_init := List.mem_of_getElem? (i := 8) rfl
set_option maxRecDepth 100000 in
theorem hX3_empty_X3 : ∀ w ∈ u_ws RX3 TX3 4, w ∈ wsX3_empty := mem_places [2, 3, 4, 5] rfl
set_option maxRecDepth 100000 in
theorem kX3_empty_21 : Cond.fieldLink RX3 21 (TX3 3).1 (TX3 3).2.1 (TX3 3).2.2.1 ∈ wsX3_empty := List.mem_of_getElem? (i := 1) rfl
set_option maxRecDepth 100000 in
theorem hX3_add_X3 : ∀ w ∈ u_ws RX3 TX3 4, w ∈ wsX3_add := mem_places [5, 6, 7, 8] rfl
set_option maxRecDepth 100000 in
theorem kX3_add_21 : Cond.fieldLink RX3 21 (TX3 3).1 (TX3 3).2.1 (TX3 3).2.2.1 ∈ wsX3_add := List.mem_of_getElem? (i := 1) rfl
set_option maxRecDepth 100000 in
theorem kX3_add_9 : Cond.fieldLink RX3 9 (TX3 0).1 (TX3 0).2.1 (TX3 0).2.2.1 ∈ wsX3_add := List.mem_of_getElem? (i := 2) rfl
set_option maxRecDepth 100000 in
theorem kX3_add_15 : Cond.fieldLink RX3 15 (TX3 1).1 (TX3 1).2.1 (TX3 1).2.2.1 ∈ wsX3_add := List.mem_of_getElem? (i := 3) rfl
set_option maxRecDepth 100000 in
theorem kX3_add_18 : Cond.fieldLink RX3 18 (TX3 2).1 (TX3 2).2.1 (TX3 2).2.2.1 ∈ wsX3_add := List.mem_of_getElem? (i := 4) rfl
set_option maxRecDepth 100000 in
theorem hX3_has_X3 : ∀ w ∈ u_ws RX3 TX3 4, w ∈ wsX3_has := mem_places [2, 3, 4, 5] rfl
set_option maxRecDepth 100000 in
theorem kX3_has_21 : Cond.fieldLink RX3 21 (TX3 3).1 (TX3 3).2.1 (TX3 3).2.2.1 ∈ wsX3_has := List.mem_of_getElem? (i := 1) rfl
set_option maxRecDepth 100000 in
theorem hX3_placeOf_X3 : ∀ w ∈ u_ws RX3 TX3 4, w ∈ wsX3_placeOf := mem_places [8, 9, 10, 11] rfl
set_option maxRecDepth 100000 in
theorem kX3_placeOf_15 : Cond.fieldLink RX3 15 (TX3 1).1 (TX3 1).2.1 (TX3 1).2.2.1 ∈ wsX3_placeOf := List.mem_of_getElem? (i := 1) rfl
set_option maxRecDepth 100000 in
theorem hX3_behind_X3 : ∀ w ∈ u_ws RX3 TX3 4, w ∈ wsX3_behind := mem_places [9, 10, 11, 12] rfl
set_option maxRecDepth 100000 in
theorem kX3_behind_9 : Cond.fieldLink RX3 9 (TX3 0).1 (TX3 0).2.1 (TX3 0).2.2.1 ∈ wsX3_behind := List.mem_of_getElem? (i := 1) rfl
set_option maxRecDepth 100000 in
theorem kX3_behind_15 : Cond.fieldLink RX3 15 (TX3 1).1 (TX3 1).2.1 (TX3 1).2.2.1 ∈ wsX3_behind := List.mem_of_getElem? (i := 2) rfl
set_option maxRecDepth 100000 in
theorem hX3_beginsHunk_X3 : ∀ w ∈ u_ws RX3 TX3 4, w ∈ wsX3_beginsHunk := mem_places [17, 18, 19, 20] rfl
set_option maxRecDepth 100000 in
theorem hX3_firstOfHunk_X3 : ∀ w ∈ u_ws RX3 TX3 4, w ∈ wsX3_firstOfHunk := mem_places [21, 22, 23, 24] rfl
set_option maxRecDepth 100000 in
theorem kX3_firstOfHunk_21 : Cond.fieldLink RX3 21 (TX3 3).1 (TX3 3).2.1 (TX3 3).2.2.1 ∈ wsX3_firstOfHunk := List.mem_of_getElem? (i := 1) rfl
set_option maxRecDepth 100000 in
theorem hX3_lastOfHunk_X3 : ∀ w ∈ u_ws RX3 TX3 4, w ∈ wsX3_lastOfHunk := mem_places [21, 22, 23, 24] rfl
set_option maxRecDepth 100000 in
theorem kX3_lastOfHunk_21 : Cond.fieldLink RX3 21 (TX3 3).1 (TX3 3).2.1 (TX3 3).2.2.1 ∈ wsX3_lastOfHunk := List.mem_of_getElem? (i := 1) rfl
set_option maxRecDepth 100000 in
theorem hX3_countKind_X3 : ∀ w ∈ u_ws RX3 TX3 4, w ∈ wsX3_countKind := mem_places [8, 9, 10, 11] rfl
set_option maxRecDepth 100000 in
theorem kX3_countKind_9 : Cond.fieldLink RX3 9 (TX3 0).1 (TX3 0).2.1 (TX3 0).2.2.1 ∈ wsX3_countKind := List.mem_of_getElem? (i := 1) rfl
set_option maxRecDepth 100000 in
theorem hX4_init_X2 : ∀ w ∈ u_ws RX2 TX2 2, w ∈ wsX4_init := mem_places [17, 18] rfl
set_option maxRecDepth 100000 in
theorem hX4_init_X4 : ∀ w ∈ u_ws RX4 TX4 3, w ∈ wsX4_init := mem_places [19, 20, 21] rfl
set_option maxRecDepth 100000 in
theorem kX4_init_14 : Cond.fieldLink RX4 14 (TX4 0).1 (TX4 0).2.1 (TX4 0).2.2.1 ∈ wsX4_init := List.mem_of_getElem? (i := 7) rfl
set_option maxRecDepth 100000 in
theorem kX4_init_20 : Cond.fieldLink RX4 20 (TX4 1).1 (TX4 1).2.1 (TX4 1).2.2.1 ∈ wsX4_init := List.mem_of_getElem? (i := 8) rfl
set_option maxRecDepth 100000 in
theorem kX4_init_24 : Cond.fieldLink RX4 24 (TX4 2).1 (TX4 2).2.1 (TX4 2).2.2.1 ∈ wsX4_init := List.mem_of_getElem? (i := 9) rfl
set_option maxRecDepth 100000 in
theorem hX4_begin_X4 : ∀ w ∈ u_ws RX4 TX4 3, w ∈ wsX4_begin := mem_places [4, 5, 6] rfl
set_option maxRecDepth 100000 in
theorem kX4_begin_14 : Cond.fieldLink RX4 14 (TX4 0).1 (TX4 0).2.1 (TX4 0).2.2.1 ∈ wsX4_begin := List.mem_of_getElem? (i := 1) rfl
set_option maxRecDepth 100000 in
theorem kX4_begin_20 : Cond.fieldLink RX4 20 (TX4 1).1 (TX4 1).2.1 (TX4 1).2.2.1 ∈ wsX4_begin := List.mem_of_getElem? (i := 2) rfl
set_option maxRecDepth 100000 in
theorem kX4_begin_24 : Cond.fieldLink RX4 24 (TX4 2).1 (TX4 2).2.1 (TX4 2).2.2.1 ∈ wsX4_begin := List.mem_of_getElem? (i := 3) rfl
set_option maxRecDepth 100000 in
theorem hX4_endBefore_X4 : ∀ w ∈ u_ws RX4 TX4 3, w ∈ wsX4_endBefore := mem_places [2, 3, 4] rfl
set_option maxRecDepth 100000 in
theorem kX4_endBefore_24 : Cond.fieldLink RX4 24 (TX4 2).1 (TX4 2).2.1 (TX4 2).2.2.1 ∈ wsX4_endBefore := List.mem_of_getElem? (i := 1) rfl
set_option maxRecDepth 100000 in
theorem hX4_goOnBehindStable_X4 : ∀ w ∈ u_ws RX4 TX4 3, w ∈ wsX4_goOnBehindStable := mem_places [3, 4, 5] rfl
set_option maxRecDepth 100000 in
theorem kX4_goOnBehindStable_24 : Cond.fieldLink RX4 24 (TX4 2).1 (TX4 2).2.1 (TX4 2).2.2.1 ∈ wsX4_goOnBehindStable := List.mem_of_getElem? (i := 1) rfl
set_option maxRecDepth 100000 in
theorem kX4_goOnBehindStable_20 : Cond.fieldLink RX4 20 (TX4 1).1 (TX4 1).2.1 (TX4 1).2.2.1 ∈ wsX4_goOnBehindStable := List.mem_of_getElem? (i := 2) rfl
set_option maxRecDepth 100000 in
theorem hX4_endOfRow_X2 : ∀ w ∈ u_ws RX2 TX2 2, w ∈ wsX4_endOfRow := mem_places [5, 6] rfl
set_option maxRecDepth 100000 in
theorem hX4_endOfRow_X4 : ∀ w ∈ u_ws RX4 TX4 3, w ∈ wsX4_endOfRow := mem_places [2, 3, 4] rfl
set_option maxRecDepth 100000 in
theorem kX4_endOfRow_14 : Cond.fieldLink RX4 14 (TX4 0).1 (TX4 0).2.1 (TX4 0).2.2.1 ∈ wsX4_endOfRow := List.mem_of_getElem? (i := 1) rfl
set_option maxRecDepth 100000 in
theorem hX4_symbolAt_X2 : ∀ w ∈ u_ws RX2 TX2 2, w ∈ wsX4_symbolAt := mem_places [12, 13] rfl
set_option maxRecDepth 100000 in
theorem hX4_symbolAt_X4 : ∀ w ∈ u_ws RX4 TX4 3, w ∈ wsX4_symbolAt := mem_places [9, 10, 11] rfl
set_option maxRecDepth 100000 in
theorem kX4_symbolAt_14 : Cond.fieldLink RX4 14 (TX4 0).1 (TX4 0).2.1 (TX4 0).2.2.1 ∈ wsX4_symbolAt := List.mem_of_getElem? (i := 1) rfl
set_option maxRecDepth 100000 in
theorem hX4_isSameAs_X2 : ∀ w ∈ u_ws RX2 TX2 2, w ∈ wsX4_isSameAs := mem_places [19, 20] rfl
set_option maxRecDepth 100000 in
theorem hX4_isSameAs_X4 : ∀ w ∈ u_ws RX4 TX4 3, w ∈ wsX4_isSameAs := mem_places [16, 17, 18] rfl
set_option maxRecDepth 100000 in
theorem kX4_isSameAs_24 : Cond.fieldLink RX4 24 (TX4 2).1 (TX4 2).2.1 (TX4 2).2.2.1 ∈ wsX4_isSameAs := List.mem_of_getElem? (i := 1) rfl
set_option maxRecDepth 100000 in
theorem kX4_isSameAs_20 : Cond.fieldLink RX4 20 (TX4 1).1 (TX4 1).2.1 (TX4 1).2.2.1 ∈ wsX4_isSameAs := List.mem_of_getElem? (i := 2) rfl
set_option maxRecDepth 100000 in
theorem hX4_addTo_X2 : ∀ w ∈ u_ws RX2 TX2 2, w ∈ wsX4_addTo := mem_places [22, 23] rfl
set_option maxRecDepth 100000 in
theorem hX4_addTo_X4 : ∀ w ∈ u_ws RX4 TX4 3, w ∈ wsX4_addTo := mem_places [19, 20, 21] rfl
set_option maxRecDepth 100000 in
theorem kX4_addTo_14 : Cond.fieldLink RX4 14 (TX4 0).1 (TX4 0).2.1 (TX4 0).2.2.1 ∈ wsX4_addTo := List.mem_of_getElem? (i := 1) rfl
set_option maxRecDepth 100000 in
theorem kX4_addTo_20 : Cond.fieldLink RX4 20 (TX4 1).1 (TX4 1).2.1 (TX4 1).2.2.1 ∈ wsX4_addTo := List.mem_of_getElem? (i := 2) rfl
set_option maxRecDepth 100000 in
theorem kX4_addTo_24 : Cond.fieldLink RX4 24 (TX4 2).1 (TX4 2).2.1 (TX4 2).2.2.1 ∈ wsX4_addTo := List.mem_of_getElem? (i := 3) rfl
set_option maxRecDepth 100000 in
theorem hX5_init_X0 : ∀ w ∈ u_ws RX0 TX0 3, w ∈ wsX5_init := mem_places [95, 96, 97] rfl
set_option maxRecDepth 100000 in
theorem hX5_init_X1 : ∀ w ∈ u_ws RX1 TX1 5, w ∈ wsX5_init := mem_places [98, 99, 100, 101, 102] rfl
set_option maxRecDepth 100000 in
theorem hX5_init_X2 : ∀ w ∈ u_ws RX2 TX2 2, w ∈ wsX5_init := mem_places [89, 90] rfl
set_option maxRecDepth 100000 in
theorem hX5_init_X3 : ∀ w ∈ u_ws RX3 TX3 4, w ∈ wsX5_init := mem_places [91, 92, 93, 94] rfl
set_option maxRecDepth 100000 in
theorem hX5_init_X4 : ∀ w ∈ u_ws RX4 TX4 3, w ∈ wsX5_init := mem_places [103, 104, 105] rfl
set_option maxRecDepth 100000 in
theorem hX5_init_X5 : ∀ w ∈ u_ws RX5 TX5 9, w ∈ wsX5_init := mem_places [80, 81, 82, 83, 84, 85, 86, 87, 88] rfl
set_option maxRecDepth 100000 in
theorem kX5_init_18 : Cond.fieldLink RX5 18 (TX5 0).1 (TX5 0).2.1 (TX5 0).2.2.1 ∈ wsX5_init := List.mem_of_getElem? (i := 11) rfl
set_option maxRecDepth 100000 in
theorem kX5_init_24 : Cond.fieldLink RX5 24 (TX5 1).1 (TX5 1).2.1 (TX5 1).2.2.1 ∈ wsX5_init := List.mem_of_getElem? (i := 13) rfl
set_option maxRecDepth 100000 in
theorem kX5_init_34 : Cond.fieldLink RX5 34 (TX5 2).1 (TX5 2).2.1 (TX5 2).2.2.1 ∈ wsX5_init := List.mem_of_getElem? (i := 19) rfl
set_option maxRecDepth 100000 in
theorem kX5_init_38 : Cond.fieldLink RX5 38 (TX5 3).1 (TX5 3).2.1 (TX5 3).2.2.1 ∈ wsX5_init := List.mem_of_getElem? (i := 20) rfl
set_option maxRecDepth 100000 in
theorem kX5_init_41 : Cond.fieldLink RX5 41 (TX5 4).1 (TX5 4).2.1 (TX5 4).2.2.1 ∈ wsX5_init := List.mem_of_getElem? (i := 21) rfl
set_option maxRecDepth 100000 in
theorem kX5_init_47 : Cond.fieldLink RX5 47 (TX5 5).1 (TX5 5).2.1 (TX5 5).2.2.1 ∈ wsX5_init := List.mem_of_getElem? (i := 25) rfl
set_option maxRecDepth 100000 in
theorem kX5_init_54 : Cond.fieldLink RX5 54 (TX5 6).1 (TX5 6).2.1 (TX5 6).2.2.1 ∈ wsX5_init := List.mem_of_getElem? (i := 29) rfl
set_option maxRecDepth 100000 in
theorem kX5_init_58 : Cond.fieldLink RX5 58 (TX5 7).1 (TX5 7).2.1 (TX5 7).2.2.1 ∈ wsX5_init := List.mem_of_getElem? (i := 30) rfl
set_option maxRecDepth 100000 in
theorem kX5_init_62 : Cond.fieldLink RX5 62 (TX5 8).1 (TX5 8).2.1 (TX5 8).2.2.1 ∈ wsX5_init := List.mem_of_getElem? (i := 31) rfl
set_option maxRecDepth 100000 in
theorem hX5_feed_X2 : ∀ w ∈ u_ws RX2 TX2 2, w ∈ wsX5_feed := mem_places [25, 26] rfl
set_option maxRecDepth 100000 in
theorem hX5_feed_X5 : ∀ w ∈ u_ws RX5 TX5 9, w ∈ wsX5_feed := mem_places [16, 17, 18, 19, 20, 21, 22, 23, 24] rfl
set_option maxRecDepth 100000 in
theorem kX5_feed_24 : Cond.fieldLink RX5 24 (TX5 1).1 (TX5 1).2.1 (TX5 1).2.2.1 ∈ wsX5_feed := List.mem_of_getElem? (i := 1) rfl
set_option maxRecDepth 100000 in
theorem hX5_clear_X2 : ∀ w ∈ u_ws RX2 TX2 2, w ∈ wsX5_clear := mem_places [21, 22] rfl
set_option maxRecDepth 100000 in
theorem hX5_clear_X5 : ∀ w ∈ u_ws RX5 TX5 9, w ∈ wsX5_clear := mem_places [12, 13, 14, 15, 16, 17, 18, 19, 20] rfl
set_option maxRecDepth 100000 in
theorem kX5_clear_24 : Cond.fieldLink RX5 24 (TX5 1).1 (TX5 1).2.1 (TX5 1).2.2.1 ∈ wsX5_clear := List.mem_of_getElem? (i := 1) rfl
set_option maxRecDepth 100000 in
theorem hX5_size_X2 : ∀ w ∈ u_ws RX2 TX2 2, w ∈ wsX5_size := mem_places [15, 16] rfl
set_option maxRecDepth 100000 in
theorem hX5_size_X5 : ∀ w ∈ u_ws RX5 TX5 9, w ∈ wsX5_size := mem_places [6, 7, 8, 9, 10, 11, 12, 13, 14] rfl
set_option maxRecDepth 100000 in
theorem kX5_size_24 : Cond.fieldLink RX5 24 (TX5 1).1 (TX5 1).2.1 (TX5 1).2.2.1 ∈ wsX5_size := List.mem_of_getElem? (i := 1) rfl
set_option maxRecDepth 100000 in
theorem hX5_symbol_X2 : ∀ w ∈ u_ws RX2 TX2 2, w ∈ wsX5_symbol := mem_places [22, 23] rfl
set_option maxRecDepth 100000 in
theorem hX5_symbol_X5 : ∀ w ∈ u_ws RX5 TX5 9, w ∈ wsX5_symbol := mem_places [13, 14, 15, 16, 17, 18, 19, 20, 21] rfl
set_option maxRecDepth 100000 in
theorem kX5_symbol_24 : Cond.fieldLink RX5 24 (TX5 1).1 (TX5 1).2.1 (TX5 1).2.2.1 ∈ wsX5_symbol := List.mem_of_getElem? (i := 1) rfl
set_option maxRecDepth 100000 in
theorem hX5_diff_X0 : ∀ w ∈ u_ws RX0 TX0 3, w ∈ wsX5_diff := mem_places [82, 83, 84] rfl
set_option maxRecDepth 100000 in
theorem hX5_diff_X2 : ∀ w ∈ u_ws RX2 TX2 2, w ∈ wsX5_diff := mem_places [76, 77] rfl
set_option maxRecDepth 100000 in
theorem hX5_diff_X3 : ∀ w ∈ u_ws RX3 TX3 4, w ∈ wsX5_diff := mem_places [78, 79, 80, 81] rfl
set_option maxRecDepth 100000 in
theorem hX5_diff_X5 : ∀ w ∈ u_ws RX5 TX5 9, w ∈ wsX5_diff := mem_places [67, 68, 69, 70, 71, 72, 73, 74, 75] rfl
set_option maxRecDepth 100000 in
theorem kX5_diff_47 : Cond.fieldLink RX5 47 (TX5 5).1 (TX5 5).2.1 (TX5 5).2.2.1 ∈ wsX5_diff := List.mem_of_getElem? (i := 5) rfl
set_option maxRecDepth 100000 in
theorem kX5_diff_24 : Cond.fieldLink RX5 24 (TX5 1).1 (TX5 1).2.1 (TX5 1).2.2.1 ∈ wsX5_diff := List.mem_of_getElem? (i := 6) rfl
set_option maxRecDepth 100000 in
theorem kX5_diff_18 : Cond.fieldLink RX5 18 (TX5 0).1 (TX5 0).2.1 (TX5 0).2.2.1 ∈ wsX5_diff := List.mem_of_getElem? (i := 7) rfl
set_option maxRecDepth 100000 in
theorem kX5_diff_34 : Cond.fieldLink RX5 34 (TX5 2).1 (TX5 2).2.1 (TX5 2).2.2.1 ∈ wsX5_diff := List.mem_of_getElem? (i := 8) rfl
set_option maxRecDepth 100000 in
theorem kX5_diff_38 : Cond.fieldLink RX5 38 (TX5 3).1 (TX5 3).2.1 (TX5 3).2.2.1 ∈ wsX5_diff := List.mem_of_getElem? (i := 9) rfl
set_option maxRecDepth 100000 in
theorem kX5_diff_41 : Cond.fieldLink RX5 41 (TX5 4).1 (TX5 4).2.1 (TX5 4).2.2.1 ∈ wsX5_diff := List.mem_of_getElem? (i := 10) rfl
set_option maxRecDepth 100000 in
theorem hX5_operation_X3 : ∀ w ∈ u_ws RX3 TX3 4, w ∈ wsX5_operation := mem_places [17, 18, 19, 20] rfl
set_option maxRecDepth 100000 in
theorem hX5_operation_X5 : ∀ w ∈ u_ws RX5 TX5 9, w ∈ wsX5_operation := mem_places [8, 9, 10, 11, 12, 13, 14, 15, 16] rfl
set_option maxRecDepth 100000 in
theorem kX5_operation_34 : Cond.fieldLink RX5 34 (TX5 2).1 (TX5 2).2.1 (TX5 2).2.2.1 ∈ wsX5_operation := List.mem_of_getElem? (i := 1) rfl
set_option maxRecDepth 100000 in
theorem hX5_forget_X3 : ∀ w ∈ u_ws RX3 TX3 4, w ∈ wsX5_forget := mem_places [17, 18, 19, 20] rfl
set_option maxRecDepth 100000 in
theorem hX5_forget_X5 : ∀ w ∈ u_ws RX5 TX5 9, w ∈ wsX5_forget := mem_places [8, 9, 10, 11, 12, 13, 14, 15, 16] rfl
set_option maxRecDepth 100000 in
theorem kX5_forget_34 : Cond.fieldLink RX5 34 (TX5 2).1 (TX5 2).2.1 (TX5 2).2.2.1 ∈ wsX5_forget := List.mem_of_getElem? (i := 1) rfl
set_option maxRecDepth 100000 in
theorem hX5_load_X3 : ∀ w ∈ u_ws RX3 TX3 4, w ∈ wsX5_load := mem_places [20, 21, 22, 23] rfl
set_option maxRecDepth 100000 in
theorem hX5_load_X5 : ∀ w ∈ u_ws RX5 TX5 9, w ∈ wsX5_load := mem_places [11, 12, 13, 14, 15, 16, 17, 18, 19] rfl
set_option maxRecDepth 100000 in
theorem kX5_load_34 : Cond.fieldLink RX5 34 (TX5 2).1 (TX5 2).2.1 (TX5 2).2.2.1 ∈ wsX5_load := List.mem_of_getElem? (i := 1) rfl
set_option maxRecDepth 100000 in
theorem hX5_patch_X2 : ∀ w ∈ u_ws RX2 TX2 2, w ∈ wsX5_patch := mem_places [78, 79] rfl
set_option maxRecDepth 100000 in
theorem hX5_patch_X3 : ∀ w ∈ u_ws RX3 TX3 4, w ∈ wsX5_patch := mem_places [74, 75, 76, 77] rfl
set_option maxRecDepth 100000 in
theorem hX5_patch_X5 : ∀ w ∈ u_ws RX5 TX5 9, w ∈ wsX5_patch := mem_places [65, 66, 67, 68, 69, 70, 71, 72, 73] rfl
set_option maxRecDepth 100000 in
theorem kX5_patch_24 : Cond.fieldLink RX5 24 (TX5 1).1 (TX5 1).2.1 (TX5 1).2.2.1 ∈ wsX5_patch := List.mem_of_getElem? (i := 3) rfl
set_option maxRecDepth 100000 in
theorem kX5_patch_62 : Cond.fieldLink RX5 62 (TX5 8).1 (TX5 8).2.1 (TX5 8).2.2.1 ∈ wsX5_patch := List.mem_of_getElem? (i := 4) rfl
set_option maxRecDepth 100000 in
theorem kX5_patch_34 : Cond.fieldLink RX5 34 (TX5 2).1 (TX5 2).2.1 (TX5 2).2.2.1 ∈ wsX5_patch := List.mem_of_getElem? (i := 5) rfl
set_option maxRecDepth 100000 in
theorem kX5_patch_58 : Cond.fieldLink RX5 58 (TX5 7).1 (TX5 7).2.1 (TX5 7).2.2.1 ∈ wsX5_patch := List.mem_of_getElem? (i := 6) rfl
set_option maxRecDepth 100000 in
theorem hX5_merge_X0 : ∀ w ∈ u_ws RX0 TX0 3, w ∈ wsX5_merge := mem_places [136, 137, 138] rfl
set_option maxRecDepth 100000 in
theorem hX5_merge_X1 : ∀ w ∈ u_ws RX1 TX1 5, w ∈ wsX5_merge := mem_places [131, 132, 133, 134, 135] rfl
set_option maxRecDepth 100000 in
theorem hX5_merge_X2 : ∀ w ∈ u_ws RX2 TX2 2, w ∈ wsX5_merge := mem_places [129, 130] rfl
set_option maxRecDepth 100000 in
theorem hX5_merge_X4 : ∀ w ∈ u_ws RX4 TX4 3, w ∈ wsX5_merge := mem_places [139, 140, 141] rfl
set_option maxRecDepth 100000 in
theorem hX5_merge_X5 : ∀ w ∈ u_ws RX5 TX5 9, w ∈ wsX5_merge := mem_places [120, 121, 122, 123, 124, 125, 126, 127, 128] rfl
set_option maxRecDepth 100000 in
theorem kX5_merge_58 : Cond.fieldLink RX5 58 (TX5 7).1 (TX5 7).2.1 (TX5 7).2.2.1 ∈ wsX5_merge := List.mem_of_getElem? (i := 1) rfl
set_option maxRecDepth 100000 in
theorem kX5_merge_54 : Cond.fieldLink RX5 54 (TX5 6).1 (TX5 6).2.1 (TX5 6).2.2.1 ∈ wsX5_merge := List.mem_of_getElem? (i := 2) rfl
set_option maxRecDepth 100000 in
theorem kX5_merge_24 : Cond.fieldLink RX5 24 (TX5 1).1 (TX5 1).2.1 (TX5 1).2.2.1 ∈ wsX5_merge := List.mem_of_getElem? (i := 3) rfl
set_option maxRecDepth 100000 in
theorem kX5_merge_47 : Cond.fieldLink RX5 47 (TX5 5).1 (TX5 5).2.1 (TX5 5).2.2.1 ∈ wsX5_merge := List.mem_of_getElem? (i := 4) rfl
set_option maxRecDepth 100000 in
theorem hX5_result_X2 : ∀ w ∈ u_ws RX2 TX2 2, w ∈ wsX5_result := mem_places [18, 19] rfl
set_option maxRecDepth 100000 in
theorem hX5_result_X5 : ∀ w ∈ u_ws RX5 TX5 9, w ∈ wsX5_result := mem_places [9, 10, 11, 12, 13, 14, 15, 16, 17] rfl
set_option maxRecDepth 100000 in
theorem kX5_result_58 : Cond.fieldLink RX5 58 (TX5 7).1 (TX5 7).2.1 (TX5 7).2.2.1 ∈ wsX5_result := List.mem_of_getElem? (i := 1) rfl
set_option maxRecDepth 100000 in
theorem hX5_results_X2 : ∀ w ∈ u_ws RX2 TX2 2, w ∈ wsX5_results := mem_places [11, 12] rfl
set_option maxRecDepth 100000 in
theorem hX5_results_X5 : ∀ w ∈ u_ws RX5 TX5 9, w ∈ wsX5_results := mem_places [2, 3, 4, 5, 6, 7, 8, 9, 10] rfl
set_option maxRecDepth 100000 in
theorem kX5_results_58 : Cond.fieldLink RX5 58 (TX5 7).1 (TX5 7).2.1 (TX5 7).2.2.1 ∈ wsX5_results := List.mem_of_getElem? (i := 1) rfl
set_option maxRecDepth 100000 in
theorem hX5_hunks_X3 : ∀ w ∈ u_ws RX3 TX3 4, w ∈ wsX5_hunks := mem_places [35, 36, 37, 38] rfl
set_option maxRecDepth 100000 in
theorem hX5_hunks_X5 : ∀ w ∈ u_ws RX5 TX5 9, w ∈ wsX5_hunks := mem_places [26, 27, 28, 29, 30, 31, 32, 33, 34] rfl
set_option maxRecDepth 100000 in
theorem kX5_hunks_38 : Cond.fieldLink RX5 38 (TX5 3).1 (TX5 3).2.1 (TX5 3).2.2.1 ∈ wsX5_hunks := List.mem_of_getElem? (i := 1) rfl
set_option maxRecDepth 100000 in
theorem hX5_hunk_X3 : ∀ w ∈ u_ws RX3 TX3 4, w ∈ wsX5_hunk := mem_places [62, 63, 64, 65] rfl
set_option maxRecDepth 100000 in
theorem hX5_hunk_X5 : ∀ w ∈ u_ws RX5 TX5 9, w ∈ wsX5_hunk := mem_places [53, 54, 55, 56, 57, 58, 59, 60, 61] rfl
set_option maxRecDepth 100000 in
theorem kX5_hunk_38 : Cond.fieldLink RX5 38 (TX5 3).1 (TX5 3).2.1 (TX5 3).2.2.1 ∈ wsX5_hunk := List.mem_of_getElem? (i := 1) rfl
set_option maxRecDepth 100000 in
theorem kX5_hunk_41 : Cond.fieldLink RX5 41 (TX5 4).1 (TX5 4).2.1 (TX5 4).2.2.1 ∈ wsX5_hunk := List.mem_of_getElem? (i := 6) rfl
set_option maxRecDepth 100000 in
theorem hX5_alike_X0 : ∀ w ∈ u_ws RX0 TX0 3, w ∈ wsX5_alike := mem_places [43, 44, 45] rfl
set_option maxRecDepth 100000 in
theorem hX5_alike_X2 : ∀ w ∈ u_ws RX2 TX2 2, w ∈ wsX5_alike := mem_places [41, 42] rfl
set_option maxRecDepth 100000 in
theorem hX5_alike_X5 : ∀ w ∈ u_ws RX5 TX5 9, w ∈ wsX5_alike := mem_places [32, 33, 34, 35, 36, 37, 38, 39, 40] rfl
set_option maxRecDepth 100000 in
theorem kX5_alike_24 : Cond.fieldLink RX5 24 (TX5 1).1 (TX5 1).2.1 (TX5 1).2.2.1 ∈ wsX5_alike := List.mem_of_getElem? (i := 2) rfl
set_option maxRecDepth 100000 in
theorem kX5_alike_47 : Cond.fieldLink RX5 47 (TX5 5).1 (TX5 5).2.1 (TX5 5).2.2.1 ∈ wsX5_alike := List.mem_of_getElem? (i := 3) rfl
set_option maxRecDepth 100000 in
theorem hX5_checkOperation_X2 : ∀ w ∈ u_ws RX2 TX2 2, w ∈ wsX5_checkOperation := mem_places [44, 45] rfl
set_option maxRecDepth 100000 in
theorem hX5_checkOperation_X3 : ∀ w ∈ u_ws RX3 TX3 4, w ∈ wsX5_checkOperation := mem_places [40, 41, 42, 43] rfl
set_option maxRecDepth 100000 in
theorem hX5_checkOperation_X5 : ∀ w ∈ u_ws RX5 TX5 9, w ∈ wsX5_checkOperation := mem_places [31, 32, 33, 34, 35, 36, 37, 38, 39] rfl
set_option maxRecDepth 100000 in
theorem kX5_checkOperation_34 : Cond.fieldLink RX5 34 (TX5 2).1 (TX5 2).2.1 (TX5 2).2.2.1 ∈ wsX5_checkOperation := List.mem_of_getElem? (i := 7) rfl
set_option maxRecDepth 100000 in
theorem hX5_checkRoom_X2 : ∀ w ∈ u_ws RX2 TX2 2, w ∈ wsX5_checkRoom := mem_places [13, 14] rfl
set_option maxRecDepth 100000 in
theorem hX5_checkRoom_X5 : ∀ w ∈ u_ws RX5 TX5 9, w ∈ wsX5_checkRoom := mem_places [4, 5, 6, 7, 8, 9, 10, 11, 12] rfl
set_option maxRecDepth 100000 in
theorem kX5_checkRoom_62 : Cond.fieldLink RX5 62 (TX5 8).1 (TX5 8).2.1 (TX5 8).2.2.1 ∈ wsX5_checkRoom := List.mem_of_getElem? (i := 3) rfl
set_option maxRecDepth 100000 in
theorem hX5_swapResultAndDraft_X5 : ∀ w ∈ u_ws RX5 TX5 9, w ∈ wsX5_swapResultAndDraft := mem_places [3, 4, 5, 6, 7, 8, 9, 10, 11] rfl
set_option maxRecDepth 100000 in
theorem kX5_swapResultAndDraft_58 : Cond.fieldLink RX5 58 (TX5 7).1 (TX5 7).2.1 (TX5 7).2.2.1 ∈ wsX5_swapResultAndDraft := List.mem_of_getElem? (i := 1) rfl
set_option maxRecDepth 100000 in
theorem kX5_swapResultAndDraft_62 : Cond.fieldLink RX5 62 (TX5 8).1 (TX5 8).2.1 (TX5 8).2.2.1 ∈ wsX5_swapResultAndDraft := List.mem_of_getElem? (i := 2) rfl
set_option maxRecDepth 100000 in
theorem hX6_init_X6 : ∀ w ∈ u_ws RX6 TX6 19, w ∈ wsX6_init := mem_places [18, 19, 20, 21, 22, 23, 24, 25, 26, 27, 28, 29, 30, 31, 32, 33, 34, 35, 36] rfl
set_option maxRecDepth 100000 in
theorem kX6_init_7 : Cond.fieldLink RX6 7 (TX6 2).1 (TX6 2).2.1 (TX6 2).2.2.1 ∈ wsX6_init := List.mem_of_getElem? (i := 5) rfl
set_option maxRecDepth 100000 in
theorem kX6_init_13 : Cond.fieldLink RX6 13 (TX6 3).1 (TX6 3).2.1 (TX6 3).2.2.1 ∈ wsX6_init := List.mem_of_getElem? (i := 6) rfl
set_option maxRecDepth 100000 in
theorem kX6_init_16 : Cond.fieldLink RX6 16 (TX6 5).1 (TX6 5).2.1 (TX6 5).2.2.1 ∈ wsX6_init := List.mem_of_getElem? (i := 7) rfl
set_option maxRecDepth 100000 in
theorem kX6_init_19 : Cond.fieldLink RX6 19 (TX6 6).1 (TX6 6).2.1 (TX6 6).2.2.1 ∈ wsX6_init := List.mem_of_getElem? (i := 8) rfl
set_option maxRecDepth 100000 in
theorem kX6_init_22 : Cond.fieldLink RX6 22 (TX6 7).1 (TX6 7).2.1 (TX6 7).2.2.1 ∈ wsX6_init := List.mem_of_getElem? (i := 9) rfl
set_option maxRecDepth 100000 in
theorem kX6_init_25 : Cond.fieldLink RX6 25 (TX6 11).1 (TX6 11).2.1 (TX6 11).2.2.1 ∈ wsX6_init := List.mem_of_getElem? (i := 10) rfl
set_option maxRecDepth 100000 in
theorem kX6_init_28 : Cond.fieldLink RX6 28 (TX6 12).1 (TX6 12).2.1 (TX6 12).2.2.1 ∈ wsX6_init := List.mem_of_getElem? (i := 11) rfl
set_option maxRecDepth 100000 in
theorem kX6_init_31 : Cond.fieldLink RX6 31 (TX6 14).1 (TX6 14).2.1 (TX6 14).2.2.1 ∈ wsX6_init := List.mem_of_getElem? (i := 12) rfl
set_option maxRecDepth 100000 in
theorem kX6_init_34 : Cond.fieldLink RX6 34 (TX6 15).1 (TX6 15).2.1 (TX6 15).2.2.1 ∈ wsX6_init := List.mem_of_getElem? (i := 13) rfl
set_option maxRecDepth 100000 in
theorem kX6_init_37 : Cond.fieldLink RX6 37 (TX6 16).1 (TX6 16).2.1 (TX6 16).2.2.1 ∈ wsX6_init := List.mem_of_getElem? (i := 14) rfl
set_option maxRecDepth 100000 in
theorem kX6_init_40 : Cond.fieldLink RX6 40 (TX6 17).1 (TX6 17).2.1 (TX6 17).2.2.1 ∈ wsX6_init := List.mem_of_getElem? (i := 15) rfl
set_option maxRecDepth 100000 in
theorem kX6_init_43 : Cond.fieldLink RX6 43 (TX6 18).1 (TX6 18).2.1 (TX6 18).2.2.1 ∈ wsX6_init := List.mem_of_getElem? (i := 16) rfl
set_option maxRecDepth 100000 in
theorem kX6_init_46 : Cond.fieldLink RX6 46 (TX6 0).1 (TX6 0).2.1 (TX6 0).2.2.1 ∈ wsX6_init := List.mem_of_getElem? (i := 17) rfl
set_option maxRecDepth 100000 in
theorem hX6_thrown_X6 : ∀ w ∈ u_ws RX6 TX6 19, w ∈ wsX6_thrown := mem_places [2, 3, 4, 5, 6, 7, 8, 9, 10, 11, 12, 13, 14, 15, 16, 17, 18, 19, 20] rfl
set_option maxRecDepth 100000 in
theorem kX6_thrown_50 : Cond.fieldLink RX6 50 (TX6 1).1 (TX6 1).2.1 (TX6 1).2.2.1 ∈ wsX6_thrown := List.mem_of_getElem? (i := 1) rfl
set_option maxRecDepth 100000 in
theorem hX6_feed_X6 : ∀ w ∈ u_ws RX6 TX6 19, w ∈ wsX6_feed := mem_places [8, 9, 10, 11, 12, 13, 14, 15, 16, 17, 18, 19, 20, 21, 22, 23, 24, 25, 26] rfl
set_option maxRecDepth 100000 in
theorem kX6_feed_50 : Cond.fieldLink RX6 50 (TX6 1).1 (TX6 1).2.1 (TX6 1).2.2.1 ∈ wsX6_feed := List.mem_of_getElem? (i := 1) rfl
set_option maxRecDepth 100000 in
theorem kX6_feed_7 : Cond.fieldLink RX6 7 (TX6 2).1 (TX6 2).2.1 (TX6 2).2.2.1 ∈ wsX6_feed := List.mem_of_getElem? (i := 2) rfl
set_option maxRecDepth 100000 in
theorem kX6_feed_13 : Cond.fieldLink RX6 13 (TX6 3).1 (TX6 3).2.1 (TX6 3).2.2.1 ∈ wsX6_feed := List.mem_of_getElem? (i := 3) rfl
set_option maxRecDepth 100000 in
theorem hX6_clear_X6 : ∀ w ∈ u_ws RX6 TX6 19, w ∈ wsX6_clear := mem_places [7, 8, 9, 10, 11, 12, 13, 14, 15, 16, 17, 18, 19, 20, 21, 22, 23, 24, 25] rfl
set_option maxRecDepth 100000 in
theorem kX6_clear_50 : Cond.fieldLink RX6 50 (TX6 1).1 (TX6 1).2.1 (TX6 1).2.2.1 ∈ wsX6_clear := List.mem_of_getElem? (i := 1) rfl
set_option maxRecDepth 100000 in
theorem kX6_clear_7 : Cond.fieldLink RX6 7 (TX6 2).1 (TX6 2).2.1 (TX6 2).2.2.1 ∈ wsX6_clear := List.mem_of_getElem? (i := 2) rfl
set_option maxRecDepth 100000 in
theorem hX6_size_X6 : ∀ w ∈ u_ws RX6 TX6 19, w ∈ wsX6_size := mem_places [7, 8, 9, 10, 11, 12, 13, 14, 15, 16, 17, 18, 19, 20, 21, 22, 23, 24, 25] rfl
set_option maxRecDepth 100000 in
theorem kX6_size_50 : Cond.fieldLink RX6 50 (TX6 1).1 (TX6 1).2.1 (TX6 1).2.2.1 ∈ wsX6_size := List.mem_of_getElem? (i := 1) rfl
set_option maxRecDepth 100000 in
theorem kX6_size_7 : Cond.fieldLink RX6 7 (TX6 2).1 (TX6 2).2.1 (TX6 2).2.2.1 ∈ wsX6_size := List.mem_of_getElem? (i := 2) rfl
set_option maxRecDepth 100000 in
theorem hX6_symbol_X6 : ∀ w ∈ u_ws RX6 TX6 19, w ∈ wsX6_symbol := mem_places [8, 9, 10, 11, 12, 13, 14, 15, 16, 17, 18, 19, 20, 21, 22, 23, 24, 25, 26] rfl
set_option maxRecDepth 100000 in
theorem kX6_symbol_50 : Cond.fieldLink RX6 50 (TX6 1).1 (TX6 1).2.1 (TX6 1).2.2.1 ∈ wsX6_symbol := List.mem_of_getElem? (i := 1) rfl
set_option maxRecDepth 100000 in
theorem kX6_symbol_7 : Cond.fieldLink RX6 7 (TX6 2).1 (TX6 2).2.1 (TX6 2).2.2.1 ∈ wsX6_symbol := List.mem_of_getElem? (i := 2) rfl
set_option maxRecDepth 100000 in
theorem kX6_symbol_13 : Cond.fieldLink RX6 13 (TX6 3).1 (TX6 3).2.1 (TX6 3).2.2.1 ∈ wsX6_symbol := List.mem_of_getElem? (i := 3) rfl
set_option maxRecDepth 100000 in
theorem hX6_same_X6 : ∀ w ∈ u_ws RX6 TX6 19, w ∈ wsX6_same := mem_places [2, 3, 4, 5, 6, 7, 8, 9, 10, 11, 12, 13, 14, 15, 16, 17, 18, 19, 20] rfl
set_option maxRecDepth 100000 in
theorem kX6_same_13 : Cond.fieldLink RX6 13 (TX6 3).1 (TX6 3).2.1 (TX6 3).2.2.1 ∈ wsX6_same := List.mem_of_getElem? (i := 1) rfl
set_option maxRecDepth 100000 in
theorem hX6_fill_X6 : ∀ w ∈ u_ws RX6 TX6 19, w ∈ wsX6_fill := mem_places [9, 10, 11, 12, 13, 14, 15, 16, 17, 18, 19, 20, 21, 22, 23, 24, 25, 26, 27] rfl
set_option maxRecDepth 100000 in
theorem kX6_fill_7 : Cond.fieldLink RX6 7 (TX6 2).1 (TX6 2).2.1 (TX6 2).2.2.1 ∈ wsX6_fill := List.mem_of_getElem? (i := 1) rfl
set_option maxRecDepth 100000 in
theorem kX6_fill_34 : Cond.fieldLink RX6 34 (TX6 15).1 (TX6 15).2.1 (TX6 15).2.2.1 ∈ wsX6_fill := List.mem_of_getElem? (i := 2) rfl
set_option maxRecDepth 100000 in
theorem hX6_deletes_X6 : ∀ w ∈ u_ws RX6 TX6 19, w ∈ wsX6_deletes := mem_places [3, 4, 5, 6, 7, 8, 9, 10, 11, 12, 13, 14, 15, 16, 17, 18, 19, 20, 21] rfl
set_option maxRecDepth 100000 in
theorem kX6_deletes_7 : Cond.fieldLink RX6 7 (TX6 2).1 (TX6 2).2.1 (TX6 2).2.2.1 ∈ wsX6_deletes := List.mem_of_getElem? (i := 1) rfl
set_option maxRecDepth 100000 in
theorem kX6_deletes_34 : Cond.fieldLink RX6 34 (TX6 15).1 (TX6 15).2.1 (TX6 15).2.2.1 ∈ wsX6_deletes := List.mem_of_getElem? (i := 2) rfl
set_option maxRecDepth 100000 in
theorem hX6_diff_X6 : ∀ w ∈ u_ws RX6 TX6 19, w ∈ wsX6_diff := mem_places [35, 36, 37, 38, 39, 40, 41, 42, 43, 44, 45, 46, 47, 48, 49, 50, 51, 52, 53] rfl
set_option maxRecDepth 100000 in
theorem kX6_diff_34 : Cond.fieldLink RX6 34 (TX6 15).1 (TX6 15).2.1 (TX6 15).2.2.1 ∈ wsX6_diff := List.mem_of_getElem? (i := 1) rfl
set_option maxRecDepth 100000 in
theorem kX6_diff_46 : Cond.fieldLink RX6 46 (TX6 0).1 (TX6 0).2.1 (TX6 0).2.2.1 ∈ wsX6_diff := List.mem_of_getElem? (i := 2) rfl
set_option maxRecDepth 100000 in
theorem kX6_diff_50 : Cond.fieldLink RX6 50 (TX6 1).1 (TX6 1).2.1 (TX6 1).2.2.1 ∈ wsX6_diff := List.mem_of_getElem? (i := 3) rfl
set_option maxRecDepth 100000 in
theorem kX6_diff_65 : Cond.fieldLink RX6 65 (TX6 4).1 (TX6 4).2.1 (TX6 4).2.2.1 ∈ wsX6_diff := List.mem_of_getElem? (i := 4) rfl
set_option maxRecDepth 100000 in
theorem kX6_diff_7 : Cond.fieldLink RX6 7 (TX6 2).1 (TX6 2).2.1 (TX6 2).2.2.1 ∈ wsX6_diff := List.mem_of_getElem? (i := 5) rfl
set_option maxRecDepth 100000 in
theorem kX6_diff_13 : Cond.fieldLink RX6 13 (TX6 3).1 (TX6 3).2.1 (TX6 3).2.2.1 ∈ wsX6_diff := List.mem_of_getElem? (i := 6) rfl
set_option maxRecDepth 100000 in
theorem kX6_diff_76 : Cond.fieldLink RX6 76 (TX6 8).1 (TX6 8).2.1 (TX6 8).2.2.1 ∈ wsX6_diff := List.mem_of_getElem? (i := 7) rfl
set_option maxRecDepth 100000 in
theorem kX6_diff_80 : Cond.fieldLink RX6 80 (TX6 9).1 (TX6 9).2.1 (TX6 9).2.2.1 ∈ wsX6_diff := List.mem_of_getElem? (i := 8) rfl
set_option maxRecDepth 100000 in
theorem kX6_diff_83 : Cond.fieldLink RX6 83 (TX6 10).1 (TX6 10).2.1 (TX6 10).2.2.1 ∈ wsX6_diff := List.mem_of_getElem? (i := 9) rfl
set_option maxRecDepth 100000 in
theorem kX6_diff_25 : Cond.fieldLink RX6 25 (TX6 11).1 (TX6 11).2.1 (TX6 11).2.2.1 ∈ wsX6_diff := List.mem_of_getElem? (i := 10) rfl
set_option maxRecDepth 100000 in
theorem kX6_diff_16 : Cond.fieldLink RX6 16 (TX6 5).1 (TX6 5).2.1 (TX6 5).2.2.1 ∈ wsX6_diff := List.mem_of_getElem? (i := 11) rfl
set_option maxRecDepth 100000 in
theorem kX6_diff_28 : Cond.fieldLink RX6 28 (TX6 12).1 (TX6 12).2.1 (TX6 12).2.2.1 ∈ wsX6_diff := List.mem_of_getElem? (i := 12) rfl
set_option maxRecDepth 100000 in
theorem kX6_diff_19 : Cond.fieldLink RX6 19 (TX6 6).1 (TX6 6).2.1 (TX6 6).2.2.1 ∈ wsX6_diff := List.mem_of_getElem? (i := 13) rfl
set_option maxRecDepth 100000 in
theorem hX6_put_X6 : ∀ w ∈ u_ws RX6 TX6 19, w ∈ wsX6_put := mem_places [5, 6, 7, 8, 9, 10, 11, 12, 13, 14, 15, 16, 17, 18, 19, 20, 21, 22, 23] rfl
set_option maxRecDepth 100000 in
theorem kX6_put_16 : Cond.fieldLink RX6 16 (TX6 5).1 (TX6 5).2.1 (TX6 5).2.2.1 ∈ wsX6_put := List.mem_of_getElem? (i := 1) rfl
set_option maxRecDepth 100000 in
theorem kX6_put_65 : Cond.fieldLink RX6 65 (TX6 4).1 (TX6 4).2.1 (TX6 4).2.2.1 ∈ wsX6_put := List.mem_of_getElem? (i := 2) rfl
set_option maxRecDepth 100000 in
theorem kX6_put_19 : Cond.fieldLink RX6 19 (TX6 6).1 (TX6 6).2.1 (TX6 6).2.2.1 ∈ wsX6_put := List.mem_of_getElem? (i := 3) rfl
set_option maxRecDepth 100000 in
theorem kX6_put_22 : Cond.fieldLink RX6 22 (TX6 7).1 (TX6 7).2.1 (TX6 7).2.2.1 ∈ wsX6_put := List.mem_of_getElem? (i := 4) rfl
set_option maxRecDepth 100000 in
theorem hX6_operation_X6 : ∀ w ∈ u_ws RX6 TX6 19, w ∈ wsX6_operation := mem_places [6, 7, 8, 9, 10, 11, 12, 13, 14, 15, 16, 17, 18, 19, 20, 21, 22, 23, 24] rfl
set_option maxRecDepth 100000 in
theorem kX6_operation_50 : Cond.fieldLink RX6 50 (TX6 1).1 (TX6 1).2.1 (TX6 1).2.2.1 ∈ wsX6_operation := List.mem_of_getElem? (i := 1) rfl
set_option maxRecDepth 100000 in
theorem kX6_operation_65 : Cond.fieldLink RX6 65 (TX6 4).1 (TX6 4).2.1 (TX6 4).2.2.1 ∈ wsX6_operation := List.mem_of_getElem? (i := 2) rfl
set_option maxRecDepth 100000 in
theorem kX6_operation_16 : Cond.fieldLink RX6 16 (TX6 5).1 (TX6 5).2.1 (TX6 5).2.2.1 ∈ wsX6_operation := List.mem_of_getElem? (i := 3) rfl
set_option maxRecDepth 100000 in
theorem kX6_operation_19 : Cond.fieldLink RX6 19 (TX6 6).1 (TX6 6).2.1 (TX6 6).2.2.1 ∈ wsX6_operation := List.mem_of_getElem? (i := 4) rfl
set_option maxRecDepth 100000 in
theorem kX6_operation_22 : Cond.fieldLink RX6 22 (TX6 7).1 (TX6 7).2.1 (TX6 7).2.2.1 ∈ wsX6_operation := List.mem_of_getElem? (i := 5) rfl
set_option maxRecDepth 100000 in
theorem hX6_forget_X6 : ∀ w ∈ u_ws RX6 TX6 19, w ∈ wsX6_forget := mem_places [3, 4, 5, 6, 7, 8, 9, 10, 11, 12, 13, 14, 15, 16, 17, 18, 19, 20, 21] rfl
set_option maxRecDepth 100000 in
theorem kX6_forget_50 : Cond.fieldLink RX6 50 (TX6 1).1 (TX6 1).2.1 (TX6 1).2.2.1 ∈ wsX6_forget := List.mem_of_getElem? (i := 1) rfl
set_option maxRecDepth 100000 in
theorem kX6_forget_65 : Cond.fieldLink RX6 65 (TX6 4).1 (TX6 4).2.1 (TX6 4).2.2.1 ∈ wsX6_forget := List.mem_of_getElem? (i := 2) rfl
set_option maxRecDepth 100000 in
theorem hX6_load_X6 : ∀ w ∈ u_ws RX6 TX6 19, w ∈ wsX6_load := mem_places [11, 12, 13, 14, 15, 16, 17, 18, 19, 20, 21, 22, 23, 24, 25, 26, 27, 28, 29] rfl
set_option maxRecDepth 100000 in
theorem kX6_load_50 : Cond.fieldLink RX6 50 (TX6 1).1 (TX6 1).2.1 (TX6 1).2.2.1 ∈ wsX6_load := List.mem_of_getElem? (i := 1) rfl
set_option maxRecDepth 100000 in
theorem kX6_load_65 : Cond.fieldLink RX6 65 (TX6 4).1 (TX6 4).2.1 (TX6 4).2.2.1 ∈ wsX6_load := List.mem_of_getElem? (i := 2) rfl
set_option maxRecDepth 100000 in
theorem hX6_trouble_X6 : ∀ w ∈ u_ws RX6 TX6 19, w ∈ wsX6_trouble := mem_places [6, 7, 8, 9, 10, 11, 12, 13, 14, 15, 16, 17, 18, 19, 20, 21, 22, 23, 24] rfl
set_option maxRecDepth 100000 in
theorem kX6_trouble_7 : Cond.fieldLink RX6 7 (TX6 2).1 (TX6 2).2.1 (TX6 2).2.2.1 ∈ wsX6_trouble := List.mem_of_getElem? (i := 1) rfl
set_option maxRecDepth 100000 in
theorem kX6_trouble_16 : Cond.fieldLink RX6 16 (TX6 5).1 (TX6 5).2.1 (TX6 5).2.2.1 ∈ wsX6_trouble := List.mem_of_getElem? (i := 2) rfl
set_option maxRecDepth 100000 in
theorem kX6_trouble_19 : Cond.fieldLink RX6 19 (TX6 6).1 (TX6 6).2.1 (TX6 6).2.2.1 ∈ wsX6_trouble := List.mem_of_getElem? (i := 3) rfl
set_option maxRecDepth 100000 in
theorem kX6_trouble_22 : Cond.fieldLink RX6 22 (TX6 7).1 (TX6 7).2.1 (TX6 7).2.2.1 ∈ wsX6_trouble := List.mem_of_getElem? (i := 4) rfl
set_option maxRecDepth 100000 in
theorem kX6_trouble_13 : Cond.fieldLink RX6 13 (TX6 3).1 (TX6 3).2.1 (TX6 3).2.2.1 ∈ wsX6_trouble := List.mem_of_getElem? (i := 5) rfl
set_option maxRecDepth 100000 in
theorem hX6_wrong_X6 : ∀ w ∈ u_ws RX6 TX6 19, w ∈ wsX6_wrong := mem_places [12, 13, 14, 15, 16, 17, 18, 19, 20, 21, 22, 23, 24, 25, 26, 27, 28, 29, 30] rfl
set_option maxRecDepth 100000 in
theorem kX6_wrong_65 : Cond.fieldLink RX6 65 (TX6 4).1 (TX6 4).2.1 (TX6 4).2.2.1 ∈ wsX6_wrong := List.mem_of_getElem? (i := 1) rfl
set_option maxRecDepth 100000 in
theorem kX6_wrong_19 : Cond.fieldLink RX6 19 (TX6 6).1 (TX6 6).2.1 (TX6 6).2.2.1 ∈ wsX6_wrong := List.mem_of_getElem? (i := 2) rfl
set_option maxRecDepth 100000 in
theorem kX6_wrong_16 : Cond.fieldLink RX6 16 (TX6 5).1 (TX6 5).2.1 (TX6 5).2.2.1 ∈ wsX6_wrong := List.mem_of_getElem? (i := 3) rfl
set_option maxRecDepth 100000 in
theorem kX6_wrong_7 : Cond.fieldLink RX6 7 (TX6 2).1 (TX6 2).2.1 (TX6 2).2.2.1 ∈ wsX6_wrong := List.mem_of_getElem? (i := 4) rfl
set_option maxRecDepth 100000 in
theorem hX6_take_X6 : ∀ w ∈ u_ws RX6 TX6 19, w ∈ wsX6_take := mem_places [3, 4, 5, 6, 7, 8, 9, 10, 11, 12, 13, 14, 15, 16, 17, 18, 19, 20, 21] rfl
set_option maxRecDepth 100000 in
theorem kX6_take_31 : Cond.fieldLink RX6 31 (TX6 14).1 (TX6 14).2.1 (TX6 14).2.2.1 ∈ wsX6_take := List.mem_of_getElem? (i := 1) rfl
set_option maxRecDepth 100000 in
theorem kX6_take_90 : Cond.fieldLink RX6 90 (TX6 13).1 (TX6 13).2.1 (TX6 13).2.2.1 ∈ wsX6_take := List.mem_of_getElem? (i := 2) rfl
set_option maxRecDepth 100000 in
theorem hX6_patch_X6 : ∀ w ∈ u_ws RX6 TX6 19, w ∈ wsX6_patch := mem_places [26, 27, 28, 29, 30, 31, 32, 33, 34, 35, 36, 37, 38, 39, 40, 41, 42, 43, 44] rfl
set_option maxRecDepth 100000 in
theorem kX6_patch_50 : Cond.fieldLink RX6 50 (TX6 1).1 (TX6 1).2.1 (TX6 1).2.2.1 ∈ wsX6_patch := List.mem_of_getElem? (i := 1) rfl
set_option maxRecDepth 100000 in
theorem kX6_patch_90 : Cond.fieldLink RX6 90 (TX6 13).1 (TX6 13).2.1 (TX6 13).2.2.1 ∈ wsX6_patch := List.mem_of_getElem? (i := 2) rfl
set_option maxRecDepth 100000 in
theorem kX6_patch_7 : Cond.fieldLink RX6 7 (TX6 2).1 (TX6 2).2.1 (TX6 2).2.2.1 ∈ wsX6_patch := List.mem_of_getElem? (i := 3) rfl
set_option maxRecDepth 100000 in
theorem kX6_patch_65 : Cond.fieldLink RX6 65 (TX6 4).1 (TX6 4).2.1 (TX6 4).2.2.1 ∈ wsX6_patch := List.mem_of_getElem? (i := 4) rfl
set_option maxRecDepth 100000 in
theorem kX6_patch_19 : Cond.fieldLink RX6 19 (TX6 6).1 (TX6 6).2.1 (TX6 6).2.2.1 ∈ wsX6_patch := List.mem_of_getElem? (i := 5) rfl
set_option maxRecDepth 100000 in
theorem kX6_patch_16 : Cond.fieldLink RX6 16 (TX6 5).1 (TX6 5).2.1 (TX6 5).2.2.1 ∈ wsX6_patch := List.mem_of_getElem? (i := 6) rfl
set_option maxRecDepth 100000 in
theorem kX6_patch_22 : Cond.fieldLink RX6 22 (TX6 7).1 (TX6 7).2.1 (TX6 7).2.2.1 ∈ wsX6_patch := List.mem_of_getElem? (i := 7) rfl
set_option maxRecDepth 100000 in
theorem kX6_patch_13 : Cond.fieldLink RX6 13 (TX6 3).1 (TX6 3).2.1 (TX6 3).2.2.1 ∈ wsX6_patch := List.mem_of_getElem? (i := 8) rfl
set_option maxRecDepth 100000 in
theorem hX6_keep_X6 : ∀ w ∈ u_ws RX6 TX6 19, w ∈ wsX6_keep := mem_places [17, 18, 19, 20, 21, 22, 23, 24, 25, 26, 27, 28, 29, 30, 31, 32, 33, 34, 35] rfl
set_option maxRecDepth 100000 in
theorem kX6_keep_7 : Cond.fieldLink RX6 7 (TX6 2).1 (TX6 2).2.1 (TX6 2).2.2.1 ∈ wsX6_keep := List.mem_of_getElem? (i := 1) rfl
set_option maxRecDepth 100000 in
theorem hX6_alikeParts_X6 : ∀ w ∈ u_ws RX6 TX6 19, w ∈ wsX6_alikeParts := mem_places [7, 8, 9, 10, 11, 12, 13, 14, 15, 16, 17, 18, 19, 20, 21, 22, 23, 24, 25] rfl
set_option maxRecDepth 100000 in
theorem hX6_copy_X6 : ∀ w ∈ u_ws RX6 TX6 19, w ∈ wsX6_copy := mem_places [9, 10, 11, 12, 13, 14, 15, 16, 17, 18, 19, 20, 21, 22, 23, 24, 25, 26, 27] rfl
set_option maxRecDepth 100000 in
theorem kX6_copy_13 : Cond.fieldLink RX6 13 (TX6 3).1 (TX6 3).2.1 (TX6 3).2.2.1 ∈ wsX6_copy := List.mem_of_getElem? (i := 1) rfl
set_option maxRecDepth 100000 in
theorem hX6_between_X6 : ∀ w ∈ u_ws RX6 TX6 19, w ∈ wsX6_between := mem_places [21, 22, 23, 24, 25, 26, 27, 28, 29, 30, 31, 32, 33, 34, 35, 36, 37, 38, 39] rfl
set_option maxRecDepth 100000 in
theorem hX6_merge_X6 : ∀ w ∈ u_ws RX6 TX6 19, w ∈ wsX6_merge := mem_places [42, 43, 44, 45, 46, 47, 48, 49, 50, 51, 52, 53, 54, 55, 56, 57, 58, 59, 60] rfl
set_option maxRecDepth 100000 in
theorem kX6_merge_50 : Cond.fieldLink RX6 50 (TX6 1).1 (TX6 1).2.1 (TX6 1).2.2.1 ∈ wsX6_merge := List.mem_of_getElem? (i := 1) rfl
set_option maxRecDepth 100000 in
theorem kX6_merge_37 : Cond.fieldLink RX6 37 (TX6 16).1 (TX6 16).2.1 (TX6 16).2.2.1 ∈ wsX6_merge := List.mem_of_getElem? (i := 2) rfl
set_option maxRecDepth 100000 in
theorem kX6_merge_40 : Cond.fieldLink RX6 40 (TX6 17).1 (TX6 17).2.1 (TX6 17).2.2.1 ∈ wsX6_merge := List.mem_of_getElem? (i := 3) rfl
set_option maxRecDepth 100000 in
theorem kX6_merge_90 : Cond.fieldLink RX6 90 (TX6 13).1 (TX6 13).2.1 (TX6 13).2.2.1 ∈ wsX6_merge := List.mem_of_getElem? (i := 4) rfl
set_option maxRecDepth 100000 in
theorem kX6_merge_7 : Cond.fieldLink RX6 7 (TX6 2).1 (TX6 2).2.1 (TX6 2).2.2.1 ∈ wsX6_merge := List.mem_of_getElem? (i := 5) rfl
set_option maxRecDepth 100000 in
theorem kX6_merge_13 : Cond.fieldLink RX6 13 (TX6 3).1 (TX6 3).2.1 (TX6 3).2.2.1 ∈ wsX6_merge := List.mem_of_getElem? (i := 6) rfl
set_option maxRecDepth 100000 in
theorem hX6_result_X6 : ∀ w ∈ u_ws RX6 TX6 19, w ∈ wsX6_result := mem_places [4, 5, 6, 7, 8, 9, 10, 11, 12, 13, 14, 15, 16, 17, 18, 19, 20, 21, 22] rfl
set_option maxRecDepth 100000 in
theorem kX6_result_50 : Cond.fieldLink RX6 50 (TX6 1).1 (TX6 1).2.1 (TX6 1).2.2.1 ∈ wsX6_result := List.mem_of_getElem? (i := 1) rfl
set_option maxRecDepth 100000 in
theorem kX6_result_90 : Cond.fieldLink RX6 90 (TX6 13).1 (TX6 13).2.1 (TX6 13).2.2.1 ∈ wsX6_result := List.mem_of_getElem? (i := 2) rfl
set_option maxRecDepth 100000 in
theorem kX6_result_31 : Cond.fieldLink RX6 31 (TX6 14).1 (TX6 14).2.1 (TX6 14).2.2.1 ∈ wsX6_result := List.mem_of_getElem? (i := 3) rfl
set_option maxRecDepth 100000 in
theorem hX6_results_X6 : ∀ w ∈ u_ws RX6 TX6 19, w ∈ wsX6_results := mem_places [3, 4, 5, 6, 7, 8, 9, 10, 11, 12, 13, 14, 15, 16, 17, 18, 19, 20, 21] rfl
set_option maxRecDepth 100000 in
theorem kX6_results_50 : Cond.fieldLink RX6 50 (TX6 1).1 (TX6 1).2.1 (TX6 1).2.2.1 ∈ wsX6_results := List.mem_of_getElem? (i := 1) rfl
set_option maxRecDepth 100000 in
theorem kX6_results_90 : Cond.fieldLink RX6 90 (TX6 13).1 (TX6 13).2.1 (TX6 13).2.2.1 ∈ wsX6_results := List.mem_of_getElem? (i := 2) rfl
set_option maxRecDepth 100000 in
theorem hX6_together_X6 : ∀ w ∈ u_ws RX6 TX6 19, w ∈ wsX6_together := mem_places [3, 4, 5, 6, 7, 8, 9, 10, 11, 12, 13, 14, 15, 16, 17, 18, 19, 20, 21] rfl
set_option maxRecDepth 100000 in
theorem kX6_together_28 : Cond.fieldLink RX6 28 (TX6 12).1 (TX6 12).2.1 (TX6 12).2.2.1 ∈ wsX6_together := List.mem_of_getElem? (i := 1) rfl
set_option maxRecDepth 100000 in
theorem kX6_together_25 : Cond.fieldLink RX6 25 (TX6 11).1 (TX6 11).2.1 (TX6 11).2.2.1 ∈ wsX6_together := List.mem_of_getElem? (i := 2) rfl
set_option maxRecDepth 100000 in
theorem hX6_countHunks_X6 : ∀ w ∈ u_ws RX6 TX6 19, w ∈ wsX6_countHunks := mem_places [9, 10, 11, 12, 13, 14, 15, 16, 17, 18, 19, 20, 21, 22, 23, 24, 25, 26, 27] rfl
set_option maxRecDepth 100000 in
theorem kX6_countHunks_80 : Cond.fieldLink RX6 80 (TX6 9).1 (TX6 9).2.1 (TX6 9).2.2.1 ∈ wsX6_countHunks := List.mem_of_getElem? (i := 1) rfl
set_option maxRecDepth 100000 in
theorem hX6_hunks_X6 : ∀ w ∈ u_ws RX6 TX6 19, w ∈ wsX6_hunks := mem_places [15, 16, 17, 18, 19, 20, 21, 22, 23, 24, 25, 26, 27, 28, 29, 30, 31, 32, 33] rfl
set_option maxRecDepth 100000 in
theorem kX6_hunks_50 : Cond.fieldLink RX6 50 (TX6 1).1 (TX6 1).2.1 (TX6 1).2.2.1 ∈ wsX6_hunks := List.mem_of_getElem? (i := 1) rfl
set_option maxRecDepth 100000 in
theorem kX6_hunks_76 : Cond.fieldLink RX6 76 (TX6 8).1 (TX6 8).2.1 (TX6 8).2.2.1 ∈ wsX6_hunks := List.mem_of_getElem? (i := 2) rfl
set_option maxRecDepth 100000 in
theorem hX6_hunk_X6 : ∀ w ∈ u_ws RX6 TX6 19, w ∈ wsX6_hunk := mem_places [17, 18, 19, 20, 21, 22, 23, 24, 25, 26, 27, 28, 29, 30, 31, 32, 33, 34, 35] rfl
set_option maxRecDepth 100000 in
theorem kX6_hunk_50 : Cond.fieldLink RX6 50 (TX6 1).1 (TX6 1).2.1 (TX6 1).2.2.1 ∈ wsX6_hunk := List.mem_of_getElem? (i := 1) rfl
set_option maxRecDepth 100000 in
theorem kX6_hunk_76 : Cond.fieldLink RX6 76 (TX6 8).1 (TX6 8).2.1 (TX6 8).2.2.1 ∈ wsX6_hunk := List.mem_of_getElem? (i := 2) rfl
set_option maxRecDepth 100000 in
theorem kX6_hunk_43 : Cond.fieldLink RX6 43 (TX6 18).1 (TX6 18).2.1 (TX6 18).2.2.1 ∈ wsX6_hunk := List.mem_of_getElem? (i := 3) rfl
set_option maxRecDepth 100000 in
theorem kX6_hunk_80 : Cond.fieldLink RX6 80 (TX6 9).1 (TX6 9).2.1 (TX6 9).2.2.1 ∈ wsX6_hunk := List.mem_of_getElem? (i := 4) rfl
set_option maxRecDepth 100000 in
theorem kX6_hunk_28 : Cond.fieldLink RX6 28 (TX6 12).1 (TX6 12).2.1 (TX6 12).2.2.1 ∈ wsX6_hunk := List.mem_of_getElem? (i := 5) rfl
set_option maxRecDepth 100000 in
theorem kX6_hunk_25 : Cond.fieldLink RX6 25 (TX6 11).1 (TX6 11).2.1 (TX6 11).2.2.1 ∈ wsX6_hunk := List.mem_of_getElem? (i := 6) rfl
set_option maxRecDepth 100000 in
theorem kX6_hunk_83 : Cond.fieldLink RX6 83 (TX6 10).1 (TX6 10).2.1 (TX6 10).2.2.1 ∈ wsX6_hunk := List.mem_of_getElem? (i := 7) rfl
set_option maxRecDepth 100000 in
theorem hX6_alike_X6 : ∀ w ∈ u_ws RX6 TX6 19, w ∈ wsX6_alike := mem_places [18, 19, 20, 21, 22, 23, 24, 25, 26, 27, 28, 29, 30, 31, 32, 33, 34, 35, 36] rfl
set_option maxRecDepth 100000 in
theorem kX6_alike_50 : Cond.fieldLink RX6 50 (TX6 1).1 (TX6 1).2.1 (TX6 1).2.2.1 ∈ wsX6_alike := List.mem_of_getElem? (i := 1) rfl
set_option maxRecDepth 100000 in
theorem kX6_alike_7 : Cond.fieldLink RX6 7 (TX6 2).1 (TX6 2).2.1 (TX6 2).2.2.1 ∈ wsX6_alike := List.mem_of_getElem? (i := 3) rfl
set_option maxRecDepth 100000 in
theorem kX6_alike_34 : Cond.fieldLink RX6 34 (TX6 15).1 (TX6 15).2.1 (TX6 15).2.2.1 ∈ wsX6_alike := List.mem_of_getElem? (i := 4) rfl
set_option maxRecDepth 100000 in
theorem hL_diff_X0 : ∀ w ∈ u_ws RX0 TX0 3, w ∈ wsL_diff := mem_places [88, 89, 90] rfl
set_option maxRecDepth 100000 in
theorem hL_diff_X2 : ∀ w ∈ u_ws RX2 TX2 2, w ∈ wsL_diff := mem_places [82, 83] rfl
set_option maxRecDepth 100000 in
theorem hL_diff_X3 : ∀ w ∈ u_ws RX3 TX3 4, w ∈ wsL_diff := mem_places [84, 85, 86, 87] rfl
set_option maxRecDepth 100000 in
theorem hL_diff_X5 : ∀ w ∈ u_ws RX5 TX5 9, w ∈ wsL_diff := mem_places [73, 74, 75, 76, 77, 78, 79, 80, 81] rfl
set_option maxRecDepth 100000 in
theorem hL_patch_X2 : ∀ w ∈ u_ws RX2 TX2 2, w ∈ wsL_patch := mem_places [86, 87] rfl
set_option maxRecDepth 100000 in
theorem hL_patch_X3 : ∀ w ∈ u_ws RX3 TX3 4, w ∈ wsL_patch := mem_places [82, 83, 84, 85] rfl
set_option maxRecDepth 100000 in
theorem hL_patch_X5 : ∀ w ∈ u_ws RX5 TX5 9, w ∈ wsL_patch := mem_places [73, 74, 75, 76, 77, 78, 79, 80, 81] rfl
theorem kn_X0_64 : Cond.fieldLinkNest RX0 64 (TX2 0).1 (TX2 0).2.1 (TX2 0).2.2.1 "DiffDesk" ∈ nW := List.mem_of_getElem? (i := 0) rfl
theorem kn_X0_28 : Cond.fieldLinkNest RX0 28 (TX2 1).1 (TX2 1).2.1 (TX2 1).2.2.1 "DiffDesk" ∈ nW := List.mem_of_getElem? (i := 1) rfl
theorem kn_X5_78 : Cond.fieldLinkNest RX5 78 (TX2 1).1 (TX2 1).2.1 (TX2 1).2.2.1 "DiffDesk" ∈ nW := List.mem_of_getElem? (i := 2) rfl
theorem kn_X4_27 : Cond.fieldLinkNest RX4 27 (TX2 1).1 (TX2 1).2.1 (TX2 1).2.2.1 "DiffDesk" ∈ nW := List.mem_of_getElem? (i := 3) rfl
theorem kn_X5_112 : Cond.fieldLinkNest RX5 112 (TX3 0).1 (TX3 0).2.1 (TX3 0).2.2.1 "DiffDesk" ∈ nW := List.mem_of_getElem? (i := 4) rfl
theorem kn_X5_116 : Cond.fieldLinkNest RX5 116 (TX3 1).1 (TX3 1).2.1 (TX3 1).2.2.1 "DiffDesk" ∈ nW := List.mem_of_getElem? (i := 5) rfl
theorem kn_X5_119 : Cond.fieldLinkNest RX5 119 (TX3 2).1 (TX3 2).2.1 (TX3 2).2.2.1 "DiffDesk" ∈ nW := List.mem_of_getElem? (i := 6) rfl
theorem kn_X5_108 : Cond.fieldLinkNest RX5 108 (TX3 3).1 (TX3 3).2.1 (TX3 3).2.2.1 "DiffDesk" ∈ nW := List.mem_of_getElem? (i := 7) rfl
theorem cdX0_init : yX0_init.cls = RX0 ∧ yX0_init.cls ≠ "java/lang/invoke/MethodHandle" ∧ yX0_init.cls ≠ "java/lang/invoke/VarHandle" ∧ (parseMethodDescriptor yX0_init.desc).map (fun d => d.parameters.length) = some 0 := by decide +kernel
theorem cdX0_compare : yX0_compare.cls = RX0 ∧ yX0_compare.cls ≠ "java/lang/invoke/MethodHandle" ∧ yX0_compare.cls ≠ "java/lang/invoke/VarHandle" ∧ (parseMethodDescriptor yX0_compare.desc).map (fun d => d.parameters.length) = some 2 := by decide +kernel
theorem cdX0_operations : yX0_operations.cls = RX0 ∧ yX0_operations.cls ≠ "java/lang/invoke/MethodHandle" ∧ yX0_operations.cls ≠ "java/lang/invoke/VarHandle" ∧ (parseMethodDescriptor yX0_operations.desc).map (fun d => d.parameters.length) = some 0 := by decide +kernel
theorem cdX0_writeTo : yX0_writeTo.cls = RX0 ∧ yX0_writeTo.cls ≠ "java/lang/invoke/MethodHandle" ∧ yX0_writeTo.cls ≠ "java/lang/invoke/VarHandle" ∧ (parseMethodDescriptor yX0_writeTo.desc).map (fun d => d.parameters.length) = some 1 := by decide +kernel
theorem cdX0_pairTo : yX0_pairTo.cls = RX0 ∧ yX0_pairTo.cls ≠ "java/lang/invoke/MethodHandle" ∧ yX0_pairTo.cls ≠ "java/lang/invoke/VarHandle" ∧ (parseMethodDescriptor yX0_pairTo.desc).map (fun d => d.parameters.length) = some 1 := by decide +kernel
theorem cdX0_restAt : yX0_restAt.cls = RX0 ∧ yX0_restAt.cls ≠ "java/lang/invoke/MethodHandle" ∧ yX0_restAt.cls ≠ "java/lang/invoke/VarHandle" ∧ (parseMethodDescriptor yX0_restAt.desc).map (fun d => d.parameters.length) = some 2 := by decide +kernel
theorem cdX0_stepAt : yX0_stepAt.cls = RX0 ∧ yX0_stepAt.cls ≠ "java/lang/invoke/MethodHandle" ∧ yX0_stepAt.cls ≠ "java/lang/invoke/VarHandle" ∧ (parseMethodDescriptor yX0_stepAt.desc).map (fun d => d.parameters.length) = some 2 := by decide +kernel
theorem cdX0_isSame : yX0_isSame.cls = RX0 ∧ yX0_isSame.cls ≠ "java/lang/invoke/MethodHandle" ∧ yX0_isSame.cls ≠ "java/lang/invoke/VarHandle" ∧ (parseMethodDescriptor yX0_isSame.desc).map (fun d => d.parameters.length) = some 2 := by decide +kernel
theorem cdX1_init : yX1_init.cls = RX1 ∧ yX1_init.cls ≠ "java/lang/invoke/MethodHandle" ∧ yX1_init.cls ≠ "java/lang/invoke/VarHandle" ∧ (parseMethodDescriptor yX1_init.desc).map (fun d => d.parameters.length) = some 0 := by decide +kernel
theorem cdX1_begin : yX1_begin.cls = RX1 ∧ yX1_begin.cls ≠ "java/lang/invoke/MethodHandle" ∧ yX1_begin.cls ≠ "java/lang/invoke/VarHandle" ∧ (parseMethodDescriptor yX1_begin.desc).map (fun d => d.parameters.length) = some 4 := by decide +kernel
theorem cdX1_mergeTo : yX1_mergeTo.cls = RX1 ∧ yX1_mergeTo.cls ≠ "java/lang/invoke/MethodHandle" ∧ yX1_mergeTo.cls ≠ "java/lang/invoke/VarHandle" ∧ (parseMethodDescriptor yX1_mergeTo.desc).map (fun d => d.parameters.length) = some 1 := by decide +kernel
theorem cdX1_isStable : yX1_isStable.cls = RX1 ∧ yX1_isStable.cls ≠ "java/lang/invoke/MethodHandle" ∧ yX1_isStable.cls ≠ "java/lang/invoke/VarHandle" ∧ (parseMethodDescriptor yX1_isStable.desc).map (fun d => d.parameters.length) = some 1 := by decide +kernel
theorem cdX1_endStretches : yX1_endStretches.cls = RX1 ∧ yX1_endStretches.cls ≠ "java/lang/invoke/MethodHandle" ∧ yX1_endStretches.cls ≠ "java/lang/invoke/VarHandle" ∧ (parseMethodDescriptor yX1_endStretches.desc).map (fun d => d.parameters.length) = some 3 := by decide +kernel
theorem cdX1_goOnBehindStable : yX1_goOnBehindStable.cls = RX1 ∧ yX1_goOnBehindStable.cls ≠ "java/lang/invoke/MethodHandle" ∧ yX1_goOnBehindStable.cls ≠ "java/lang/invoke/VarHandle" ∧ (parseMethodDescriptor yX1_goOnBehindStable.desc).map (fun d => d.parameters.length) = some 0 := by decide +kernel
theorem cdX1_mergeStretch : yX1_mergeStretch.cls = RX1 ∧ yX1_mergeStretch.cls ≠ "java/lang/invoke/MethodHandle" ∧ yX1_mergeStretch.cls ≠ "java/lang/invoke/VarHandle" ∧ (parseMethodDescriptor yX1_mergeStretch.desc).map (fun d => d.parameters.length) = some 1 := by decide +kernel
theorem cdX2_init : yX2_init.cls = RX2 ∧ yX2_init.cls ≠ "java/lang/invoke/MethodHandle" ∧ yX2_init.cls ≠ "java/lang/invoke/VarHandle" ∧ (parseMethodDescriptor yX2_init.desc).map (fun d => d.parameters.length) = some 1 := by decide +kernel
theorem cdX2_empty : yX2_empty.cls = RX2 ∧ yX2_empty.cls ≠ "java/lang/invoke/MethodHandle" ∧ yX2_empty.cls ≠ "java/lang/invoke/VarHandle" ∧ (parseMethodDescriptor yX2_empty.desc).map (fun d => d.parameters.length) = some 0 := by decide +kernel
theorem cdX2_add : yX2_add.cls = RX2 ∧ yX2_add.cls ≠ "java/lang/invoke/MethodHandle" ∧ yX2_add.cls ≠ "java/lang/invoke/VarHandle" ∧ (parseMethodDescriptor yX2_add.desc).map (fun d => d.parameters.length) = some 1 := by decide +kernel
theorem cdX2_addAll : yX2_addAll.cls = RX2 ∧ yX2_addAll.cls ≠ "java/lang/invoke/MethodHandle" ∧ yX2_addAll.cls ≠ "java/lang/invoke/VarHandle" ∧ (parseMethodDescriptor yX2_addAll.desc).map (fun d => d.parameters.length) = some 3 := by decide +kernel
theorem cdX2_at : yX2_at.cls = RX2 ∧ yX2_at.cls ≠ "java/lang/invoke/MethodHandle" ∧ yX2_at.cls ≠ "java/lang/invoke/VarHandle" ∧ (parseMethodDescriptor yX2_at.desc).map (fun d => d.parameters.length) = some 2 := by decide +kernel
theorem cdX3_init : yX3_init.cls = RX3 ∧ yX3_init.cls ≠ "java/lang/invoke/MethodHandle" ∧ yX3_init.cls ≠ "java/lang/invoke/VarHandle" ∧ (parseMethodDescriptor yX3_init.desc).map (fun d => d.parameters.length) = some 0 := by decide +kernel
theorem cdX3_empty : yX3_empty.cls = RX3 ∧ yX3_empty.cls ≠ "java/lang/invoke/MethodHandle" ∧ yX3_empty.cls ≠ "java/lang/invoke/VarHandle" ∧ (parseMethodDescriptor yX3_empty.desc).map (fun d => d.parameters.length) = some 0 := by decide +kernel
theorem cdX3_add : yX3_add.cls = RX3 ∧ yX3_add.cls ≠ "java/lang/invoke/MethodHandle" ∧ yX3_add.cls ≠ "java/lang/invoke/VarHandle" ∧ (parseMethodDescriptor yX3_add.desc).map (fun d => d.parameters.length) = some 3 := by decide +kernel
theorem cdX3_has : yX3_has.cls = RX3 ∧ yX3_has.cls ≠ "java/lang/invoke/MethodHandle" ∧ yX3_has.cls ≠ "java/lang/invoke/VarHandle" ∧ (parseMethodDescriptor yX3_has.desc).map (fun d => d.parameters.length) = some 1 := by decide +kernel
theorem cdX3_placeOf : yX3_placeOf.cls = RX3 ∧ yX3_placeOf.cls ≠ "java/lang/invoke/MethodHandle" ∧ yX3_placeOf.cls ≠ "java/lang/invoke/VarHandle" ∧ (parseMethodDescriptor yX3_placeOf.desc).map (fun d => d.parameters.length) = some 1 := by decide +kernel
theorem cdX3_behind : yX3_behind.cls = RX3 ∧ yX3_behind.cls ≠ "java/lang/invoke/MethodHandle" ∧ yX3_behind.cls ≠ "java/lang/invoke/VarHandle" ∧ (parseMethodDescriptor yX3_behind.desc).map (fun d => d.parameters.length) = some 1 := by decide +kernel
theorem cdX3_beginsHunk : yX3_beginsHunk.cls = RX3 ∧ yX3_beginsHunk.cls ≠ "java/lang/invoke/MethodHandle" ∧ yX3_beginsHunk.cls ≠ "java/lang/invoke/VarHandle" ∧ (parseMethodDescriptor yX3_beginsHunk.desc).map (fun d => d.parameters.length) = some 2 := by decide +kernel
theorem cdX3_firstOfHunk : yX3_firstOfHunk.cls = RX3 ∧ yX3_firstOfHunk.cls ≠ "java/lang/invoke/MethodHandle" ∧ yX3_firstOfHunk.cls ≠ "java/lang/invoke/VarHandle" ∧ (parseMethodDescriptor yX3_firstOfHunk.desc).map (fun d => d.parameters.length) = some 2 := by decide +kernel
theorem cdX3_lastOfHunk : yX3_lastOfHunk.cls = RX3 ∧ yX3_lastOfHunk.cls ≠ "java/lang/invoke/MethodHandle" ∧ yX3_lastOfHunk.cls ≠ "java/lang/invoke/VarHandle" ∧ (parseMethodDescriptor yX3_lastOfHunk.desc).map (fun d => d.parameters.length) = some 2 := by decide +kernel
theorem cdX3_countKind : yX3_countKind.cls = RX3 ∧ yX3_countKind.cls ≠ "java/lang/invoke/MethodHandle" ∧ yX3_countKind.cls ≠ "java/lang/invoke/VarHandle" ∧ (parseMethodDescriptor yX3_countKind.desc).map (fun d => d.parameters.length) = some 3 := by decide +kernel
theorem cdX4_init : yX4_init.cls = RX4 ∧ yX4_init.cls ≠ "java/lang/invoke/MethodHandle" ∧ yX4_init.cls ≠ "java/lang/invoke/VarHandle" ∧ (parseMethodDescriptor yX4_init.desc).map (fun d => d.parameters.length) = some 0 := by decide +kernel
theorem cdX4_begin : yX4_begin.cls = RX4 ∧ yX4_begin.cls ≠ "java/lang/invoke/MethodHandle" ∧ yX4_begin.cls ≠ "java/lang/invoke/VarHandle" ∧ (parseMethodDescriptor yX4_begin.desc).map (fun d => d.parameters.length) = some 1 := by decide +kernel
theorem cdX4_endBefore : yX4_endBefore.cls = RX4 ∧ yX4_endBefore.cls ≠ "java/lang/invoke/MethodHandle" ∧ yX4_endBefore.cls ≠ "java/lang/invoke/VarHandle" ∧ (parseMethodDescriptor yX4_endBefore.desc).map (fun d => d.parameters.length) = some 1 := by decide +kernel
theorem cdX4_goOnBehindStable : yX4_goOnBehindStable.cls = RX4 ∧ yX4_goOnBehindStable.cls ≠ "java/lang/invoke/MethodHandle" ∧ yX4_goOnBehindStable.cls ≠ "java/lang/invoke/VarHandle" ∧ (parseMethodDescriptor yX4_goOnBehindStable.desc).map (fun d => d.parameters.length) = some 0 := by decide +kernel
theorem cdX4_endOfRow : yX4_endOfRow.cls = RX4 ∧ yX4_endOfRow.cls ≠ "java/lang/invoke/MethodHandle" ∧ yX4_endOfRow.cls ≠ "java/lang/invoke/VarHandle" ∧ (parseMethodDescriptor yX4_endOfRow.desc).map (fun d => d.parameters.length) = some 0 := by decide +kernel
theorem cdX4_symbolAt : yX4_symbolAt.cls = RX4 ∧ yX4_symbolAt.cls ≠ "java/lang/invoke/MethodHandle" ∧ yX4_symbolAt.cls ≠ "java/lang/invoke/VarHandle" ∧ (parseMethodDescriptor yX4_symbolAt.desc).map (fun d => d.parameters.length) = some 1 := by decide +kernel
theorem cdX4_isSameAs : yX4_isSameAs.cls = RX4 ∧ yX4_isSameAs.cls ≠ "java/lang/invoke/MethodHandle" ∧ yX4_isSameAs.cls ≠ "java/lang/invoke/VarHandle" ∧ (parseMethodDescriptor yX4_isSameAs.desc).map (fun d => d.parameters.length) = some 1 := by decide +kernel
theorem cdX4_addTo : yX4_addTo.cls = RX4 ∧ yX4_addTo.cls ≠ "java/lang/invoke/MethodHandle" ∧ yX4_addTo.cls ≠ "java/lang/invoke/VarHandle" ∧ (parseMethodDescriptor yX4_addTo.desc).map (fun d => d.parameters.length) = some 1 := by decide +kernel
theorem cdX5_init : yX5_init.cls = RX5 ∧ yX5_init.cls ≠ "java/lang/invoke/MethodHandle" ∧ yX5_init.cls ≠ "java/lang/invoke/VarHandle" ∧ (parseMethodDescriptor yX5_init.desc).map (fun d => d.parameters.length) = some 1 := by decide +kernel
theorem cdX5_feed : yX5_feed.cls = RX5 ∧ yX5_feed.cls ≠ "java/lang/invoke/MethodHandle" ∧ yX5_feed.cls ≠ "java/lang/invoke/VarHandle" ∧ (parseMethodDescriptor yX5_feed.desc).map (fun d => d.parameters.length) = some 2 := by decide +kernel
theorem cdX5_clear : yX5_clear.cls = RX5 ∧ yX5_clear.cls ≠ "java/lang/invoke/MethodHandle" ∧ yX5_clear.cls ≠ "java/lang/invoke/VarHandle" ∧ (parseMethodDescriptor yX5_clear.desc).map (fun d => d.parameters.length) = some 1 := by decide +kernel
theorem cdX5_size : yX5_size.cls = RX5 ∧ yX5_size.cls ≠ "java/lang/invoke/MethodHandle" ∧ yX5_size.cls ≠ "java/lang/invoke/VarHandle" ∧ (parseMethodDescriptor yX5_size.desc).map (fun d => d.parameters.length) = some 1 := by decide +kernel
theorem cdX5_symbol : yX5_symbol.cls = RX5 ∧ yX5_symbol.cls ≠ "java/lang/invoke/MethodHandle" ∧ yX5_symbol.cls ≠ "java/lang/invoke/VarHandle" ∧ (parseMethodDescriptor yX5_symbol.desc).map (fun d => d.parameters.length) = some 2 := by decide +kernel
theorem cdX5_diff : yX5_diff.cls = RX5 ∧ yX5_diff.cls ≠ "java/lang/invoke/MethodHandle" ∧ yX5_diff.cls ≠ "java/lang/invoke/VarHandle" ∧ (parseMethodDescriptor yX5_diff.desc).map (fun d => d.parameters.length) = some 2 := by decide +kernel
theorem cdX5_operation : yX5_operation.cls = RX5 ∧ yX5_operation.cls ≠ "java/lang/invoke/MethodHandle" ∧ yX5_operation.cls ≠ "java/lang/invoke/VarHandle" ∧ (parseMethodDescriptor yX5_operation.desc).map (fun d => d.parameters.length) = some 2 := by decide +kernel
theorem cdX5_forget : yX5_forget.cls = RX5 ∧ yX5_forget.cls ≠ "java/lang/invoke/MethodHandle" ∧ yX5_forget.cls ≠ "java/lang/invoke/VarHandle" ∧ (parseMethodDescriptor yX5_forget.desc).map (fun d => d.parameters.length) = some 0 := by decide +kernel
theorem cdX5_load : yX5_load.cls = RX5 ∧ yX5_load.cls ≠ "java/lang/invoke/MethodHandle" ∧ yX5_load.cls ≠ "java/lang/invoke/VarHandle" ∧ (parseMethodDescriptor yX5_load.desc).map (fun d => d.parameters.length) = some 3 := by decide +kernel
theorem cdX5_patch : yX5_patch.cls = RX5 ∧ yX5_patch.cls ≠ "java/lang/invoke/MethodHandle" ∧ yX5_patch.cls ≠ "java/lang/invoke/VarHandle" ∧ (parseMethodDescriptor yX5_patch.desc).map (fun d => d.parameters.length) = some 1 := by decide +kernel
theorem cdX5_merge : yX5_merge.cls = RX5 ∧ yX5_merge.cls ≠ "java/lang/invoke/MethodHandle" ∧ yX5_merge.cls ≠ "java/lang/invoke/VarHandle" ∧ (parseMethodDescriptor yX5_merge.desc).map (fun d => d.parameters.length) = some 0 := by decide +kernel
theorem cdX5_result : yX5_result.cls = RX5 ∧ yX5_result.cls ≠ "java/lang/invoke/MethodHandle" ∧ yX5_result.cls ≠ "java/lang/invoke/VarHandle" ∧ (parseMethodDescriptor yX5_result.desc).map (fun d => d.parameters.length) = some 1 := by decide +kernel
theorem cdX5_results : yX5_results.cls = RX5 ∧ yX5_results.cls ≠ "java/lang/invoke/MethodHandle" ∧ yX5_results.cls ≠ "java/lang/invoke/VarHandle" ∧ (parseMethodDescriptor yX5_results.desc).map (fun d => d.parameters.length) = some 0 := by decide +kernel
theorem cdX5_hunks : yX5_hunks.cls = RX5 ∧ yX5_hunks.cls ≠ "java/lang/invoke/MethodHandle" ∧ yX5_hunks.cls ≠ "java/lang/invoke/VarHandle" ∧ (parseMethodDescriptor yX5_hunks.desc).map (fun d => d.parameters.length) = some 1 := by decide +kernel
theorem cdX5_hunk : yX5_hunk.cls = RX5 ∧ yX5_hunk.cls ≠ "java/lang/invoke/MethodHandle" ∧ yX5_hunk.cls ≠ "java/lang/invoke/VarHandle" ∧ (parseMethodDescriptor yX5_hunk.desc).map (fun d => d.parameters.length) = some 3 := by decide +kernel
theorem cdX5_alike : yX5_alike.cls = RX5 ∧ yX5_alike.cls ≠ "java/lang/invoke/MethodHandle" ∧ yX5_alike.cls ≠ "java/lang/invoke/VarHandle" ∧ (parseMethodDescriptor yX5_alike.desc).map (fun d => d.parameters.length) = some 2 := by decide +kernel
theorem cdX5_isRow : yX5_isRow.cls = RX5 ∧ yX5_isRow.cls ≠ "java/lang/invoke/MethodHandle" ∧ yX5_isRow.cls ≠ "java/lang/invoke/VarHandle" ∧ (parseMethodDescriptor yX5_isRow.desc).map (fun d => d.parameters.length) = some 1 := by decide +kernel
theorem cdX5_isSymbol : yX5_isSymbol.cls = RX5 ∧ yX5_isSymbol.cls ≠ "java/lang/invoke/MethodHandle" ∧ yX5_isSymbol.cls ≠ "java/lang/invoke/VarHandle" ∧ (parseMethodDescriptor yX5_isSymbol.desc).map (fun d => d.parameters.length) = some 1 := by decide +kernel
theorem cdX5_isAround : yX5_isAround.cls = RX5 ∧ yX5_isAround.cls ≠ "java/lang/invoke/MethodHandle" ∧ yX5_isAround.cls ≠ "java/lang/invoke/VarHandle" ∧ (parseMethodDescriptor yX5_isAround.desc).map (fun d => d.parameters.length) = some 1 := by decide +kernel
theorem cdX5_checkOperation : yX5_checkOperation.cls = RX5 ∧ yX5_checkOperation.cls ≠ "java/lang/invoke/MethodHandle" ∧ yX5_checkOperation.cls ≠ "java/lang/invoke/VarHandle" ∧ (parseMethodDescriptor yX5_checkOperation.desc).map (fun d => d.parameters.length) = some 2 := by decide +kernel
theorem cdX5_checkRoom : yX5_checkRoom.cls = RX5 ∧ yX5_checkRoom.cls ≠ "java/lang/invoke/MethodHandle" ∧ yX5_checkRoom.cls ≠ "java/lang/invoke/VarHandle" ∧ (parseMethodDescriptor yX5_checkRoom.desc).map (fun d => d.parameters.length) = some 1 := by decide +kernel
theorem cdX5_swapResultAndDraft : yX5_swapResultAndDraft.cls = RX5 ∧ yX5_swapResultAndDraft.cls ≠ "java/lang/invoke/MethodHandle" ∧ yX5_swapResultAndDraft.cls ≠ "java/lang/invoke/VarHandle" ∧ (parseMethodDescriptor yX5_swapResultAndDraft.desc).map (fun d => d.parameters.length) = some 0 := by decide +kernel
theorem cdX6_init : yX6_init.cls = RX6 ∧ yX6_init.cls ≠ "java/lang/invoke/MethodHandle" ∧ yX6_init.cls ≠ "java/lang/invoke/VarHandle" ∧ (parseMethodDescriptor yX6_init.desc).map (fun d => d.parameters.length) = some 1 := by decide +kernel
theorem cdX6_thrown : yX6_thrown.cls = RX6 ∧ yX6_thrown.cls ≠ "java/lang/invoke/MethodHandle" ∧ yX6_thrown.cls ≠ "java/lang/invoke/VarHandle" ∧ (parseMethodDescriptor yX6_thrown.desc).map (fun d => d.parameters.length) = some 0 := by decide +kernel
theorem cdX6_isRow : yX6_isRow.cls = RX6 ∧ yX6_isRow.cls ≠ "java/lang/invoke/MethodHandle" ∧ yX6_isRow.cls ≠ "java/lang/invoke/VarHandle" ∧ (parseMethodDescriptor yX6_isRow.desc).map (fun d => d.parameters.length) = some 1 := by decide +kernel
theorem cdX6_feed : yX6_feed.cls = RX6 ∧ yX6_feed.cls ≠ "java/lang/invoke/MethodHandle" ∧ yX6_feed.cls ≠ "java/lang/invoke/VarHandle" ∧ (parseMethodDescriptor yX6_feed.desc).map (fun d => d.parameters.length) = some 2 := by decide +kernel
theorem cdX6_clear : yX6_clear.cls = RX6 ∧ yX6_clear.cls ≠ "java/lang/invoke/MethodHandle" ∧ yX6_clear.cls ≠ "java/lang/invoke/VarHandle" ∧ (parseMethodDescriptor yX6_clear.desc).map (fun d => d.parameters.length) = some 1 := by decide +kernel
theorem cdX6_size : yX6_size.cls = RX6 ∧ yX6_size.cls ≠ "java/lang/invoke/MethodHandle" ∧ yX6_size.cls ≠ "java/lang/invoke/VarHandle" ∧ (parseMethodDescriptor yX6_size.desc).map (fun d => d.parameters.length) = some 1 := by decide +kernel
theorem cdX6_symbol : yX6_symbol.cls = RX6 ∧ yX6_symbol.cls ≠ "java/lang/invoke/MethodHandle" ∧ yX6_symbol.cls ≠ "java/lang/invoke/VarHandle" ∧ (parseMethodDescriptor yX6_symbol.desc).map (fun d => d.parameters.length) = some 2 := by decide +kernel
theorem cdX6_same : yX6_same.cls = RX6 ∧ yX6_same.cls ≠ "java/lang/invoke/MethodHandle" ∧ yX6_same.cls ≠ "java/lang/invoke/VarHandle" ∧ (parseMethodDescriptor yX6_same.desc).map (fun d => d.parameters.length) = some 4 := by decide +kernel
theorem cdX6_fill : yX6_fill.cls = RX6 ∧ yX6_fill.cls ≠ "java/lang/invoke/MethodHandle" ∧ yX6_fill.cls ≠ "java/lang/invoke/VarHandle" ∧ (parseMethodDescriptor yX6_fill.desc).map (fun d => d.parameters.length) = some 2 := by decide +kernel
theorem cdX6_deletes : yX6_deletes.cls = RX6 ∧ yX6_deletes.cls ≠ "java/lang/invoke/MethodHandle" ∧ yX6_deletes.cls ≠ "java/lang/invoke/VarHandle" ∧ (parseMethodDescriptor yX6_deletes.desc).map (fun d => d.parameters.length) = some 3 := by decide +kernel
theorem cdX6_diff : yX6_diff.cls = RX6 ∧ yX6_diff.cls ≠ "java/lang/invoke/MethodHandle" ∧ yX6_diff.cls ≠ "java/lang/invoke/VarHandle" ∧ (parseMethodDescriptor yX6_diff.desc).map (fun d => d.parameters.length) = some 2 := by decide +kernel
theorem cdX6_put : yX6_put.cls = RX6 ∧ yX6_put.cls ≠ "java/lang/invoke/MethodHandle" ∧ yX6_put.cls ≠ "java/lang/invoke/VarHandle" ∧ (parseMethodDescriptor yX6_put.desc).map (fun d => d.parameters.length) = some 3 := by decide +kernel
theorem cdX6_operation : yX6_operation.cls = RX6 ∧ yX6_operation.cls ≠ "java/lang/invoke/MethodHandle" ∧ yX6_operation.cls ≠ "java/lang/invoke/VarHandle" ∧ (parseMethodDescriptor yX6_operation.desc).map (fun d => d.parameters.length) = some 2 := by decide +kernel
theorem cdX6_forget : yX6_forget.cls = RX6 ∧ yX6_forget.cls ≠ "java/lang/invoke/MethodHandle" ∧ yX6_forget.cls ≠ "java/lang/invoke/VarHandle" ∧ (parseMethodDescriptor yX6_forget.desc).map (fun d => d.parameters.length) = some 0 := by decide +kernel
theorem cdX6_load : yX6_load.cls = RX6 ∧ yX6_load.cls ≠ "java/lang/invoke/MethodHandle" ∧ yX6_load.cls ≠ "java/lang/invoke/VarHandle" ∧ (parseMethodDescriptor yX6_load.desc).map (fun d => d.parameters.length) = some 3 := by decide +kernel
theorem cdX6_trouble : yX6_trouble.cls = RX6 ∧ yX6_trouble.cls ≠ "java/lang/invoke/MethodHandle" ∧ yX6_trouble.cls ≠ "java/lang/invoke/VarHandle" ∧ (parseMethodDescriptor yX6_trouble.desc).map (fun d => d.parameters.length) = some 4 := by decide +kernel
theorem cdX6_wrong : yX6_wrong.cls = RX6 ∧ yX6_wrong.cls ≠ "java/lang/invoke/MethodHandle" ∧ yX6_wrong.cls ≠ "java/lang/invoke/VarHandle" ∧ (parseMethodDescriptor yX6_wrong.desc).map (fun d => d.parameters.length) = some 1 := by decide +kernel
theorem cdX6_take : yX6_take.cls = RX6 ∧ yX6_take.cls ≠ "java/lang/invoke/MethodHandle" ∧ yX6_take.cls ≠ "java/lang/invoke/VarHandle" ∧ (parseMethodDescriptor yX6_take.desc).map (fun d => d.parameters.length) = some 1 := by decide +kernel
theorem cdX6_patch : yX6_patch.cls = RX6 ∧ yX6_patch.cls ≠ "java/lang/invoke/MethodHandle" ∧ yX6_patch.cls ≠ "java/lang/invoke/VarHandle" ∧ (parseMethodDescriptor yX6_patch.desc).map (fun d => d.parameters.length) = some 1 := by decide +kernel
theorem cdX6_keep : yX6_keep.cls = RX6 ∧ yX6_keep.cls ≠ "java/lang/invoke/MethodHandle" ∧ yX6_keep.cls ≠ "java/lang/invoke/VarHandle" ∧ (parseMethodDescriptor yX6_keep.desc).map (fun d => d.parameters.length) = some 2 := by decide +kernel
theorem cdX6_alikeParts : yX6_alikeParts.cls = RX6 ∧ yX6_alikeParts.cls ≠ "java/lang/invoke/MethodHandle" ∧ yX6_alikeParts.cls ≠ "java/lang/invoke/VarHandle" ∧ (parseMethodDescriptor yX6_alikeParts.desc).map (fun d => d.parameters.length) = some 6 := by decide +kernel
theorem cdX6_copy : yX6_copy.cls = RX6 ∧ yX6_copy.cls ≠ "java/lang/invoke/MethodHandle" ∧ yX6_copy.cls ≠ "java/lang/invoke/VarHandle" ∧ (parseMethodDescriptor yX6_copy.desc).map (fun d => d.parameters.length) = some 3 := by decide +kernel
theorem cdX6_between : yX6_between.cls = RX6 ∧ yX6_between.cls ≠ "java/lang/invoke/MethodHandle" ∧ yX6_between.cls ≠ "java/lang/invoke/VarHandle" ∧ (parseMethodDescriptor yX6_between.desc).map (fun d => d.parameters.length) = some 6 := by decide +kernel
theorem cdX6_merge : yX6_merge.cls = RX6 ∧ yX6_merge.cls ≠ "java/lang/invoke/MethodHandle" ∧ yX6_merge.cls ≠ "java/lang/invoke/VarHandle" ∧ (parseMethodDescriptor yX6_merge.desc).map (fun d => d.parameters.length) = some 0 := by decide +kernel
theorem cdX6_result : yX6_result.cls = RX6 ∧ yX6_result.cls ≠ "java/lang/invoke/MethodHandle" ∧ yX6_result.cls ≠ "java/lang/invoke/VarHandle" ∧ (parseMethodDescriptor yX6_result.desc).map (fun d => d.parameters.length) = some 1 := by decide +kernel
theorem cdX6_results : yX6_results.cls = RX6 ∧ yX6_results.cls ≠ "java/lang/invoke/MethodHandle" ∧ yX6_results.cls ≠ "java/lang/invoke/VarHandle" ∧ (parseMethodDescriptor yX6_results.desc).map (fun d => d.parameters.length) = some 0 := by decide +kernel
theorem cdX6_together : yX6_together.cls = RX6 ∧ yX6_together.cls ≠ "java/lang/invoke/MethodHandle" ∧ yX6_together.cls ≠ "java/lang/invoke/VarHandle" ∧ (parseMethodDescriptor yX6_together.desc).map (fun d => d.parameters.length) = some 2 := by decide +kernel
theorem cdX6_countHunks : yX6_countHunks.cls = RX6 ∧ yX6_countHunks.cls ≠ "java/lang/invoke/MethodHandle" ∧ yX6_countHunks.cls ≠ "java/lang/invoke/VarHandle" ∧ (parseMethodDescriptor yX6_countHunks.desc).map (fun d => d.parameters.length) = some 1 := by decide +kernel
theorem cdX6_hunks : yX6_hunks.cls = RX6 ∧ yX6_hunks.cls ≠ "java/lang/invoke/MethodHandle" ∧ yX6_hunks.cls ≠ "java/lang/invoke/VarHandle" ∧ (parseMethodDescriptor yX6_hunks.desc).map (fun d => d.parameters.length) = some 1 := by decide +kernel
theorem cdX6_hunk : yX6_hunk.cls = RX6 ∧ yX6_hunk.cls ≠ "java/lang/invoke/MethodHandle" ∧ yX6_hunk.cls ≠ "java/lang/invoke/VarHandle" ∧ (parseMethodDescriptor yX6_hunk.desc).map (fun d => d.parameters.length) = some 3 := by decide +kernel
theorem cdX6_alike : yX6_alike.cls = RX6 ∧ yX6_alike.cls ≠ "java/lang/invoke/MethodHandle" ∧ yX6_alike.cls ≠ "java/lang/invoke/VarHandle" ∧ (parseMethodDescriptor yX6_alike.desc).map (fun d => d.parameters.length) = some 2 := by decide +kernel
theorem cdL_cell : yL_cell.cls = RL ∧ yL_cell.cls ≠ "java/lang/invoke/MethodHandle" ∧ yL_cell.cls ≠ "java/lang/invoke/VarHandle" ∧ (parseMethodDescriptor yL_cell.desc).map (fun d => d.parameters.length) = some 2 := by decide +kernel
theorem cdL_diff : yL_diff.cls = RL ∧ yL_diff.cls ≠ "java/lang/invoke/MethodHandle" ∧ yL_diff.cls ≠ "java/lang/invoke/VarHandle" ∧ (parseMethodDescriptor yL_diff.desc).map (fun d => d.parameters.length) = some 4 := by decide +kernel
theorem cdL_patch : yL_patch.cls = RL ∧ yL_patch.cls ≠ "java/lang/invoke/MethodHandle" ∧ yL_patch.cls ≠ "java/lang/invoke/VarHandle" ∧ (parseMethodDescriptor yL_patch.desc).map (fun d => d.parameters.length) = some 3 := by decide +kernel
theorem cdL_law : yL_law.cls = RL ∧ yL_law.cls ≠ "java/lang/invoke/MethodHandle" ∧ yL_law.cls ≠ "java/lang/invoke/VarHandle" ∧ (parseMethodDescriptor yL_law.desc).map (fun d => d.parameters.length) = some 1 := by decide +kernel
abbrev rmX0_compare : Room := { frames := 2, cells := 0, slots := 0, locals := 46 }
abbrev rmX0_operations : Room := { frames := 0, cells := 0, slots := 0, locals := 0 }
abbrev rmX0_writeTo : Room := { frames := 2, cells := 0, slots := 0, locals := 44 }
abbrev rmX0_pairTo : Room := { frames := 2, cells := 0, slots := 0, locals := 44 }
abbrev rmX0_restAt : Room := { frames := 1, cells := 0, slots := 0, locals := 24 }
abbrev rmX0_stepAt : Room := { frames := 1, cells := 0, slots := 0, locals := 22 }
abbrev rmX0_isSame : Room := { frames := 0, cells := 0, slots := 0, locals := 0 }
abbrev rmX1_begin : Room := { frames := 3, cells := 0, slots := 0, locals := 70 }
abbrev rmX1_mergeTo : Room := { frames := 4, cells := 0, slots := 0, locals := 88 }
abbrev rmX1_isStable : Room := { frames := 1, cells := 0, slots := 0, locals := 22 }
abbrev rmX1_endStretches : Room := { frames := 1, cells := 0, slots := 0, locals := 21 }
abbrev rmX1_goOnBehindStable : Room := { frames := 1, cells := 0, slots := 0, locals := 20 }
abbrev rmX1_mergeStretch : Room := { frames := 3, cells := 0, slots := 0, locals := 67 }
abbrev rmX2_empty : Room := { frames := 0, cells := 0, slots := 0, locals := 0 }
abbrev rmX2_add : Room := { frames := 0, cells := 0, slots := 0, locals := 0 }
abbrev rmX2_addAll : Room := { frames := 1, cells := 0, slots := 0, locals := 22 }
abbrev rmX2_at : Room := { frames := 0, cells := 0, slots := 0, locals := 0 }
abbrev rmX3_empty : Room := { frames := 0, cells := 0, slots := 0, locals := 0 }
abbrev rmX3_add : Room := { frames := 0, cells := 0, slots := 0, locals := 0 }
abbrev rmX3_has : Room := { frames := 0, cells := 0, slots := 0, locals := 0 }
abbrev rmX3_placeOf : Room := { frames := 1, cells := 0, slots := 0, locals := 21 }
abbrev rmX3_behind : Room := { frames := 1, cells := 0, slots := 0, locals := 21 }
abbrev rmX3_beginsHunk : Room := { frames := 2, cells := 0, slots := 0, locals := 42 }
abbrev rmX3_firstOfHunk : Room := { frames := 3, cells := 0, slots := 0, locals := 64 }
abbrev rmX3_lastOfHunk : Room := { frames := 3, cells := 0, slots := 0, locals := 64 }
abbrev rmX3_countKind : Room := { frames := 1, cells := 0, slots := 0, locals := 21 }
abbrev rmX4_begin : Room := { frames := 0, cells := 0, slots := 0, locals := 0 }
abbrev rmX4_endBefore : Room := { frames := 0, cells := 0, slots := 0, locals := 0 }
abbrev rmX4_goOnBehindStable : Room := { frames := 0, cells := 0, slots := 0, locals := 0 }
abbrev rmX4_endOfRow : Room := { frames := 0, cells := 0, slots := 0, locals := 0 }
abbrev rmX4_symbolAt : Room := { frames := 1, cells := 0, slots := 0, locals := 22 }
abbrev rmX4_isSameAs : Room := { frames := 2, cells := 0, slots := 0, locals := 43 }
abbrev rmX4_addTo : Room := { frames := 2, cells := 0, slots := 0, locals := 46 }
abbrev rmX5_feed : Room := { frames := 1, cells := 0, slots := 0, locals := 21 }
abbrev rmX5_clear : Room := { frames := 1, cells := 0, slots := 0, locals := 20 }
abbrev rmX5_size : Room := { frames := 1, cells := 0, slots := 0, locals := 20 }
abbrev rmX5_symbol : Room := { frames := 1, cells := 0, slots := 0, locals := 22 }
abbrev rmX5_operation : Room := { frames := 1, cells := 0, slots := 0, locals := 21 }
abbrev rmX5_forget : Room := { frames := 1, cells := 0, slots := 0, locals := 20 }
abbrev rmX5_load : Room := { frames := 1, cells := 0, slots := 0, locals := 23 }
abbrev rmX5_merge : Room := { frames := 5, cells := 0, slots := 0, locals := 111 }
abbrev rmX5_result : Room := { frames := 1, cells := 0, slots := 0, locals := 22 }
abbrev rmX5_results : Room := { frames := 0, cells := 0, slots := 0, locals := 0 }
abbrev rmX5_hunks : Room := { frames := 3, cells := 0, slots := 0, locals := 64 }
abbrev rmX5_hunk : Room := { frames := 4, cells := 0, slots := 0, locals := 88 }
abbrev rmX5_alike : Room := { frames := 3, cells := 0, slots := 0, locals := 70 }
abbrev rmX5_isRow : Room := { frames := 0, cells := 0, slots := 0, locals := 0 }
abbrev rmX5_isSymbol : Room := { frames := 0, cells := 0, slots := 0, locals := 0 }
abbrev rmX5_isAround : Room := { frames := 0, cells := 0, slots := 0, locals := 0 }
abbrev rmX5_swapResultAndDraft : Room := { frames := 0, cells := 0, slots := 0, locals := 0 }
abbrev rmX6_thrown : Room := { frames := 0, cells := 0, slots := 0, locals := 0 }
abbrev rmX6_isRow : Room := { frames := 0, cells := 0, slots := 0, locals := 0 }
abbrev rmX6_feed : Room := { frames := 1, cells := 0, slots := 0, locals := 20 }
abbrev rmX6_clear : Room := { frames := 1, cells := 0, slots := 0, locals := 20 }
abbrev rmX6_size : Room := { frames := 1, cells := 0, slots := 0, locals := 20 }
abbrev rmX6_symbol : Room := { frames := 1, cells := 0, slots := 0, locals := 20 }
abbrev rmX6_same : Room := { frames := 0, cells := 0, slots := 0, locals := 0 }
abbrev rmX6_fill : Room := { frames := 1, cells := 0, slots := 0, locals := 24 }
abbrev rmX6_deletes : Room := { frames := 0, cells := 0, slots := 0, locals := 0 }
abbrev rmX6_diff : Room := { frames := 2, cells := 0, slots := 0, locals := 53 }
abbrev rmX6_put : Room := { frames := 0, cells := 0, slots := 0, locals := 0 }
abbrev rmX6_operation : Room := { frames := 0, cells := 0, slots := 0, locals := 0 }
abbrev rmX6_forget : Room := { frames := 0, cells := 0, slots := 0, locals := 0 }
abbrev rmX6_load : Room := { frames := 1, cells := 0, slots := 0, locals := 23 }
abbrev rmX6_trouble : Room := { frames := 0, cells := 0, slots := 0, locals := 0 }
abbrev rmX6_wrong : Room := { frames := 1, cells := 0, slots := 0, locals := 27 }
abbrev rmX6_take : Room := { frames := 0, cells := 0, slots := 0, locals := 0 }
abbrev rmX6_patch : Room := { frames := 2, cells := 0, slots := 0, locals := 52 }
abbrev rmX6_keep : Room := { frames := 2, cells := 0, slots := 0, locals := 53 }
abbrev rmX6_alikeParts : Room := { frames := 1, cells := 0, slots := 0, locals := 24 }
abbrev rmX6_copy : Room := { frames := 1, cells := 0, slots := 0, locals := 21 }
abbrev rmX6_between : Room := { frames := 2, cells := 0, slots := 0, locals := 52 }
abbrev rmX6_merge : Room := { frames := 3, cells := 0, slots := 0, locals := 79 }
abbrev rmX6_result : Room := { frames := 0, cells := 0, slots := 0, locals := 0 }
abbrev rmX6_results : Room := { frames := 0, cells := 0, slots := 0, locals := 0 }
abbrev rmX6_together : Room := { frames := 0, cells := 0, slots := 0, locals := 0 }
abbrev rmX6_countHunks : Room := { frames := 1, cells := 0, slots := 0, locals := 23 }
abbrev rmX6_hunks : Room := { frames := 2, cells := 0, slots := 0, locals := 46 }
abbrev rmX6_hunk : Room := { frames := 2, cells := 0, slots := 0, locals := 46 }
abbrev rmX6_alike : Room := { frames := 2, cells := 0, slots := 0, locals := 53 }
abbrev rmL_cell : Room := { frames := 0, cells := 0, slots := 0, locals := 0 }
