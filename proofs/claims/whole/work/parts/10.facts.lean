set_option maxRecDepth 100000 in
theorem CK_0 : CK 0 RX0 TX0 10 tyX0 := ⟨rfl, by decide +kernel, tyX0_ok, nmX0⟩
theorem dv_0 : ∀ j, j < 10 → defaultValue (tyX0 j) = dv (kn_t 0 j) := by decide +kernel
set_option maxRecDepth 100000 in
theorem CK_1 : CK 1 RX1 TX1 3 tyX1 := ⟨rfl, by decide +kernel, tyX1_ok, nmX1⟩
theorem dv_1 : ∀ j, j < 3 → defaultValue (tyX1 j) = dv (kn_t 1 j) := by decide +kernel
set_option maxRecDepth 100000 in
theorem CK_2 : CK 2 RX2 TX2 3 tyX2 := ⟨rfl, by decide +kernel, tyX2_ok, nmX2⟩
theorem dv_2 : ∀ j, j < 3 → defaultValue (tyX2 j) = dv (kn_t 2 j) := by decide +kernel
set_option maxRecDepth 100000 in
theorem CK_3 : CK 3 RX3 TX3 2 tyX3 := ⟨rfl, by decide +kernel, tyX3_ok, nmX3⟩
theorem dv_3 : ∀ j, j < 2 → defaultValue (tyX3 j) = dv (kn_t 3 j) := by decide +kernel
set_option maxRecDepth 100000 in
theorem CK_4 : CK 4 RX4 TX4 4 tyX4 := ⟨rfl, by decide +kernel, tyX4_ok, nmX4⟩
theorem dv_4 : ∀ j, j < 4 → defaultValue (tyX4 j) = dv (kn_t 4 j) := by decide +kernel
set_option maxRecDepth 100000 in
theorem CK_5 : CK 5 RX5 TX5 5 tyX5 := ⟨rfl, by decide +kernel, tyX5_ok, nmX5⟩
theorem dv_5 : ∀ j, j < 5 → defaultValue (tyX5 j) = dv (kn_t 5 j) := by decide +kernel
set_option maxRecDepth 100000 in
theorem CK_6 : CK 6 RX6 TX6 8 tyX6 := ⟨rfl, by decide +kernel, tyX6_ok, nmX6⟩
theorem dv_6 : ∀ j, j < 8 → defaultValue (tyX6 j) = dv (kn_t 6 j) := by decide +kernel
set_option maxRecDepth 100000 in
theorem CK_7 : CK 7 RX7 TX7 3 tyX7 := ⟨rfl, by decide +kernel, tyX7_ok, nmX7⟩
theorem dv_7 : ∀ j, j < 3 → defaultValue (tyX7 j) = dv (kn_t 7 j) := by decide +kernel
set_option maxRecDepth 100000 in
theorem CK_8 : CK 8 RX8 TX8 4 tyX8 := ⟨rfl, by decide +kernel, tyX8_ok, nmX8⟩
theorem dv_8 : ∀ j, j < 4 → defaultValue (tyX8 j) = dv (kn_t 8 j) := by decide +kernel
set_option maxRecDepth 100000 in
theorem CK_9 : CK 9 RX9 TX9 17 tyX9 := ⟨rfl, by decide +kernel, tyX9_ok, nmX9⟩
theorem dv_9 : ∀ j, j < 17 → defaultValue (tyX9 j) = dv (kn_t 9 j) := by decide +kernel
set_option maxRecDepth 100000 in
theorem CK_10 : CK 10 RX10 TX10 45 tyX10 := ⟨rfl, by decide +kernel, tyX10_ok, nmX10⟩
theorem dv_10 : ∀ j, j < 45 → defaultValue (tyX10 j) = dv (kn_t 10 j) := by decide +kernel
theorem M_0_init : MI yX0_init cX0_init 6 3 := ⟨mw_140, mw_139, mw_5, rfl, by decide +kernel⟩
theorem M_0_placeOf : MV yX0_placeOf cX0_placeOf 3 (some .int) 1 := ⟨mw_213, mw_211, mw_212, mw_5, by decide +kernel⟩
theorem M_0_movesAt : MV yX0_movesAt cX0_movesAt 2 (some .boolean) 1 := ⟨mw_378, mw_376, mw_377, mw_5, by decide +kernel⟩
theorem M_0_refusesAt : MV yX0_refusesAt cX0_refusesAt 2 (some .boolean) 1 := ⟨mw_390, mw_388, mw_389, mw_5, by decide +kernel⟩
theorem M_1_init : MI yX1_init cX1_init 4 2 := ⟨mw_239, mw_238, mw_8, rfl, by decide +kernel⟩
theorem M_2_init : MI yX2_init cX2_init 5 3 := ⟨mw_216, mw_215, mw_7, rfl, by decide +kernel⟩
theorem M_3_init : MI yX3_init cX3_init 2 1 := ⟨mw_37, mw_36, mw_2, rfl, by decide +kernel⟩
theorem M_3_add : MV yX3_add cX3_add 5 (none : Option Jvm.ClassFile.FieldType) 4 := ⟨mw_394, mw_392, mw_393, mw_2, by decide +kernel⟩
theorem M_3_part : MV yX3_part cX3_part 4 (some .int) 2 := ⟨mw_454, mw_452, mw_453, mw_2, by decide +kernel⟩
theorem M_4_init : MI yX4_init cX4_init 1 0 := ⟨mw_147, mw_146, mw_6, rfl, by decide +kernel⟩
theorem M_4_add : MV yX4_add cX4_add 3 (none : Option Jvm.ClassFile.FieldType) 1 := ⟨mw_440, mw_438, mw_439, mw_6, by decide +kernel⟩
theorem M_5_init : MI yX5_init cX5_init 6 3 := ⟨mw_275, mw_274, mw_9, rfl, by decide +kernel⟩
theorem M_5_take : MV yX5_take cX5_take 2 (none : Option Jvm.ClassFile.FieldType) 1 := ⟨mw_431, mw_429, mw_430, mw_9, by decide +kernel⟩
theorem M_6_init : MI yX6_init cX6_init 7 5 := ⟨mw_327, mw_326, mw_11, rfl, by decide +kernel⟩
theorem M_7_init : MI yX7_init cX7_init 6 3 := ⟨mw_302, mw_301, mw_10, rfl, by decide +kernel⟩
theorem M_8_init : MI yX8_init cX8_init 1 0 := ⟨mw_52, mw_51, mw_3, rfl, by decide +kernel⟩
theorem M_8_atRest : MV yX8_atRest cX8_atRest 1 (some .long) 0 := ⟨mw_366, mw_364, mw_365, mw_3, by decide +kernel⟩
theorem M_9_init : MI yX9_init cX9_init 3 1 := ⟨mw_17, mw_16, mw_1, rfl, by decide +kernel⟩
theorem M_9_belt : MV yX9_belt cX9_belt 5 (some .int) 2 := ⟨mw_127, mw_125, mw_126, mw_1, by decide +kernel⟩
theorem M_9_head : MV yX9_head cX9_head 8 (some .int) 3 := ⟨mw_204, mw_202, mw_203, mw_1, by decide +kernel⟩
theorem M_9_bunker : MV yX9_bunker cX9_bunker 4 (some .int) 1 := ⟨mw_234, mw_232, mw_233, mw_1, by decide +kernel⟩
theorem M_9_joinTo : MV yX9_joinTo cX9_joinTo 6 (some .boolean) 2 := ⟨mw_256, mw_254, mw_255, mw_1, by decide +kernel⟩
theorem M_9_rule : MV yX9_rule cX9_rule 6 (some .boolean) 3 := ⟨mw_264, mw_262, mw_263, mw_1, by decide +kernel⟩
theorem M_9_picker : MV yX9_picker cX9_picker 8 (some .int) 3 := ⟨mw_268, mw_266, mw_267, mw_1, by decide +kernel⟩
theorem M_9_robot : MV yX9_robot cX9_robot 8 (some .int) 3 := ⟨mw_298, mw_296, mw_297, mw_1, by decide +kernel⟩
theorem M_9_feed : MV yX9_feed cX9_feed 7 (some .boolean) 4 := ⟨mw_320, mw_318, mw_319, mw_1, by decide +kernel⟩
theorem M_9_run : MV yX9_run cX9_run 3 (some .int) 1 := ⟨mw_362, mw_360, mw_361, mw_1, by decide +kernel⟩
theorem M_9_event : MV yX9_event cX9_event 3 (some .int) 2 := ⟨mw_450, mw_448, mw_449, mw_1, by decide +kernel⟩
theorem M_9_out : MV yX9_out cX9_out 4 (some .long) 2 := ⟨mw_458, mw_456, mw_457, mw_1, by decide +kernel⟩
theorem M_9_inside : MV yX9_inside cX9_inside 1 (some .long) 0 := ⟨mw_463, mw_461, mw_462, mw_1, by decide +kernel⟩
theorem M_9_jam : MV yX9_jam cX9_jam 3 (some .int) 2 := ⟨mw_471, mw_469, mw_470, mw_1, by decide +kernel⟩
theorem M_9_lost : MV yX9_lost cX9_lost 2 (some .long) 1 := ⟨mw_475, mw_473, mw_474, mw_1, by decide +kernel⟩
theorem M_9_interval : MV yX9_interval cX9_interval 6 (some .double) 3 := ⟨mw_479, mw_477, mw_478, mw_1, by decide +kernel⟩
theorem M_9_same : MV yX9_same cX9_same 3 (some .boolean) 0 := ⟨mw_484, mw_482, mw_483, mw_1, by decide +kernel⟩
theorem M_9_pieceKind : MV yX9_pieceKind cX9_pieceKind 3 (some .int) 1 := ⟨mw_488, mw_486, mw_487, mw_1, by decide +kernel⟩
theorem M_9_isClosed : MV yX9_isClosed cX9_isClosed 1 (some .boolean) 0 := ⟨mw_131, mw_130, mp_0, mw_1, by decide +kernel⟩
theorem M_9_within : MS yX9_within cX9_within 6 (some .boolean) 3 := ⟨mw_135, mw_134, mw_1, by decide +kernel⟩
theorem M_9_isKind : MS yX9_isKind cX9_isKind 1 (some .boolean) 1 := ⟨mw_323, mw_322, mw_1, by decide +kernel⟩
theorem M_9_beltNumbered : MV yX9_beltNumbered cX9_beltNumbered 2 (some (.object "SortLineEvents$Belt")) 1 := ⟨mw_208, mw_207, mp_1, mw_1, by decide +kernel⟩
theorem M_9_bunkerJoinedBy : MV yX9_bunkerJoinedBy cX9_bunkerJoinedBy 3 (some (.object "SortLineEvents$Bunker")) 1 := ⟨mw_260, mw_259, mp_2, mw_1, by decide +kernel⟩
theorem M_9_onBelts : MV yX9_onBelts cX9_onBelts 3 (some .int) 0 := ⟨mw_467, mw_466, mp_15, mw_1, by decide +kernel⟩
theorem M_9_passOneTenth : MV yX9_passOneTenth cX9_passOneTenth 2 (none : Option Jvm.ClassFile.FieldType) 0 := ⟨mw_370, mw_369, mp_3, mw_1, by decide +kernel⟩
theorem M_9_comeOn : MV yX9_comeOn cX9_comeOn 3 (none : Option Jvm.ClassFile.FieldType) 1 := ⟨mw_374, mw_373, mp_4, mw_1, by decide +kernel⟩
theorem M_9_act : MV yX9_act cX9_act 3 (none : Option Jvm.ClassFile.FieldType) 1 := ⟨mw_382, mw_381, mp_5, mw_1, by decide +kernel⟩
theorem M_9_enter : MV yX9_enter cX9_enter 3 (none : Option Jvm.ClassFile.FieldType) 2 := ⟨mw_386, mw_385, mp_6, mw_1, by decide +kernel⟩
theorem M_9_loadWith : MV yX9_loadWith cX9_loadWith 7 (some .double) 2 := ⟨mw_398, mw_397, mp_7, mw_1, by decide +kernel⟩
theorem M_9_jamBy : MV yX9_jamBy cX9_jamBy 5 (none : Option Jvm.ClassFile.FieldType) 2 := ⟨mw_402, mw_401, mp_8, mw_1, by decide +kernel⟩
theorem M_9_passHeads : MV yX9_passHeads cX9_passHeads 6 (none : Option Jvm.ClassFile.FieldType) 2 := ⟨mw_406, mw_405, mp_9, mw_1, by decide +kernel⟩
theorem M_9_leave : MV yX9_leave cX9_leave 3 (none : Option Jvm.ClassFile.FieldType) 2 := ⟨mw_419, mw_418, mp_11, mw_1, by decide +kernel⟩
theorem M_9_takenByRobot : MV yX9_takenByRobot cX9_takenByRobot 5 (some .boolean) 2 := ⟨mw_423, mw_422, mp_12, mw_1, by decide +kernel⟩
theorem M_9_takenByPicker : MV yX9_takenByPicker cX9_takenByPicker 5 (some .boolean) 2 := ⟨mw_427, mw_426, mp_13, mw_1, by decide +kernel⟩
theorem M_9_fill : MV yX9_fill cX9_fill 5 (none : Option Jvm.ClassFile.FieldType) 2 := ⟨mw_436, mw_435, mp_14, mw_1, by decide +kernel⟩
theorem M_9_chance : MV yX9_chance cX9_chance 5 (some .double) 2 := ⟨mw_410, mw_409, mp_10, mw_1, by decide +kernel⟩
theorem M_10_init : MI yX10_init cX10_init 3 1 := ⟨mw_496, mw_495, mw_4, rfl, by decide +kernel⟩
theorem M_10_isIn : MS yX10_isIn cX10_isIn 6 (some .boolean) 3 := ⟨mw_644, mw_643, mw_4, by decide +kernel⟩
theorem M_10_isBelt : MV yX10_isBelt cX10_isBelt 2 (some .boolean) 1 := ⟨mw_656, mw_655, mp_17, mw_4, by decide +kernel⟩
theorem M_10_isOpen : MV yX10_isOpen cX10_isOpen 1 (some .boolean) 0 := ⟨mw_648, mw_647, mp_16, mw_4, by decide +kernel⟩
theorem M_10_belt : MV yX10_belt cX10_belt 4 (some .int) 2 := ⟨mw_639, mw_637, mw_638, mw_4, by decide +kernel⟩
theorem M_10_head : MV yX10_head cX10_head 6 (some .int) 3 := ⟨mw_652, mw_650, mw_651, mw_4, by decide +kernel⟩
theorem M_10_bunker : MV yX10_bunker cX10_bunker 3 (some .int) 1 := ⟨mw_660, mw_658, mw_659, mw_4, by decide +kernel⟩
theorem M_10_joinTo : MV yX10_joinTo cX10_joinTo 4 (some .boolean) 2 := ⟨mw_665, mw_663, mw_664, mw_4, by decide +kernel⟩
theorem M_10_rule : MV yX10_rule cX10_rule 5 (some .boolean) 3 := ⟨mw_669, mw_667, mw_668, mw_4, by decide +kernel⟩
theorem M_10_picker : MV yX10_picker cX10_picker 6 (some .int) 3 := ⟨mw_673, mw_671, mw_672, mw_4, by decide +kernel⟩
theorem M_10_robot : MV yX10_robot cX10_robot 6 (some .int) 3 := ⟨mw_680, mw_678, mw_679, mw_4, by decide +kernel⟩
theorem M_10_feed : MV yX10_feed cX10_feed 6 (some .boolean) 4 := ⟨mw_684, mw_682, mw_683, mw_4, by decide +kernel⟩
theorem M_10_chance : MV yX10_chance cX10_chance 5 (some .double) 2 := ⟨mw_720, mw_719, mp_25, mw_4, by decide +kernel⟩
theorem M_10_note : MV yX10_note cX10_note 4 (none : Option Jvm.ClassFile.FieldType) 3 := ⟨mw_704, mw_703, mp_21, mw_4, by decide +kernel⟩
theorem M_10_lose : MV yX10_lose cX10_lose 5 (none : Option Jvm.ClassFile.FieldType) 4 := ⟨mw_700, mw_699, mp_20, mw_4, by decide +kernel⟩
theorem M_10_sizesOn : MV yX10_sizesOn cX10_sizesOn 6 (some .double) 2 := ⟨mw_708, mw_707, mp_22, mw_4, by decide +kernel⟩
theorem M_10_piecesOn : MV yX10_piecesOn cX10_piecesOn 4 (some .int) 1 := ⟨mw_712, mw_711, mp_23, mw_4, by decide +kernel⟩
theorem M_10_enter : MV yX10_enter cX10_enter 3 (none : Option Jvm.ClassFile.FieldType) 2 := ⟨mw_696, mw_695, mp_19, mw_4, by decide +kernel⟩
theorem M_10_pass : MV yX10_pass cX10_pass 3 (none : Option Jvm.ClassFile.FieldType) 1 := ⟨mw_716, mw_715, mp_24, mw_4, by decide +kernel⟩
theorem M_10_isTaken : MV yX10_isTaken cX10_isTaken 4 (some .boolean) 1 := ⟨mw_729, mw_728, mp_26, mw_4, by decide +kernel⟩
theorem M_10_goOn : MV yX10_goOn cX10_goOn 4 (none : Option Jvm.ClassFile.FieldType) 1 := ⟨mw_733, mw_732, mp_27, mw_4, by decide +kernel⟩
theorem M_10_goOut : MV yX10_goOut cX10_goOut 4 (none : Option Jvm.ClassFile.FieldType) 1 := ⟨mw_737, mw_736, mp_28, mw_4, by decide +kernel⟩
theorem M_10_tenth : MV yX10_tenth cX10_tenth 2 (none : Option Jvm.ClassFile.FieldType) 0 := ⟨mw_692, mw_691, mp_18, mw_4, by decide +kernel⟩
theorem M_10_run : MV yX10_run cX10_run 2 (some .int) 1 := ⟨mw_688, mw_686, mw_687, mw_4, by decide +kernel⟩
theorem M_10_event : MV yX10_event cX10_event 3 (some .int) 2 := ⟨mw_741, mw_739, mw_740, mw_4, by decide +kernel⟩
theorem M_10_isKind : MV yX10_isKind cX10_isKind 3 (some .boolean) 2 := ⟨mw_749, mw_748, mp_29, mw_4, by decide +kernel⟩
theorem M_10_out : MV yX10_out cX10_out 3 (some .long) 2 := ⟨mw_745, mw_743, mw_744, mw_4, by decide +kernel⟩
theorem M_10_count : MV yX10_count cX10_count 4 (some .int) 1 := ⟨mw_758, mw_757, mp_30, mw_4, by decide +kernel⟩
theorem M_10_inside : MV yX10_inside cX10_inside 1 (some .long) 0 := ⟨mw_754, mw_752, mw_753, mw_4, by decide +kernel⟩
theorem M_10_jam : MV yX10_jam cX10_jam 3 (some .int) 2 := ⟨mw_762, mw_760, mw_761, mw_4, by decide +kernel⟩
theorem M_10_lost : MV yX10_lost cX10_lost 2 (some .long) 1 := ⟨mw_766, mw_764, mw_765, mw_4, by decide +kernel⟩
theorem M_10_interval : MV yX10_interval cX10_interval 4 (some .double) 3 := ⟨mw_770, mw_768, mw_769, mw_4, by decide +kernel⟩
theorem M_10_same : MV yX10_same cX10_same 3 (some .boolean) 0 := ⟨mw_775, mw_773, mw_774, mw_4, by decide +kernel⟩
theorem M_10_pieceKind : MV yX10_pieceKind cX10_pieceKind 3 (some .int) 1 := ⟨mw_780, mw_778, mw_779, mw_4, by decide +kernel⟩
theorem M_L_cell : MS yL_cell cL_cell 2 (some .int) 2 := ⟨mw_491, mw_490, mw_0, by decide +kernel⟩
