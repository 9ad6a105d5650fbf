def BIG : List Cond := lw_tbl.filter (fun w => k2_isCode w || goodWord w)
theorem big_in {w : Cond} {i : Nat} (h : tables_1[i]? = some w) (hg : (k2_isCode w || goodWord w) = true) : w ∈ BIG := List.mem_filter.mpr ⟨List.mem_append_right _ (List.mem_of_getElem? h), hg⟩
theorem big_pv {w : Cond} {i : Nat} (h : (k2_sels lw_privs)[i]? = some w) (hg : (k2_isCode w || goodWord w) = true) : w ∈ BIG := List.mem_filter.mpr ⟨List.mem_append_left _ (List.mem_of_getElem? h), hg⟩
theorem big_lw {w : Cond} (h : w ∈ BIG) : w ∈ lw_tbl := (List.mem_filter.mp h).1
theorem big_good : GoodIn BIG BIG := fun w h => ⟨h, by
  have h2 := (List.mem_filter.mp h).2
  rcases Bool.or_eq_true _ _ |>.mp h2 with h3 | h3
  · cases w <;> first | (simp [k2_isCode] at h3; done) | exact Or.inl rfl
  · exact good_of_word h3⟩
theorem mw_0 : (Jvm.Cond.initialized "SortLineEventsLaw") ∈ BIG := big_in (i := 0) (by decide +kernel) rfl
theorem mw_1 : (Jvm.Cond.initialized "SortLineEvents") ∈ BIG := big_in (i := 1) (by decide +kernel) rfl
theorem mw_2 : (Jvm.Cond.initialized "SortLineEvents$Log") ∈ BIG := big_in (i := 2) (by decide +kernel) rfl
theorem mw_3 : (Jvm.Cond.initialized "SortLineEvents$Tally") ∈ BIG := big_in (i := 3) (by decide +kernel) rfl
theorem mw_4 : (Jvm.Cond.initialized "SortLineEventsModel") ∈ BIG := big_in (i := 4) (by decide +kernel) rfl
theorem mw_5 : (Jvm.Cond.initialized "SortLineEvents$Belt") ∈ BIG := big_in (i := 5) (by decide +kernel) rfl
theorem mw_6 : (Jvm.Cond.initialized "SortLineEvents$Outs") ∈ BIG := big_in (i := 6) (by decide +kernel) rfl
theorem mw_7 : (Jvm.Cond.initialized "SortLineEvents$Head") ∈ BIG := big_in (i := 7) (by decide +kernel) rfl
theorem mw_8 : (Jvm.Cond.initialized "SortLineEvents$Bunker") ∈ BIG := big_in (i := 8) (by decide +kernel) rfl
theorem mw_9 : (Jvm.Cond.initialized "SortLineEvents$Picker") ∈ BIG := big_in (i := 9) (by decide +kernel) rfl
theorem mw_10 : (Jvm.Cond.initialized "SortLineEvents$Robot") ∈ BIG := big_in (i := 10) (by decide +kernel) rfl
theorem mw_11 : (Jvm.Cond.initialized "SortLineEvents$Piece") ∈ BIG := big_in (i := 11) (by decide +kernel) rfl
theorem mw_12 : (Jvm.Cond.initialized "java/lang/Math") ∈ BIG := big_in (i := 12) (by decide +kernel) rfl
theorem mw_13 : (Jvm.Cond.classLink "SortLineEventsLaw" (7 : Nat) "SortLineEvents") ∈ BIG := big_in (i := 13) (by decide +kernel) rfl
theorem mw_14 : (Jvm.Cond.instantiable "SortLineEvents" (17 : Nat)) ∈ BIG := big_in (i := 14) (by decide +kernel) rfl
theorem mw_15 : (Jvm.Cond.methodLink "SortLineEventsLaw" (15 : Nat) ({ cls := "SortLineEvents", name := "<init>", desc := "(J)V" } : Jvm.MethodName)) ∈ BIG := big_in (i := 15) (by decide +kernel) rfl
theorem mw_16 : (Jvm.Cond.instanceMethod ({ cls := "SortLineEvents", name := "<init>", desc := "(J)V" } : Jvm.MethodName)) ∈ BIG := big_in (i := 16) (by decide +kernel) rfl
set_option maxRecDepth 100000 in
theorem mw_17 : (Jvm.Cond.code ({ cls := "SortLineEvents", name := "<init>", desc := "(J)V" } : Jvm.MethodName) prog_1_method_1_code (3 : Nat) (Option.none : Option Jvm.ClassFile.FieldType)) ∈ BIG := big_in (i := 17) rfl rfl
theorem mw_18 : (Jvm.Cond.methodLink "SortLineEvents" (1 : Nat) ({ cls := "java/lang/Object", name := "<init>", desc := "()V" } : Jvm.MethodName)) ∈ BIG := big_in (i := 18) (by decide +kernel) rfl
theorem mw_19 : (Jvm.Cond.instanceMethod ({ cls := "java/lang/Object", name := "<init>", desc := "()V" } : Jvm.MethodName)) ∈ BIG := big_in (i := 19) (by decide +kernel) rfl
set_option maxRecDepth 100000 in
theorem mw_20 : (Jvm.Cond.code ({ cls := "java/lang/Object", name := "<init>", desc := "()V" } : Jvm.MethodName) object_method_1_code (1 : Nat) (Option.none : Option Jvm.ClassFile.FieldType)) ∈ BIG := big_in (i := 20) rfl rfl
theorem mw_21 : (Jvm.Cond.classLink "SortLineEvents" (9 : Nat) "SortLineEvents$Belt") ∈ BIG := big_in (i := 21) (by decide +kernel) rfl
theorem mw_23 : (Jvm.Cond.classLink "SortLineEvents" (15 : Nat) "SortLineEvents$Head") ∈ BIG := big_in (i := 23) (by decide +kernel) rfl
theorem mw_25 : (Jvm.Cond.classLink "SortLineEvents" (21 : Nat) "SortLineEvents$Bunker") ∈ BIG := big_in (i := 25) (by decide +kernel) rfl
theorem mw_27 : (Jvm.Cond.classLink "SortLineEvents" (27 : Nat) "SortLineEvents$Picker") ∈ BIG := big_in (i := 27) (by decide +kernel) rfl
theorem mw_29 : (Jvm.Cond.classLink "SortLineEvents" (33 : Nat) "SortLineEvents$Robot") ∈ BIG := big_in (i := 29) (by decide +kernel) rfl
theorem mw_31 : (Jvm.Cond.classLink "SortLineEvents" (39 : Nat) "SortLineEvents$Piece") ∈ BIG := big_in (i := 31) (by decide +kernel) rfl
theorem mw_33 : (Jvm.Cond.classLink "SortLineEvents" (45 : Nat) "SortLineEvents$Log") ∈ BIG := big_in (i := 33) (by decide +kernel) rfl
theorem mw_34 : (Jvm.Cond.instantiable "SortLineEvents$Log" (2 : Nat)) ∈ BIG := big_in (i := 34) (by decide +kernel) rfl
theorem mw_35 : (Jvm.Cond.methodLink "SortLineEvents" (47 : Nat) ({ cls := "SortLineEvents$Log", name := "<init>", desc := "(I)V" } : Jvm.MethodName)) ∈ BIG := big_in (i := 35) (by decide +kernel) rfl
theorem mw_36 : (Jvm.Cond.instanceMethod ({ cls := "SortLineEvents$Log", name := "<init>", desc := "(I)V" } : Jvm.MethodName)) ∈ BIG := big_in (i := 36) (by decide +kernel) rfl
set_option maxRecDepth 100000 in
theorem mw_37 : (Jvm.Cond.code ({ cls := "SortLineEvents$Log", name := "<init>", desc := "(I)V" } : Jvm.MethodName) prog_5_method_1_code (2 : Nat) (Option.none : Option Jvm.ClassFile.FieldType)) ∈ BIG := big_in (i := 37) rfl rfl
theorem mw_38 : (Jvm.Cond.methodLink "SortLineEvents$Log" (3 : Nat) ({ cls := "java/lang/Object", name := "<init>", desc := "()V" } : Jvm.MethodName)) ∈ BIG := big_in (i := 38) (by decide +kernel) rfl
theorem mw_39 : (Jvm.Cond.fieldLink "SortLineEvents$Log" (9 : Nat) "SortLineEvents$Log" "rows" "[I") ∈ BIG := big_in (i := 39) (by decide +kernel) rfl
theorem mw_40 : (Jvm.Cond.fieldLink "SortLineEvents$Log" (15 : Nat) "SortLineEvents$Log" "total" "I") ∈ BIG := big_in (i := 40) (by decide +kernel) rfl
theorem mw_41 : (Jvm.Cond.fieldLink "SortLineEvents" (171 : Nat) "SortLineEvents$Log" "total" "I") ∈ BIG := big_in (i := 41) (by decide +kernel) rfl
theorem mw_47 : (Jvm.Cond.arrayClass Jvm.ClassFile.FieldType.int) ∈ BIG := big_in (i := 47) (by decide +kernel) rfl
theorem mw_48 : (Jvm.Cond.classLink "SortLineEvents" (57 : Nat) "SortLineEvents$Tally") ∈ BIG := big_in (i := 48) (by decide +kernel) rfl
theorem mw_49 : (Jvm.Cond.instantiable "SortLineEvents$Tally" (4 : Nat)) ∈ BIG := big_in (i := 49) (by decide +kernel) rfl
theorem mw_51 : (Jvm.Cond.instanceMethod ({ cls := "SortLineEvents$Tally", name := "<init>", desc := "()V" } : Jvm.MethodName)) ∈ BIG := big_in (i := 51) (by decide +kernel) rfl
set_option maxRecDepth 100000 in
theorem mw_52 : (Jvm.Cond.code ({ cls := "SortLineEvents$Tally", name := "<init>", desc := "()V" } : Jvm.MethodName) prog_10_method_1_code (1 : Nat) (Option.none : Option Jvm.ClassFile.FieldType)) ∈ BIG := big_in (i := 52) rfl rfl
theorem mw_53 : (Jvm.Cond.methodLink "SortLineEvents$Tally" (3 : Nat) ({ cls := "java/lang/Object", name := "<init>", desc := "()V" } : Jvm.MethodName)) ∈ BIG := big_in (i := 53) (by decide +kernel) rfl
theorem mw_54 : (Jvm.Cond.fieldLink "SortLineEvents$Tally" (9 : Nat) "SortLineEvents$Tally" "losses" "[J") ∈ BIG := big_in (i := 54) (by decide +kernel) rfl
theorem mw_55 : (Jvm.Cond.fieldLink "SortLineEvents" (196 : Nat) "SortLineEvents$Tally" "losses" "[J") ∈ BIG := big_in (i := 55) (by decide +kernel) rfl
theorem mw_56 : (Jvm.Cond.fieldLink "SortLineEvents$Tally" (15 : Nat) "SortLineEvents$Tally" "inBunkers" "I") ∈ BIG := big_in (i := 56) (by decide +kernel) rfl
theorem mw_57 : (Jvm.Cond.fieldLink "SortLineEvents" (193 : Nat) "SortLineEvents$Tally" "inBunkers" "I") ∈ BIG := big_in (i := 57) (by decide +kernel) rfl
theorem mw_58 : (Jvm.Cond.fieldLink "SortLineEvents$Tally" (19 : Nat) "SortLineEvents$Tally" "wentOut" "I") ∈ BIG := big_in (i := 58) (by decide +kernel) rfl
theorem mw_59 : (Jvm.Cond.fieldLink "SortLineEvents" (296 : Nat) "SortLineEvents$Tally" "wentOut" "I") ∈ BIG := big_in (i := 59) (by decide +kernel) rfl
theorem mw_60 : (Jvm.Cond.fieldLink "SortLineEvents$Tally" (22 : Nat) "SortLineEvents$Tally" "taken" "I") ∈ BIG := big_in (i := 60) (by decide +kernel) rfl
theorem mw_61 : (Jvm.Cond.fieldLink "SortLineEvents" (289 : Nat) "SortLineEvents$Tally" "taken" "I") ∈ BIG := big_in (i := 61) (by decide +kernel) rfl
theorem mw_71 : (Jvm.Cond.arrayClass Jvm.ClassFile.FieldType.long) ∈ BIG := big_in (i := 71) (by decide +kernel) rfl
theorem mw_72 : (Jvm.Cond.fieldLink "SortLineEvents" (64 : Nat) "SortLineEvents" "seed" "J") ∈ BIG := big_in (i := 72) (by decide +kernel) rfl
theorem mw_73 : (Jvm.Cond.fieldLink "SortLineEvents" (11 : Nat) "SortLineEvents" "belts" "[LSortLineEvents$Belt;") ∈ BIG := big_in (i := 73) (by decide +kernel) rfl
theorem mw_74 : (Jvm.Cond.fieldLink "SortLineEvents" (17 : Nat) "SortLineEvents" "heads" "[LSortLineEvents$Head;") ∈ BIG := big_in (i := 74) (by decide +kernel) rfl
theorem mw_75 : (Jvm.Cond.fieldLink "SortLineEvents" (23 : Nat) "SortLineEvents" "bunkers" "[LSortLineEvents$Bunker;") ∈ BIG := big_in (i := 75) (by decide +kernel) rfl
theorem mw_76 : (Jvm.Cond.fieldLink "SortLineEvents" (29 : Nat) "SortLineEvents" "pickers" "[LSortLineEvents$Picker;") ∈ BIG := big_in (i := 76) (by decide +kernel) rfl
theorem mw_77 : (Jvm.Cond.fieldLink "SortLineEvents" (35 : Nat) "SortLineEvents" "robots" "[LSortLineEvents$Robot;") ∈ BIG := big_in (i := 77) (by decide +kernel) rfl
theorem mw_78 : (Jvm.Cond.fieldLink "SortLineEvents" (41 : Nat) "SortLineEvents" "pieces" "[LSortLineEvents$Piece;") ∈ BIG := big_in (i := 78) (by decide +kernel) rfl
theorem mw_79 : (Jvm.Cond.fieldLink "SortLineEvents" (50 : Nat) "SortLineEvents" "events" "LSortLineEvents$Log;") ∈ BIG := big_in (i := 79) (by decide +kernel) rfl
theorem mw_80 : (Jvm.Cond.fieldLink "SortLineEvents" (54 : Nat) "SortLineEvents" "jams" "LSortLineEvents$Log;") ∈ BIG := big_in (i := 80) (by decide +kernel) rfl
theorem mw_81 : (Jvm.Cond.fieldLink "SortLineEvents" (60 : Nat) "SortLineEvents" "tally" "LSortLineEvents$Tally;") ∈ BIG := big_in (i := 81) (by decide +kernel) rfl
theorem mw_82 : (Jvm.Cond.fieldLink "SortLineEvents" (72 : Nat) "SortLineEvents" "beltCount" "I") ∈ BIG := big_in (i := 82) (by decide +kernel) rfl
theorem mw_83 : (Jvm.Cond.fieldLink "SortLineEvents" (91 : Nat) "SortLineEvents" "headCount" "I") ∈ BIG := big_in (i := 83) (by decide +kernel) rfl
theorem mw_84 : (Jvm.Cond.fieldLink "SortLineEvents" (105 : Nat) "SortLineEvents" "bunkerCount" "I") ∈ BIG := big_in (i := 84) (by decide +kernel) rfl
theorem mw_85 : (Jvm.Cond.fieldLink "SortLineEvents" (135 : Nat) "SortLineEvents" "pickerCount" "I") ∈ BIG := big_in (i := 85) (by decide +kernel) rfl
theorem mw_86 : (Jvm.Cond.fieldLink "SortLineEvents" (147 : Nat) "SortLineEvents" "robotCount" "I") ∈ BIG := big_in (i := 86) (by decide +kernel) rfl
theorem mw_87 : (Jvm.Cond.fieldLink "SortLineEvents" (151 : Nat) "SortLineEvents" "pieceCount" "I") ∈ BIG := big_in (i := 87) (by decide +kernel) rfl
theorem mw_88 : (Jvm.Cond.fieldLink "SortLineEvents" (158 : Nat) "SortLineEvents" "now" "I") ∈ BIG := big_in (i := 88) (by decide +kernel) rfl
theorem mw_124 : (Jvm.Cond.methodLink "SortLineEventsLaw" (23 : Nat) ({ cls := "SortLineEvents", name := "belt", desc := "(ID)I" } : Jvm.MethodName)) ∈ BIG := big_in (i := 124) (by decide +kernel) rfl
theorem mw_125 : (Jvm.Cond.instanceMethod ({ cls := "SortLineEvents", name := "belt", desc := "(ID)I" } : Jvm.MethodName)) ∈ BIG := big_in (i := 125) (by decide +kernel) rfl
theorem mw_126 : (Jvm.Cond.selects "SortLineEvents" ({ cls := "SortLineEvents", name := "belt", desc := "(ID)I" } : Jvm.MethodName) ({ cls := "SortLineEvents", name := "belt", desc := "(ID)I" } : Jvm.MethodName)) ∈ BIG := big_in (i := 126) (by decide +kernel) rfl
set_option maxRecDepth 100000 in
theorem mw_127 : (Jvm.Cond.code ({ cls := "SortLineEvents", name := "belt", desc := "(ID)I" } : Jvm.MethodName) prog_1_method_2_code (5 : Nat) (Option.some Jvm.ClassFile.FieldType.int)) ∈ BIG := big_in (i := 127) rfl rfl
theorem mw_128 : (Jvm.Cond.methodLink "SortLineEvents" (68 : Nat) ({ cls := "SortLineEvents", name := "isClosed", desc := "()Z" } : Jvm.MethodName)) ∈ BIG := big_in (i := 128) (by decide +kernel) rfl
theorem mw_130 : (Jvm.Cond.instanceMethod ({ cls := "SortLineEvents", name := "isClosed", desc := "()Z" } : Jvm.MethodName)) ∈ BIG := big_in (i := 130) (by decide +kernel) rfl
set_option maxRecDepth 100000 in
theorem mw_131 : (Jvm.Cond.code ({ cls := "SortLineEvents", name := "isClosed", desc := "()Z" } : Jvm.MethodName) prog_1_method_19_code (1 : Nat) (Option.some Jvm.ClassFile.FieldType.boolean)) ∈ BIG := big_in (i := 131) rfl rfl
theorem mw_132 : (Jvm.Cond.constantDouble "SortLineEvents" (76 : Nat) (4652007308841189376 : UInt64)) ∈ BIG := big_in (i := 132) (by decide +kernel) rfl
theorem mw_133 : (Jvm.Cond.methodLink "SortLineEvents" (78 : Nat) ({ cls := "SortLineEvents", name := "within", desc := "(DDD)Z" } : Jvm.MethodName)) ∈ BIG := big_in (i := 133) (by decide +kernel) rfl
theorem mw_134 : (Jvm.Cond.static ({ cls := "SortLineEvents", name := "within", desc := "(DDD)Z" } : Jvm.MethodName)) ∈ BIG := big_in (i := 134) (by decide +kernel) rfl
set_option maxRecDepth 100000 in
theorem mw_135 : (Jvm.Cond.code ({ cls := "SortLineEvents", name := "within", desc := "(DDD)Z" } : Jvm.MethodName) prog_1_method_20_code (6 : Nat) (Option.some Jvm.ClassFile.FieldType.boolean)) ∈ BIG := big_in (i := 135) rfl rfl
theorem mw_136 : (Jvm.Cond.constantDouble "SortLineEvents" (82 : Nat) (4602678819172646912 : UInt64)) ∈ BIG := big_in (i := 136) (by decide +kernel) rfl
theorem mw_137 : (Jvm.Cond.instantiable "SortLineEvents$Belt" (10 : Nat)) ∈ BIG := big_in (i := 137) (by decide +kernel) rfl
theorem mw_138 : (Jvm.Cond.methodLink "SortLineEvents" (84 : Nat) ({ cls := "SortLineEvents$Belt", name := "<init>", desc := "(IID)V" } : Jvm.MethodName)) ∈ BIG := big_in (i := 138) (by decide +kernel) rfl
theorem mw_139 : (Jvm.Cond.instanceMethod ({ cls := "SortLineEvents$Belt", name := "<init>", desc := "(IID)V" } : Jvm.MethodName)) ∈ BIG := big_in (i := 139) (by decide +kernel) rfl
set_option maxRecDepth 100000 in
theorem mw_140 : (Jvm.Cond.code ({ cls := "SortLineEvents$Belt", name := "<init>", desc := "(IID)V" } : Jvm.MethodName) prog_2_method_1_code (6 : Nat) (Option.none : Option Jvm.ClassFile.FieldType)) ∈ BIG := big_in (i := 140) rfl rfl
theorem mw_141 : (Jvm.Cond.methodLink "SortLineEvents$Belt" (3 : Nat) ({ cls := "java/lang/Object", name := "<init>", desc := "()V" } : Jvm.MethodName)) ∈ BIG := big_in (i := 141) (by decide +kernel) rfl
theorem mw_142 : (Jvm.Cond.classLink "SortLineEvents$Belt" (9 : Nat) "SortLineEvents$Outs") ∈ BIG := big_in (i := 142) (by decide +kernel) rfl
theorem mw_144 : (Jvm.Cond.instantiable "SortLineEvents$Outs" (4 : Nat)) ∈ BIG := big_in (i := 144) (by decide +kernel) rfl
theorem mw_146 : (Jvm.Cond.instanceMethod ({ cls := "SortLineEvents$Outs", name := "<init>", desc := "()V" } : Jvm.MethodName)) ∈ BIG := big_in (i := 146) (by decide +kernel) rfl
set_option maxRecDepth 100000 in
theorem mw_147 : (Jvm.Cond.code ({ cls := "SortLineEvents$Outs", name := "<init>", desc := "()V" } : Jvm.MethodName) prog_6_method_1_code (1 : Nat) (Option.none : Option Jvm.ClassFile.FieldType)) ∈ BIG := big_in (i := 147) rfl rfl
theorem mw_148 : (Jvm.Cond.methodLink "SortLineEvents$Outs" (1 : Nat) ({ cls := "java/lang/Object", name := "<init>", desc := "()V" } : Jvm.MethodName)) ∈ BIG := big_in (i := 148) (by decide +kernel) rfl
theorem mw_149 : (Jvm.Cond.fieldLink "SortLineEvents$Outs" (13 : Nat) "SortLineEvents$Outs" "count" "I") ∈ BIG := big_in (i := 149) (by decide +kernel) rfl
theorem mw_150 : (Jvm.Cond.fieldLink "SortLineEvents" (184 : Nat) "SortLineEvents$Outs" "count" "I") ∈ BIG := big_in (i := 150) (by decide +kernel) rfl
theorem mw_151 : (Jvm.Cond.fieldLink "SortLineEvents$Outs" (7 : Nat) "SortLineEvents$Outs" "lastTime" "I") ∈ BIG := big_in (i := 151) (by decide +kernel) rfl
theorem mw_152 : (Jvm.Cond.fieldLink "SortLineEvents$Outs" (16 : Nat) "SortLineEvents$Outs" "leastGap" "I") ∈ BIG := big_in (i := 152) (by decide +kernel) rfl
theorem mw_153 : (Jvm.Cond.fieldLink "SortLineEvents" (202 : Nat) "SortLineEvents$Outs" "leastGap" "I") ∈ BIG := big_in (i := 153) (by decide +kernel) rfl
theorem mw_154 : (Jvm.Cond.fieldLink "SortLineEvents$Outs" (19 : Nat) "SortLineEvents$Outs" "greatestGap" "I") ∈ BIG := big_in (i := 154) (by decide +kernel) rfl
theorem mw_155 : (Jvm.Cond.fieldLink "SortLineEvents" (205 : Nat) "SortLineEvents$Outs" "greatestGap" "I") ∈ BIG := big_in (i := 155) (by decide +kernel) rfl
theorem mw_165 : (Jvm.Cond.fieldLink "SortLineEvents$Belt" (17 : Nat) "SortLineEvents$Belt" "number" "I") ∈ BIG := big_in (i := 165) (by decide +kernel) rfl
theorem mw_166 : (Jvm.Cond.fieldLink "SortLineEvents" (255 : Nat) "SortLineEvents$Belt" "number" "I") ∈ BIG := big_in (i := 166) (by decide +kernel) rfl
theorem mw_167 : (Jvm.Cond.fieldLink "SortLineEvents$Belt" (21 : Nat) "SortLineEvents$Belt" "tenths" "I") ∈ BIG := big_in (i := 167) (by decide +kernel) rfl
theorem mw_168 : (Jvm.Cond.fieldLink "SortLineEvents" (243 : Nat) "SortLineEvents$Belt" "tenths" "I") ∈ BIG := big_in (i := 168) (by decide +kernel) rfl
theorem mw_169 : (Jvm.Cond.fieldLink "SortLineEvents$Belt" (24 : Nat) "SortLineEvents$Belt" "length" "D") ∈ BIG := big_in (i := 169) (by decide +kernel) rfl
theorem mw_170 : (Jvm.Cond.fieldLink "SortLineEvents" (94 : Nat) "SortLineEvents$Belt" "length" "D") ∈ BIG := big_in (i := 170) (by decide +kernel) rfl
theorem mw_171 : (Jvm.Cond.fieldLink "SortLineEvents$Belt" (11 : Nat) "SortLineEvents$Belt" "outs" "[LSortLineEvents$Outs;") ∈ BIG := big_in (i := 171) (by decide +kernel) rfl
theorem mw_172 : (Jvm.Cond.fieldLink "SortLineEvents" (180 : Nat) "SortLineEvents$Belt" "outs" "[LSortLineEvents$Outs;") ∈ BIG := big_in (i := 172) (by decide +kernel) rfl
theorem mw_173 : (Jvm.Cond.fieldLink "SortLineEvents" (117 : Nat) "SortLineEvents$Belt" "nextBelt" "LSortLineEvents$Belt;") ∈ BIG := big_in (i := 173) (by decide +kernel) rfl
theorem mw_174 : (Jvm.Cond.fieldLink "SortLineEvents" (121 : Nat) "SortLineEvents$Belt" "nextBunker" "LSortLineEvents$Bunker;") ∈ BIG := big_in (i := 174) (by decide +kernel) rfl
theorem mw_175 : (Jvm.Cond.fieldLink "SortLineEvents" (125 : Nat) "SortLineEvents$Belt" "hasRule" "Z") ∈ BIG := big_in (i := 175) (by decide +kernel) rfl
theorem mw_176 : (Jvm.Cond.fieldLink "SortLineEvents" (129 : Nat) "SortLineEvents$Belt" "load" "D") ∈ BIG := big_in (i := 176) (by decide +kernel) rfl
theorem mw_177 : (Jvm.Cond.fieldLink "SortLineEvents" (132 : Nat) "SortLineEvents$Belt" "stands" "I") ∈ BIG := big_in (i := 177) (by decide +kernel) rfl
theorem mw_178 : (Jvm.Cond.fieldLink "SortLineEvents$Belt" (29 : Nat) "SortLineEvents$Belt" "standsUntil" "I") ∈ BIG := big_in (i := 178) (by decide +kernel) rfl
theorem mw_179 : (Jvm.Cond.fieldLink "SortLineEvents" (270 : Nat) "SortLineEvents$Belt" "standsUntil" "I") ∈ BIG := big_in (i := 179) (by decide +kernel) rfl
theorem mw_201 : (Jvm.Cond.methodLink "SortLineEventsLaw" (28 : Nat) ({ cls := "SortLineEvents", name := "head", desc := "(IDD)I" } : Jvm.MethodName)) ∈ BIG := big_in (i := 201) (by decide +kernel) rfl
theorem mw_202 : (Jvm.Cond.instanceMethod ({ cls := "SortLineEvents", name := "head", desc := "(IDD)I" } : Jvm.MethodName)) ∈ BIG := big_in (i := 202) (by decide +kernel) rfl
theorem mw_203 : (Jvm.Cond.selects "SortLineEvents" ({ cls := "SortLineEvents", name := "head", desc := "(IDD)I" } : Jvm.MethodName) ({ cls := "SortLineEvents", name := "head", desc := "(IDD)I" } : Jvm.MethodName)) ∈ BIG := big_in (i := 203) (by decide +kernel) rfl
set_option maxRecDepth 100000 in
theorem mw_204 : (Jvm.Cond.code ({ cls := "SortLineEvents", name := "head", desc := "(IDD)I" } : Jvm.MethodName) prog_1_method_3_code (8 : Nat) (Option.some Jvm.ClassFile.FieldType.int)) ∈ BIG := big_in (i := 204) rfl rfl
theorem mw_205 : (Jvm.Cond.methodLink "SortLineEvents" (87 : Nat) ({ cls := "SortLineEvents", name := "beltNumbered", desc := "(I)LSortLineEvents$Belt;" } : Jvm.MethodName)) ∈ BIG := big_in (i := 205) (by decide +kernel) rfl
theorem mw_207 : (Jvm.Cond.instanceMethod ({ cls := "SortLineEvents", name := "beltNumbered", desc := "(I)LSortLineEvents$Belt;" } : Jvm.MethodName)) ∈ BIG := big_in (i := 207) (by decide +kernel) rfl
set_option maxRecDepth 100000 in
theorem mw_208 : (Jvm.Cond.code ({ cls := "SortLineEvents", name := "beltNumbered", desc := "(I)LSortLineEvents$Belt;" } : Jvm.MethodName) prog_1_method_22_code (2 : Nat) (Option.some (Jvm.ClassFile.FieldType.object "SortLineEvents$Belt"))) ∈ BIG := big_in (i := 208) rfl rfl
theorem mw_209 : (Jvm.Cond.instantiable "SortLineEvents$Head" (3 : Nat)) ∈ BIG := big_in (i := 209) (by decide +kernel) rfl
theorem mw_210 : (Jvm.Cond.methodLink "SortLineEvents" (98 : Nat) ({ cls := "SortLineEvents$Belt", name := "placeOf", desc := "(D)I" } : Jvm.MethodName)) ∈ BIG := big_in (i := 210) (by decide +kernel) rfl
theorem mw_211 : (Jvm.Cond.instanceMethod ({ cls := "SortLineEvents$Belt", name := "placeOf", desc := "(D)I" } : Jvm.MethodName)) ∈ BIG := big_in (i := 211) (by decide +kernel) rfl
theorem mw_212 : (Jvm.Cond.selects "SortLineEvents$Belt" ({ cls := "SortLineEvents$Belt", name := "placeOf", desc := "(D)I" } : Jvm.MethodName) ({ cls := "SortLineEvents$Belt", name := "placeOf", desc := "(D)I" } : Jvm.MethodName)) ∈ BIG := big_in (i := 212) (by decide +kernel) rfl
set_option maxRecDepth 100000 in
theorem mw_213 : (Jvm.Cond.code ({ cls := "SortLineEvents$Belt", name := "placeOf", desc := "(D)I" } : Jvm.MethodName) prog_2_method_2_code (3 : Nat) (Option.some Jvm.ClassFile.FieldType.int)) ∈ BIG := big_in (i := 213) rfl rfl
theorem mw_214 : (Jvm.Cond.methodLink "SortLineEvents" (102 : Nat) ({ cls := "SortLineEvents$Head", name := "<init>", desc := "(LSortLineEvents$Belt;ID)V" } : Jvm.MethodName)) ∈ BIG := big_in (i := 214) (by decide +kernel) rfl
theorem mw_215 : (Jvm.Cond.instanceMethod ({ cls := "SortLineEvents$Head", name := "<init>", desc := "(LSortLineEvents$Belt;ID)V" } : Jvm.MethodName)) ∈ BIG := big_in (i := 215) (by decide +kernel) rfl
set_option maxRecDepth 100000 in
theorem mw_216 : (Jvm.Cond.code ({ cls := "SortLineEvents$Head", name := "<init>", desc := "(LSortLineEvents$Belt;ID)V" } : Jvm.MethodName) prog_4_method_1_code (5 : Nat) (Option.none : Option Jvm.ClassFile.FieldType)) ∈ BIG := big_in (i := 216) rfl rfl
theorem mw_217 : (Jvm.Cond.methodLink "SortLineEvents$Head" (1 : Nat) ({ cls := "java/lang/Object", name := "<init>", desc := "()V" } : Jvm.MethodName)) ∈ BIG := big_in (i := 217) (by decide +kernel) rfl
theorem mw_218 : (Jvm.Cond.fieldLink "SortLineEvents$Head" (7 : Nat) "SortLineEvents$Head" "belt" "LSortLineEvents$Belt;") ∈ BIG := big_in (i := 218) (by decide +kernel) rfl
theorem mw_219 : (Jvm.Cond.fieldLink "SortLineEvents" (273 : Nat) "SortLineEvents$Head" "belt" "LSortLineEvents$Belt;") ∈ BIG := big_in (i := 219) (by decide +kernel) rfl
theorem mw_220 : (Jvm.Cond.fieldLink "SortLineEvents$Head" (13 : Nat) "SortLineEvents$Head" "place" "I") ∈ BIG := big_in (i := 220) (by decide +kernel) rfl
theorem mw_221 : (Jvm.Cond.fieldLink "SortLineEvents" (274 : Nat) "SortLineEvents$Head" "place" "I") ∈ BIG := big_in (i := 221) (by decide +kernel) rfl
theorem mw_222 : (Jvm.Cond.fieldLink "SortLineEvents$Head" (17 : Nat) "SortLineEvents$Head" "miss" "D") ∈ BIG := big_in (i := 222) (by decide +kernel) rfl
theorem mw_223 : (Jvm.Cond.fieldLink "SortLineEvents" (279 : Nat) "SortLineEvents$Head" "miss" "D") ∈ BIG := big_in (i := 223) (by decide +kernel) rfl
theorem mw_231 : (Jvm.Cond.methodLink "SortLineEventsLaw" (33 : Nat) ({ cls := "SortLineEvents", name := "bunker", desc := "(D)I" } : Jvm.MethodName)) ∈ BIG := big_in (i := 231) (by decide +kernel) rfl
theorem mw_232 : (Jvm.Cond.instanceMethod ({ cls := "SortLineEvents", name := "bunker", desc := "(D)I" } : Jvm.MethodName)) ∈ BIG := big_in (i := 232) (by decide +kernel) rfl
theorem mw_233 : (Jvm.Cond.selects "SortLineEvents" ({ cls := "SortLineEvents", name := "bunker", desc := "(D)I" } : Jvm.MethodName) ({ cls := "SortLineEvents", name := "bunker", desc := "(D)I" } : Jvm.MethodName)) ∈ BIG := big_in (i := 233) (by decide +kernel) rfl
set_option maxRecDepth 100000 in
theorem mw_234 : (Jvm.Cond.code ({ cls := "SortLineEvents", name := "bunker", desc := "(D)I" } : Jvm.MethodName) prog_1_method_4_code (4 : Nat) (Option.some Jvm.ClassFile.FieldType.int)) ∈ BIG := big_in (i := 234) rfl rfl
theorem mw_235 : (Jvm.Cond.constantDouble "SortLineEvents" (108 : Nat) (4666723172467343360 : UInt64)) ∈ BIG := big_in (i := 235) (by decide +kernel) rfl
theorem mw_236 : (Jvm.Cond.instantiable "SortLineEvents$Bunker" (3 : Nat)) ∈ BIG := big_in (i := 236) (by decide +kernel) rfl
theorem mw_237 : (Jvm.Cond.methodLink "SortLineEvents" (110 : Nat) ({ cls := "SortLineEvents$Bunker", name := "<init>", desc := "(ID)V" } : Jvm.MethodName)) ∈ BIG := big_in (i := 237) (by decide +kernel) rfl
theorem mw_238 : (Jvm.Cond.instanceMethod ({ cls := "SortLineEvents$Bunker", name := "<init>", desc := "(ID)V" } : Jvm.MethodName)) ∈ BIG := big_in (i := 238) (by decide +kernel) rfl
set_option maxRecDepth 100000 in
theorem mw_239 : (Jvm.Cond.code ({ cls := "SortLineEvents$Bunker", name := "<init>", desc := "(ID)V" } : Jvm.MethodName) prog_3_method_1_code (4 : Nat) (Option.none : Option Jvm.ClassFile.FieldType)) ∈ BIG := big_in (i := 239) rfl rfl
theorem mw_240 : (Jvm.Cond.methodLink "SortLineEvents$Bunker" (1 : Nat) ({ cls := "java/lang/Object", name := "<init>", desc := "()V" } : Jvm.MethodName)) ∈ BIG := big_in (i := 240) (by decide +kernel) rfl
theorem mw_241 : (Jvm.Cond.fieldLink "SortLineEvents$Bunker" (7 : Nat) "SortLineEvents$Bunker" "number" "I") ∈ BIG := big_in (i := 241) (by decide +kernel) rfl
theorem mw_242 : (Jvm.Cond.fieldLink "SortLineEvents" (319 : Nat) "SortLineEvents$Bunker" "number" "I") ∈ BIG := big_in (i := 242) (by decide +kernel) rfl
theorem mw_243 : (Jvm.Cond.fieldLink "SortLineEvents$Bunker" (13 : Nat) "SortLineEvents$Bunker" "room" "D") ∈ BIG := big_in (i := 243) (by decide +kernel) rfl
theorem mw_244 : (Jvm.Cond.fieldLink "SortLineEvents" (316 : Nat) "SortLineEvents$Bunker" "room" "D") ∈ BIG := big_in (i := 244) (by decide +kernel) rfl
theorem mw_245 : (Jvm.Cond.fieldLink "SortLineEvents" (313 : Nat) "SortLineEvents$Bunker" "filled" "D") ∈ BIG := big_in (i := 245) (by decide +kernel) rfl
theorem mw_253 : (Jvm.Cond.methodLink "SortLineEventsLaw" (38 : Nat) ({ cls := "SortLineEvents", name := "joinTo", desc := "(II)Z" } : Jvm.MethodName)) ∈ BIG := big_in (i := 253) (by decide +kernel) rfl
theorem mw_254 : (Jvm.Cond.instanceMethod ({ cls := "SortLineEvents", name := "joinTo", desc := "(II)Z" } : Jvm.MethodName)) ∈ BIG := big_in (i := 254) (by decide +kernel) rfl
theorem mw_255 : (Jvm.Cond.selects "SortLineEvents" ({ cls := "SortLineEvents", name := "joinTo", desc := "(II)Z" } : Jvm.MethodName) ({ cls := "SortLineEvents", name := "joinTo", desc := "(II)Z" } : Jvm.MethodName)) ∈ BIG := big_in (i := 255) (by decide +kernel) rfl
set_option maxRecDepth 100000 in
theorem mw_256 : (Jvm.Cond.code ({ cls := "SortLineEvents", name := "joinTo", desc := "(II)Z" } : Jvm.MethodName) prog_1_method_5_code (6 : Nat) (Option.some Jvm.ClassFile.FieldType.boolean)) ∈ BIG := big_in (i := 256) rfl rfl
theorem mw_257 : (Jvm.Cond.methodLink "SortLineEvents" (113 : Nat) ({ cls := "SortLineEvents", name := "bunkerJoinedBy", desc := "(I)LSortLineEvents$Bunker;" } : Jvm.MethodName)) ∈ BIG := big_in (i := 257) (by decide +kernel) rfl
theorem mw_259 : (Jvm.Cond.instanceMethod ({ cls := "SortLineEvents", name := "bunkerJoinedBy", desc := "(I)LSortLineEvents$Bunker;" } : Jvm.MethodName)) ∈ BIG := big_in (i := 259) (by decide +kernel) rfl
set_option maxRecDepth 100000 in
theorem mw_260 : (Jvm.Cond.code ({ cls := "SortLineEvents", name := "bunkerJoinedBy", desc := "(I)LSortLineEvents$Bunker;" } : Jvm.MethodName) prog_1_method_23_code (3 : Nat) (Option.some (Jvm.ClassFile.FieldType.object "SortLineEvents$Bunker"))) ∈ BIG := big_in (i := 260) rfl rfl
theorem mw_261 : (Jvm.Cond.methodLink "SortLineEventsLaw" (43 : Nat) ({ cls := "SortLineEvents", name := "rule", desc := "(IDI)Z" } : Jvm.MethodName)) ∈ BIG := big_in (i := 261) (by decide +kernel) rfl
theorem mw_262 : (Jvm.Cond.instanceMethod ({ cls := "SortLineEvents", name := "rule", desc := "(IDI)Z" } : Jvm.MethodName)) ∈ BIG := big_in (i := 262) (by decide +kernel) rfl
theorem mw_263 : (Jvm.Cond.selects "SortLineEvents" ({ cls := "SortLineEvents", name := "rule", desc := "(IDI)Z" } : Jvm.MethodName) ({ cls := "SortLineEvents", name := "rule", desc := "(IDI)Z" } : Jvm.MethodName)) ∈ BIG := big_in (i := 263) (by decide +kernel) rfl
set_option maxRecDepth 100000 in
theorem mw_264 : (Jvm.Cond.code ({ cls := "SortLineEvents", name := "rule", desc := "(IDI)Z" } : Jvm.MethodName) prog_1_method_6_code (6 : Nat) (Option.some Jvm.ClassFile.FieldType.boolean)) ∈ BIG := big_in (i := 264) rfl rfl
theorem mw_265 : (Jvm.Cond.methodLink "SortLineEventsLaw" (48 : Nat) ({ cls := "SortLineEvents", name := "picker", desc := "(IDD)I" } : Jvm.MethodName)) ∈ BIG := big_in (i := 265) (by decide +kernel) rfl
theorem mw_266 : (Jvm.Cond.instanceMethod ({ cls := "SortLineEvents", name := "picker", desc := "(IDD)I" } : Jvm.MethodName)) ∈ BIG := big_in (i := 266) (by decide +kernel) rfl
theorem mw_267 : (Jvm.Cond.selects "SortLineEvents" ({ cls := "SortLineEvents", name := "picker", desc := "(IDD)I" } : Jvm.MethodName) ({ cls := "SortLineEvents", name := "picker", desc := "(IDD)I" } : Jvm.MethodName)) ∈ BIG := big_in (i := 267) (by decide +kernel) rfl
set_option maxRecDepth 100000 in
theorem mw_268 : (Jvm.Cond.code ({ cls := "SortLineEvents", name := "picker", desc := "(IDD)I" } : Jvm.MethodName) prog_1_method_7_code (8 : Nat) (Option.some Jvm.ClassFile.FieldType.int)) ∈ BIG := big_in (i := 268) rfl rfl
theorem mw_269 : (Jvm.Cond.constantDouble "SortLineEvents" (138 : Nat) (4593671619917905920 : UInt64)) ∈ BIG := big_in (i := 269) (by decide +kernel) rfl
theorem mw_270 : (Jvm.Cond.constantDouble "SortLineEvents" (140 : Nat) (4636737291354636288 : UInt64)) ∈ BIG := big_in (i := 270) (by decide +kernel) rfl
theorem mw_271 : (Jvm.Cond.constantDouble "SortLineEvents" (142 : Nat) (4621819117588971520 : UInt64)) ∈ BIG := big_in (i := 271) (by decide +kernel) rfl
theorem mw_272 : (Jvm.Cond.instantiable "SortLineEvents$Picker" (5 : Nat)) ∈ BIG := big_in (i := 272) (by decide +kernel) rfl
theorem mw_273 : (Jvm.Cond.methodLink "SortLineEvents" (144 : Nat) ({ cls := "SortLineEvents$Picker", name := "<init>", desc := "(LSortLineEvents$Belt;DD)V" } : Jvm.MethodName)) ∈ BIG := big_in (i := 273) (by decide +kernel) rfl
theorem mw_274 : (Jvm.Cond.instanceMethod ({ cls := "SortLineEvents$Picker", name := "<init>", desc := "(LSortLineEvents$Belt;DD)V" } : Jvm.MethodName)) ∈ BIG := big_in (i := 274) (by decide +kernel) rfl
set_option maxRecDepth 100000 in
theorem mw_275 : (Jvm.Cond.code ({ cls := "SortLineEvents$Picker", name := "<init>", desc := "(LSortLineEvents$Belt;DD)V" } : Jvm.MethodName) prog_7_method_1_code (6 : Nat) (Option.none : Option Jvm.ClassFile.FieldType)) ∈ BIG := big_in (i := 275) rfl rfl
theorem mw_276 : (Jvm.Cond.methodLink "SortLineEvents$Picker" (1 : Nat) ({ cls := "java/lang/Object", name := "<init>", desc := "()V" } : Jvm.MethodName)) ∈ BIG := big_in (i := 276) (by decide +kernel) rfl
theorem mw_277 : (Jvm.Cond.fieldLink "SortLineEvents$Picker" (7 : Nat) "SortLineEvents$Picker" "belt" "LSortLineEvents$Belt;") ∈ BIG := big_in (i := 277) (by decide +kernel) rfl
theorem mw_278 : (Jvm.Cond.fieldLink "SortLineEvents" (306 : Nat) "SortLineEvents$Picker" "belt" "LSortLineEvents$Belt;") ∈ BIG := big_in (i := 278) (by decide +kernel) rfl
theorem mw_279 : (Jvm.Cond.fieldLink "SortLineEvents$Picker" (13 : Nat) "SortLineEvents$Picker" "rate" "D") ∈ BIG := big_in (i := 279) (by decide +kernel) rfl
theorem mw_280 : (Jvm.Cond.fieldLink "SortLineEvents$Picker" (17 : Nat) "SortLineEvents$Picker" "tires" "D") ∈ BIG := big_in (i := 280) (by decide +kernel) rfl
theorem mw_281 : (Jvm.Cond.fieldLink "SortLineEvents$Picker" (22 : Nat) "SortLineEvents$Picker" "took" "I") ∈ BIG := big_in (i := 281) (by decide +kernel) rfl
theorem mw_282 : (Jvm.Cond.fieldLink "SortLineEvents$Picker" (26 : Nat) "SortLineEvents$Picker" "freeFrom" "I") ∈ BIG := big_in (i := 282) (by decide +kernel) rfl
theorem mw_283 : (Jvm.Cond.fieldLink "SortLineEvents" (307 : Nat) "SortLineEvents$Picker" "freeFrom" "I") ∈ BIG := big_in (i := 283) (by decide +kernel) rfl
theorem mw_295 : (Jvm.Cond.methodLink "SortLineEventsLaw" (52 : Nat) ({ cls := "SortLineEvents", name := "robot", desc := "(IDD)I" } : Jvm.MethodName)) ∈ BIG := big_in (i := 295) (by decide +kernel) rfl
theorem mw_296 : (Jvm.Cond.instanceMethod ({ cls := "SortLineEvents", name := "robot", desc := "(IDD)I" } : Jvm.MethodName)) ∈ BIG := big_in (i := 296) (by decide +kernel) rfl
theorem mw_297 : (Jvm.Cond.selects "SortLineEvents" ({ cls := "SortLineEvents", name := "robot", desc := "(IDD)I" } : Jvm.MethodName) ({ cls := "SortLineEvents", name := "robot", desc := "(IDD)I" } : Jvm.MethodName)) ∈ BIG := big_in (i := 297) (by decide +kernel) rfl
set_option maxRecDepth 100000 in
theorem mw_298 : (Jvm.Cond.code ({ cls := "SortLineEvents", name := "robot", desc := "(IDD)I" } : Jvm.MethodName) prog_1_method_8_code (8 : Nat) (Option.some Jvm.ClassFile.FieldType.int)) ∈ BIG := big_in (i := 298) rfl rfl
theorem mw_299 : (Jvm.Cond.instantiable "SortLineEvents$Robot" (3 : Nat)) ∈ BIG := big_in (i := 299) (by decide +kernel) rfl
theorem mw_300 : (Jvm.Cond.methodLink "SortLineEvents" (150 : Nat) ({ cls := "SortLineEvents$Robot", name := "<init>", desc := "(LSortLineEvents$Belt;DD)V" } : Jvm.MethodName)) ∈ BIG := big_in (i := 300) (by decide +kernel) rfl
theorem mw_301 : (Jvm.Cond.instanceMethod ({ cls := "SortLineEvents$Robot", name := "<init>", desc := "(LSortLineEvents$Belt;DD)V" } : Jvm.MethodName)) ∈ BIG := big_in (i := 301) (by decide +kernel) rfl
set_option maxRecDepth 100000 in
theorem mw_302 : (Jvm.Cond.code ({ cls := "SortLineEvents$Robot", name := "<init>", desc := "(LSortLineEvents$Belt;DD)V" } : Jvm.MethodName) prog_9_method_1_code (6 : Nat) (Option.none : Option Jvm.ClassFile.FieldType)) ∈ BIG := big_in (i := 302) rfl rfl
theorem mw_303 : (Jvm.Cond.methodLink "SortLineEvents$Robot" (1 : Nat) ({ cls := "java/lang/Object", name := "<init>", desc := "()V" } : Jvm.MethodName)) ∈ BIG := big_in (i := 303) (by decide +kernel) rfl
theorem mw_304 : (Jvm.Cond.fieldLink "SortLineEvents$Robot" (7 : Nat) "SortLineEvents$Robot" "belt" "LSortLineEvents$Belt;") ∈ BIG := big_in (i := 304) (by decide +kernel) rfl
theorem mw_305 : (Jvm.Cond.fieldLink "SortLineEvents" (301 : Nat) "SortLineEvents$Robot" "belt" "LSortLineEvents$Belt;") ∈ BIG := big_in (i := 305) (by decide +kernel) rfl
theorem mw_306 : (Jvm.Cond.fieldLink "SortLineEvents$Robot" (13 : Nat) "SortLineEvents$Robot" "reach" "D") ∈ BIG := big_in (i := 306) (by decide +kernel) rfl
theorem mw_307 : (Jvm.Cond.fieldLink "SortLineEvents" (302 : Nat) "SortLineEvents$Robot" "reach" "D") ∈ BIG := big_in (i := 307) (by decide +kernel) rfl
theorem mw_308 : (Jvm.Cond.fieldLink "SortLineEvents$Robot" (17 : Nat) "SortLineEvents$Robot" "miss" "D") ∈ BIG := big_in (i := 308) (by decide +kernel) rfl
theorem mw_309 : (Jvm.Cond.fieldLink "SortLineEvents" (305 : Nat) "SortLineEvents$Robot" "miss" "D") ∈ BIG := big_in (i := 309) (by decide +kernel) rfl
theorem mw_317 : (Jvm.Cond.methodLink "SortLineEventsLaw" (56 : Nat) ({ cls := "SortLineEvents", name := "feed", desc := "(IIID)Z" } : Jvm.MethodName)) ∈ BIG := big_in (i := 317) (by decide +kernel) rfl
theorem mw_318 : (Jvm.Cond.instanceMethod ({ cls := "SortLineEvents", name := "feed", desc := "(IIID)Z" } : Jvm.MethodName)) ∈ BIG := big_in (i := 318) (by decide +kernel) rfl
theorem mw_319 : (Jvm.Cond.selects "SortLineEvents" ({ cls := "SortLineEvents", name := "feed", desc := "(IIID)Z" } : Jvm.MethodName) ({ cls := "SortLineEvents", name := "feed", desc := "(IIID)Z" } : Jvm.MethodName)) ∈ BIG := big_in (i := 319) (by decide +kernel) rfl
set_option maxRecDepth 100000 in
theorem mw_320 : (Jvm.Cond.code ({ cls := "SortLineEvents", name := "feed", desc := "(IIID)Z" } : Jvm.MethodName) prog_1_method_9_code (7 : Nat) (Option.some Jvm.ClassFile.FieldType.boolean)) ∈ BIG := big_in (i := 320) rfl rfl
theorem mw_321 : (Jvm.Cond.methodLink "SortLineEvents" (154 : Nat) ({ cls := "SortLineEvents", name := "isKind", desc := "(I)Z" } : Jvm.MethodName)) ∈ BIG := big_in (i := 321) (by decide +kernel) rfl
theorem mw_322 : (Jvm.Cond.static ({ cls := "SortLineEvents", name := "isKind", desc := "(I)Z" } : Jvm.MethodName)) ∈ BIG := big_in (i := 322) (by decide +kernel) rfl
set_option maxRecDepth 100000 in
theorem mw_323 : (Jvm.Cond.code ({ cls := "SortLineEvents", name := "isKind", desc := "(I)Z" } : Jvm.MethodName) prog_1_method_21_code (1 : Nat) (Option.some Jvm.ClassFile.FieldType.boolean)) ∈ BIG := big_in (i := 323) rfl rfl
theorem mw_324 : (Jvm.Cond.instantiable "SortLineEvents$Piece" (8 : Nat)) ∈ BIG := big_in (i := 324) (by decide +kernel) rfl
theorem mw_325 : (Jvm.Cond.methodLink "SortLineEvents" (161 : Nat) ({ cls := "SortLineEvents$Piece", name := "<init>", desc := "(ILSortLineEvents$Belt;IID)V" } : Jvm.MethodName)) ∈ BIG := big_in (i := 325) (by decide +kernel) rfl
theorem mw_326 : (Jvm.Cond.instanceMethod ({ cls := "SortLineEvents$Piece", name := "<init>", desc := "(ILSortLineEvents$Belt;IID)V" } : Jvm.MethodName)) ∈ BIG := big_in (i := 326) (by decide +kernel) rfl
set_option maxRecDepth 100000 in
theorem mw_327 : (Jvm.Cond.code ({ cls := "SortLineEvents$Piece", name := "<init>", desc := "(ILSortLineEvents$Belt;IID)V" } : Jvm.MethodName) prog_8_method_1_code (7 : Nat) (Option.none : Option Jvm.ClassFile.FieldType)) ∈ BIG := big_in (i := 327) rfl rfl
theorem mw_328 : (Jvm.Cond.methodLink "SortLineEvents$Piece" (1 : Nat) ({ cls := "java/lang/Object", name := "<init>", desc := "()V" } : Jvm.MethodName)) ∈ BIG := big_in (i := 328) (by decide +kernel) rfl
theorem mw_329 : (Jvm.Cond.fieldLink "SortLineEvents$Piece" (7 : Nat) "SortLineEvents$Piece" "number" "I") ∈ BIG := big_in (i := 329) (by decide +kernel) rfl
theorem mw_330 : (Jvm.Cond.fieldLink "SortLineEvents" (252 : Nat) "SortLineEvents$Piece" "number" "I") ∈ BIG := big_in (i := 330) (by decide +kernel) rfl
theorem mw_331 : (Jvm.Cond.fieldLink "SortLineEvents$Piece" (13 : Nat) "SortLineEvents$Piece" "firstBelt" "LSortLineEvents$Belt;") ∈ BIG := big_in (i := 331) (by decide +kernel) rfl
theorem mw_332 : (Jvm.Cond.fieldLink "SortLineEvents" (233 : Nat) "SortLineEvents$Piece" "firstBelt" "LSortLineEvents$Belt;") ∈ BIG := big_in (i := 332) (by decide +kernel) rfl
theorem mw_333 : (Jvm.Cond.fieldLink "SortLineEvents$Piece" (17 : Nat) "SortLineEvents$Piece" "time" "I") ∈ BIG := big_in (i := 333) (by decide +kernel) rfl
theorem mw_334 : (Jvm.Cond.fieldLink "SortLineEvents" (208 : Nat) "SortLineEvents$Piece" "time" "I") ∈ BIG := big_in (i := 334) (by decide +kernel) rfl
theorem mw_335 : (Jvm.Cond.fieldLink "SortLineEvents$Piece" (20 : Nat) "SortLineEvents$Piece" "kind" "I") ∈ BIG := big_in (i := 335) (by decide +kernel) rfl
theorem mw_336 : (Jvm.Cond.fieldLink "SortLineEvents" (211 : Nat) "SortLineEvents$Piece" "kind" "I") ∈ BIG := big_in (i := 336) (by decide +kernel) rfl
theorem mw_337 : (Jvm.Cond.fieldLink "SortLineEvents$Piece" (23 : Nat) "SortLineEvents$Piece" "size" "D") ∈ BIG := big_in (i := 337) (by decide +kernel) rfl
theorem mw_338 : (Jvm.Cond.fieldLink "SortLineEvents" (267 : Nat) "SortLineEvents$Piece" "size" "D") ∈ BIG := big_in (i := 338) (by decide +kernel) rfl
theorem mw_339 : (Jvm.Cond.fieldLink "SortLineEvents" (214 : Nat) "SortLineEvents$Piece" "belt" "LSortLineEvents$Belt;") ∈ BIG := big_in (i := 339) (by decide +kernel) rfl
theorem mw_340 : (Jvm.Cond.fieldLink "SortLineEvents" (230 : Nat) "SortLineEvents$Piece" "place" "I") ∈ BIG := big_in (i := 340) (by decide +kernel) rfl
theorem mw_341 : (Jvm.Cond.fieldLink "SortLineEvents" (227 : Nat) "SortLineEvents$Piece" "cameOn" "Z") ∈ BIG := big_in (i := 341) (by decide +kernel) rfl
theorem mw_359 : (Jvm.Cond.methodLink "SortLineEventsLaw" (61 : Nat) ({ cls := "SortLineEvents", name := "run", desc := "(I)I" } : Jvm.MethodName)) ∈ BIG := big_in (i := 359) (by decide +kernel) rfl
theorem mw_360 : (Jvm.Cond.instanceMethod ({ cls := "SortLineEvents", name := "run", desc := "(I)I" } : Jvm.MethodName)) ∈ BIG := big_in (i := 360) (by decide +kernel) rfl
theorem mw_361 : (Jvm.Cond.selects "SortLineEvents" ({ cls := "SortLineEvents", name := "run", desc := "(I)I" } : Jvm.MethodName) ({ cls := "SortLineEvents", name := "run", desc := "(I)I" } : Jvm.MethodName)) ∈ BIG := big_in (i := 361) (by decide +kernel) rfl
set_option maxRecDepth 100000 in
theorem mw_362 : (Jvm.Cond.code ({ cls := "SortLineEvents", name := "run", desc := "(I)I" } : Jvm.MethodName) prog_1_method_10_code (3 : Nat) (Option.some Jvm.ClassFile.FieldType.int)) ∈ BIG := big_in (i := 362) rfl rfl
theorem mw_363 : (Jvm.Cond.methodLink "SortLineEvents" (164 : Nat) ({ cls := "SortLineEvents$Tally", name := "atRest", desc := "()J" } : Jvm.MethodName)) ∈ BIG := big_in (i := 363) (by decide +kernel) rfl
theorem mw_364 : (Jvm.Cond.instanceMethod ({ cls := "SortLineEvents$Tally", name := "atRest", desc := "()J" } : Jvm.MethodName)) ∈ BIG := big_in (i := 364) (by decide +kernel) rfl
theorem mw_365 : (Jvm.Cond.selects "SortLineEvents$Tally" ({ cls := "SortLineEvents$Tally", name := "atRest", desc := "()J" } : Jvm.MethodName) ({ cls := "SortLineEvents$Tally", name := "atRest", desc := "()J" } : Jvm.MethodName)) ∈ BIG := big_in (i := 365) (by decide +kernel) rfl
set_option maxRecDepth 100000 in
theorem mw_366 : (Jvm.Cond.code ({ cls := "SortLineEvents$Tally", name := "atRest", desc := "()J" } : Jvm.MethodName) prog_10_method_2_code (1 : Nat) (Option.some Jvm.ClassFile.FieldType.long)) ∈ BIG := big_in (i := 366) rfl rfl
theorem mw_367 : (Jvm.Cond.methodLink "SortLineEvents" (168 : Nat) ({ cls := "SortLineEvents", name := "passOneTenth", desc := "()V" } : Jvm.MethodName)) ∈ BIG := big_in (i := 367) (by decide +kernel) rfl
theorem mw_369 : (Jvm.Cond.instanceMethod ({ cls := "SortLineEvents", name := "passOneTenth", desc := "()V" } : Jvm.MethodName)) ∈ BIG := big_in (i := 369) (by decide +kernel) rfl
set_option maxRecDepth 100000 in
theorem mw_370 : (Jvm.Cond.code ({ cls := "SortLineEvents", name := "passOneTenth", desc := "()V" } : Jvm.MethodName) prog_1_method_25_code (2 : Nat) (Option.none : Option Jvm.ClassFile.FieldType)) ∈ BIG := big_in (i := 370) rfl rfl
theorem mw_371 : (Jvm.Cond.methodLink "SortLineEvents" (217 : Nat) ({ cls := "SortLineEvents", name := "comeOn", desc := "(LSortLineEvents$Piece;)V" } : Jvm.MethodName)) ∈ BIG := big_in (i := 371) (by decide +kernel) rfl
theorem mw_373 : (Jvm.Cond.instanceMethod ({ cls := "SortLineEvents", name := "comeOn", desc := "(LSortLineEvents$Piece;)V" } : Jvm.MethodName)) ∈ BIG := big_in (i := 373) (by decide +kernel) rfl
set_option maxRecDepth 100000 in
theorem mw_374 : (Jvm.Cond.code ({ cls := "SortLineEvents", name := "comeOn", desc := "(LSortLineEvents$Piece;)V" } : Jvm.MethodName) prog_1_method_26_code (3 : Nat) (Option.none : Option Jvm.ClassFile.FieldType)) ∈ BIG := big_in (i := 374) rfl rfl
theorem mw_375 : (Jvm.Cond.methodLink "SortLineEvents" (224 : Nat) ({ cls := "SortLineEvents$Belt", name := "movesAt", desc := "(I)Z" } : Jvm.MethodName)) ∈ BIG := big_in (i := 375) (by decide +kernel) rfl
theorem mw_376 : (Jvm.Cond.instanceMethod ({ cls := "SortLineEvents$Belt", name := "movesAt", desc := "(I)Z" } : Jvm.MethodName)) ∈ BIG := big_in (i := 376) (by decide +kernel) rfl
theorem mw_377 : (Jvm.Cond.selects "SortLineEvents$Belt" ({ cls := "SortLineEvents$Belt", name := "movesAt", desc := "(I)Z" } : Jvm.MethodName) ({ cls := "SortLineEvents$Belt", name := "movesAt", desc := "(I)Z" } : Jvm.MethodName)) ∈ BIG := big_in (i := 377) (by decide +kernel) rfl
set_option maxRecDepth 100000 in
theorem mw_378 : (Jvm.Cond.code ({ cls := "SortLineEvents$Belt", name := "movesAt", desc := "(I)Z" } : Jvm.MethodName) prog_2_method_3_code (2 : Nat) (Option.some Jvm.ClassFile.FieldType.boolean)) ∈ BIG := big_in (i := 378) rfl rfl
theorem mw_379 : (Jvm.Cond.methodLink "SortLineEvents" (221 : Nat) ({ cls := "SortLineEvents", name := "act", desc := "(LSortLineEvents$Piece;)V" } : Jvm.MethodName)) ∈ BIG := big_in (i := 379) (by decide +kernel) rfl
theorem mw_381 : (Jvm.Cond.instanceMethod ({ cls := "SortLineEvents", name := "act", desc := "(LSortLineEvents$Piece;)V" } : Jvm.MethodName)) ∈ BIG := big_in (i := 381) (by decide +kernel) rfl
set_option maxRecDepth 100000 in
theorem mw_382 : (Jvm.Cond.code ({ cls := "SortLineEvents", name := "act", desc := "(LSortLineEvents$Piece;)V" } : Jvm.MethodName) prog_1_method_27_code (3 : Nat) (Option.none : Option Jvm.ClassFile.FieldType)) ∈ BIG := big_in (i := 382) rfl rfl
theorem mw_383 : (Jvm.Cond.methodLink "SortLineEvents" (236 : Nat) ({ cls := "SortLineEvents", name := "enter", desc := "(LSortLineEvents$Piece;LSortLineEvents$Belt;)V" } : Jvm.MethodName)) ∈ BIG := big_in (i := 383) (by decide +kernel) rfl
theorem mw_385 : (Jvm.Cond.instanceMethod ({ cls := "SortLineEvents", name := "enter", desc := "(LSortLineEvents$Piece;LSortLineEvents$Belt;)V" } : Jvm.MethodName)) ∈ BIG := big_in (i := 385) (by decide +kernel) rfl
set_option maxRecDepth 100000 in
theorem mw_386 : (Jvm.Cond.code ({ cls := "SortLineEvents", name := "enter", desc := "(LSortLineEvents$Piece;LSortLineEvents$Belt;)V" } : Jvm.MethodName) prog_1_method_28_code (3 : Nat) (Option.none : Option Jvm.ClassFile.FieldType)) ∈ BIG := big_in (i := 386) rfl rfl
theorem mw_387 : (Jvm.Cond.methodLink "SortLineEvents" (249 : Nat) ({ cls := "SortLineEvents$Belt", name := "refusesAt", desc := "(I)Z" } : Jvm.MethodName)) ∈ BIG := big_in (i := 387) (by decide +kernel) rfl
theorem mw_388 : (Jvm.Cond.instanceMethod ({ cls := "SortLineEvents$Belt", name := "refusesAt", desc := "(I)Z" } : Jvm.MethodName)) ∈ BIG := big_in (i := 388) (by decide +kernel) rfl
theorem mw_389 : (Jvm.Cond.selects "SortLineEvents$Belt" ({ cls := "SortLineEvents$Belt", name := "refusesAt", desc := "(I)Z" } : Jvm.MethodName) ({ cls := "SortLineEvents$Belt", name := "refusesAt", desc := "(I)Z" } : Jvm.MethodName)) ∈ BIG := big_in (i := 389) (by decide +kernel) rfl
set_option maxRecDepth 100000 in
theorem mw_390 : (Jvm.Cond.code ({ cls := "SortLineEvents$Belt", name := "refusesAt", desc := "(I)Z" } : Jvm.MethodName) prog_2_method_4_code (2 : Nat) (Option.some Jvm.ClassFile.FieldType.boolean)) ∈ BIG := big_in (i := 390) rfl rfl
theorem mw_391 : (Jvm.Cond.methodLink "SortLineEvents" (256 : Nat) ({ cls := "SortLineEvents$Log", name := "add", desc := "(IIII)V" } : Jvm.MethodName)) ∈ BIG := big_in (i := 391) (by decide +kernel) rfl
theorem mw_392 : (Jvm.Cond.instanceMethod ({ cls := "SortLineEvents$Log", name := "add", desc := "(IIII)V" } : Jvm.MethodName)) ∈ BIG := big_in (i := 392) (by decide +kernel) rfl
theorem mw_393 : (Jvm.Cond.selects "SortLineEvents$Log" ({ cls := "SortLineEvents$Log", name := "add", desc := "(IIII)V" } : Jvm.MethodName) ({ cls := "SortLineEvents$Log", name := "add", desc := "(IIII)V" } : Jvm.MethodName)) ∈ BIG := big_in (i := 393) (by decide +kernel) rfl
set_option maxRecDepth 100000 in
theorem mw_394 : (Jvm.Cond.code ({ cls := "SortLineEvents$Log", name := "add", desc := "(IIII)V" } : Jvm.MethodName) prog_5_method_2_code (5 : Nat) (Option.none : Option Jvm.ClassFile.FieldType)) ∈ BIG := big_in (i := 394) rfl rfl
theorem mw_395 : (Jvm.Cond.methodLink "SortLineEvents" (260 : Nat) ({ cls := "SortLineEvents", name := "loadWith", desc := "(LSortLineEvents$Piece;LSortLineEvents$Belt;)D" } : Jvm.MethodName)) ∈ BIG := big_in (i := 395) (by decide +kernel) rfl
theorem mw_397 : (Jvm.Cond.instanceMethod ({ cls := "SortLineEvents", name := "loadWith", desc := "(LSortLineEvents$Piece;LSortLineEvents$Belt;)D" } : Jvm.MethodName)) ∈ BIG := big_in (i := 397) (by decide +kernel) rfl
set_option maxRecDepth 100000 in
theorem mw_398 : (Jvm.Cond.code ({ cls := "SortLineEvents", name := "loadWith", desc := "(LSortLineEvents$Piece;LSortLineEvents$Belt;)D" } : Jvm.MethodName) prog_1_method_29_code (7 : Nat) (Option.some Jvm.ClassFile.FieldType.double)) ∈ BIG := big_in (i := 398) rfl rfl
theorem mw_399 : (Jvm.Cond.methodLink "SortLineEvents" (264 : Nat) ({ cls := "SortLineEvents", name := "jamBy", desc := "(LSortLineEvents$Piece;LSortLineEvents$Belt;)V" } : Jvm.MethodName)) ∈ BIG := big_in (i := 399) (by decide +kernel) rfl
theorem mw_401 : (Jvm.Cond.instanceMethod ({ cls := "SortLineEvents", name := "jamBy", desc := "(LSortLineEvents$Piece;LSortLineEvents$Belt;)V" } : Jvm.MethodName)) ∈ BIG := big_in (i := 401) (by decide +kernel) rfl
set_option maxRecDepth 100000 in
theorem mw_402 : (Jvm.Cond.code ({ cls := "SortLineEvents", name := "jamBy", desc := "(LSortLineEvents$Piece;LSortLineEvents$Belt;)V" } : Jvm.MethodName) prog_1_method_30_code (5 : Nat) (Option.none : Option Jvm.ClassFile.FieldType)) ∈ BIG := big_in (i := 402) rfl rfl
theorem mw_403 : (Jvm.Cond.methodLink "SortLineEvents" (240 : Nat) ({ cls := "SortLineEvents", name := "passHeads", desc := "(LSortLineEvents$Piece;LSortLineEvents$Belt;)V" } : Jvm.MethodName)) ∈ BIG := big_in (i := 403) (by decide +kernel) rfl
theorem mw_405 : (Jvm.Cond.instanceMethod ({ cls := "SortLineEvents", name := "passHeads", desc := "(LSortLineEvents$Piece;LSortLineEvents$Belt;)V" } : Jvm.MethodName)) ∈ BIG := big_in (i := 405) (by decide +kernel) rfl
set_option maxRecDepth 100000 in
theorem mw_406 : (Jvm.Cond.code ({ cls := "SortLineEvents", name := "passHeads", desc := "(LSortLineEvents$Piece;LSortLineEvents$Belt;)V" } : Jvm.MethodName) prog_1_method_31_code (6 : Nat) (Option.none : Option Jvm.ClassFile.FieldType)) ∈ BIG := big_in (i := 406) rfl rfl
theorem mw_407 : (Jvm.Cond.methodLink "SortLineEvents" (275 : Nat) ({ cls := "SortLineEvents", name := "chance", desc := "(II)D" } : Jvm.MethodName)) ∈ BIG := big_in (i := 407) (by decide +kernel) rfl
theorem mw_409 : (Jvm.Cond.instanceMethod ({ cls := "SortLineEvents", name := "chance", desc := "(II)D" } : Jvm.MethodName)) ∈ BIG := big_in (i := 409) (by decide +kernel) rfl
set_option maxRecDepth 100000 in
theorem mw_410 : (Jvm.Cond.code ({ cls := "SortLineEvents", name := "chance", desc := "(II)D" } : Jvm.MethodName) prog_1_method_36_code (5 : Nat) (Option.some Jvm.ClassFile.FieldType.double)) ∈ BIG := big_in (i := 410) rfl rfl
theorem mw_411 : (Jvm.Cond.constantLong "SortLineEvents" (320 : Nat) (6364136223846793005 : Int64)) ∈ BIG := big_in (i := 411) (by decide +kernel) rfl
theorem mw_412 : (Jvm.Cond.constantLong "SortLineEvents" (322 : Nat) (1442695040888963407 : Int64)) ∈ BIG := big_in (i := 412) (by decide +kernel) rfl
theorem mw_413 : (Jvm.Cond.constantLong "SortLineEvents" (324 : Nat) (2862933555777941757 : Int64)) ∈ BIG := big_in (i := 413) (by decide +kernel) rfl
theorem mw_414 : (Jvm.Cond.constantLong "SortLineEvents" (326 : Nat) (-4658895280553007687 : Int64)) ∈ BIG := big_in (i := 414) (by decide +kernel) rfl
theorem mw_415 : (Jvm.Cond.constantDouble "SortLineEvents" (328 : Nat) (4845873199050653696 : UInt64)) ∈ BIG := big_in (i := 415) (by decide +kernel) rfl
theorem mw_416 : (Jvm.Cond.methodLink "SortLineEvents" (246 : Nat) ({ cls := "SortLineEvents", name := "leave", desc := "(LSortLineEvents$Piece;LSortLineEvents$Belt;)V" } : Jvm.MethodName)) ∈ BIG := big_in (i := 416) (by decide +kernel) rfl
theorem mw_418 : (Jvm.Cond.instanceMethod ({ cls := "SortLineEvents", name := "leave", desc := "(LSortLineEvents$Piece;LSortLineEvents$Belt;)V" } : Jvm.MethodName)) ∈ BIG := big_in (i := 418) (by decide +kernel) rfl
set_option maxRecDepth 100000 in
theorem mw_419 : (Jvm.Cond.code ({ cls := "SortLineEvents", name := "leave", desc := "(LSortLineEvents$Piece;LSortLineEvents$Belt;)V" } : Jvm.MethodName) prog_1_method_32_code (3 : Nat) (Option.none : Option Jvm.ClassFile.FieldType)) ∈ BIG := big_in (i := 419) rfl rfl
theorem mw_420 : (Jvm.Cond.methodLink "SortLineEvents" (282 : Nat) ({ cls := "SortLineEvents", name := "takenByRobot", desc := "(LSortLineEvents$Piece;LSortLineEvents$Belt;)Z" } : Jvm.MethodName)) ∈ BIG := big_in (i := 420) (by decide +kernel) rfl
theorem mw_422 : (Jvm.Cond.instanceMethod ({ cls := "SortLineEvents", name := "takenByRobot", desc := "(LSortLineEvents$Piece;LSortLineEvents$Belt;)Z" } : Jvm.MethodName)) ∈ BIG := big_in (i := 422) (by decide +kernel) rfl
set_option maxRecDepth 100000 in
theorem mw_423 : (Jvm.Cond.code ({ cls := "SortLineEvents", name := "takenByRobot", desc := "(LSortLineEvents$Piece;LSortLineEvents$Belt;)Z" } : Jvm.MethodName) prog_1_method_33_code (5 : Nat) (Option.some Jvm.ClassFile.FieldType.boolean)) ∈ BIG := big_in (i := 423) rfl rfl
theorem mw_424 : (Jvm.Cond.methodLink "SortLineEvents" (286 : Nat) ({ cls := "SortLineEvents", name := "takenByPicker", desc := "(LSortLineEvents$Piece;LSortLineEvents$Belt;)Z" } : Jvm.MethodName)) ∈ BIG := big_in (i := 424) (by decide +kernel) rfl
theorem mw_426 : (Jvm.Cond.instanceMethod ({ cls := "SortLineEvents", name := "takenByPicker", desc := "(LSortLineEvents$Piece;LSortLineEvents$Belt;)Z" } : Jvm.MethodName)) ∈ BIG := big_in (i := 426) (by decide +kernel) rfl
set_option maxRecDepth 100000 in
theorem mw_427 : (Jvm.Cond.code ({ cls := "SortLineEvents", name := "takenByPicker", desc := "(LSortLineEvents$Piece;LSortLineEvents$Belt;)Z" } : Jvm.MethodName) prog_1_method_34_code (5 : Nat) (Option.some Jvm.ClassFile.FieldType.boolean)) ∈ BIG := big_in (i := 427) rfl rfl
theorem mw_428 : (Jvm.Cond.methodLink "SortLineEvents" (310 : Nat) ({ cls := "SortLineEvents$Picker", name := "take", desc := "(I)V" } : Jvm.MethodName)) ∈ BIG := big_in (i := 428) (by decide +kernel) rfl
theorem mw_429 : (Jvm.Cond.instanceMethod ({ cls := "SortLineEvents$Picker", name := "take", desc := "(I)V" } : Jvm.MethodName)) ∈ BIG := big_in (i := 429) (by decide +kernel) rfl
theorem mw_430 : (Jvm.Cond.selects "SortLineEvents$Picker" ({ cls := "SortLineEvents$Picker", name := "take", desc := "(I)V" } : Jvm.MethodName) ({ cls := "SortLineEvents$Picker", name := "take", desc := "(I)V" } : Jvm.MethodName)) ∈ BIG := big_in (i := 430) (by decide +kernel) rfl
set_option maxRecDepth 100000 in
theorem mw_431 : (Jvm.Cond.code ({ cls := "SortLineEvents$Picker", name := "take", desc := "(I)V" } : Jvm.MethodName) prog_7_method_2_code (2 : Nat) (Option.none : Option Jvm.ClassFile.FieldType)) ∈ BIG := big_in (i := 431) rfl rfl
theorem mw_432 : (Jvm.Cond.constantDouble "SortLineEvents$Picker" (20 : Nat) (4621819117588971520 : UInt64)) ∈ BIG := big_in (i := 432) (by decide +kernel) rfl
theorem mw_433 : (Jvm.Cond.methodLink "SortLineEvents" (292 : Nat) ({ cls := "SortLineEvents", name := "fill", desc := "(LSortLineEvents$Piece;LSortLineEvents$Bunker;)V" } : Jvm.MethodName)) ∈ BIG := big_in (i := 433) (by decide +kernel) rfl
theorem mw_435 : (Jvm.Cond.instanceMethod ({ cls := "SortLineEvents", name := "fill", desc := "(LSortLineEvents$Piece;LSortLineEvents$Bunker;)V" } : Jvm.MethodName)) ∈ BIG := big_in (i := 435) (by decide +kernel) rfl
set_option maxRecDepth 100000 in
theorem mw_436 : (Jvm.Cond.code ({ cls := "SortLineEvents", name := "fill", desc := "(LSortLineEvents$Piece;LSortLineEvents$Bunker;)V" } : Jvm.MethodName) prog_1_method_35_code (5 : Nat) (Option.none : Option Jvm.ClassFile.FieldType)) ∈ BIG := big_in (i := 436) rfl rfl
theorem mw_437 : (Jvm.Cond.methodLink "SortLineEvents" (299 : Nat) ({ cls := "SortLineEvents$Outs", name := "add", desc := "(I)V" } : Jvm.MethodName)) ∈ BIG := big_in (i := 437) (by decide +kernel) rfl
theorem mw_438 : (Jvm.Cond.instanceMethod ({ cls := "SortLineEvents$Outs", name := "add", desc := "(I)V" } : Jvm.MethodName)) ∈ BIG := big_in (i := 438) (by decide +kernel) rfl
theorem mw_439 : (Jvm.Cond.selects "SortLineEvents$Outs" ({ cls := "SortLineEvents$Outs", name := "add", desc := "(I)V" } : Jvm.MethodName) ({ cls := "SortLineEvents$Outs", name := "add", desc := "(I)V" } : Jvm.MethodName)) ∈ BIG := big_in (i := 439) (by decide +kernel) rfl
set_option maxRecDepth 100000 in
theorem mw_440 : (Jvm.Cond.code ({ cls := "SortLineEvents$Outs", name := "add", desc := "(I)V" } : Jvm.MethodName) prog_6_method_2_code (3 : Nat) (Option.none : Option Jvm.ClassFile.FieldType)) ∈ BIG := big_in (i := 440) rfl rfl
theorem mw_441 : (Jvm.Cond.methodLink "SortLineEvents$Outs" (22 : Nat) ({ cls := "java/lang/Math", name := "min", desc := "(II)I" } : Jvm.MethodName)) ∈ BIG := big_in (i := 441) (by decide +kernel) rfl
theorem mw_442 : (Jvm.Cond.static ({ cls := "java/lang/Math", name := "min", desc := "(II)I" } : Jvm.MethodName)) ∈ BIG := big_in (i := 442) (by decide +kernel) rfl
set_option maxRecDepth 100000 in
theorem mw_443 : (Jvm.Cond.code ({ cls := "java/lang/Math", name := "min", desc := "(II)I" } : Jvm.MethodName) prog_13_method_69_code (2 : Nat) (Option.some Jvm.ClassFile.FieldType.int)) ∈ BIG := big_in (i := 443) rfl rfl
theorem mw_444 : (Jvm.Cond.methodLink "SortLineEvents$Outs" (28 : Nat) ({ cls := "java/lang/Math", name := "max", desc := "(II)I" } : Jvm.MethodName)) ∈ BIG := big_in (i := 444) (by decide +kernel) rfl
theorem mw_445 : (Jvm.Cond.static ({ cls := "java/lang/Math", name := "max", desc := "(II)I" } : Jvm.MethodName)) ∈ BIG := big_in (i := 445) (by decide +kernel) rfl
set_option maxRecDepth 100000 in
theorem mw_446 : (Jvm.Cond.code ({ cls := "java/lang/Math", name := "max", desc := "(II)I" } : Jvm.MethodName) prog_13_method_65_code (2 : Nat) (Option.some Jvm.ClassFile.FieldType.int)) ∈ BIG := big_in (i := 446) rfl rfl
theorem mw_447 : (Jvm.Cond.methodLink "SortLineEventsLaw" (66 : Nat) ({ cls := "SortLineEvents", name := "event", desc := "(II)I" } : Jvm.MethodName)) ∈ BIG := big_in (i := 447) (by decide +kernel) rfl
theorem mw_448 : (Jvm.Cond.instanceMethod ({ cls := "SortLineEvents", name := "event", desc := "(II)I" } : Jvm.MethodName)) ∈ BIG := big_in (i := 448) (by decide +kernel) rfl
theorem mw_449 : (Jvm.Cond.selects "SortLineEvents" ({ cls := "SortLineEvents", name := "event", desc := "(II)I" } : Jvm.MethodName) ({ cls := "SortLineEvents", name := "event", desc := "(II)I" } : Jvm.MethodName)) ∈ BIG := big_in (i := 449) (by decide +kernel) rfl
set_option maxRecDepth 100000 in
theorem mw_450 : (Jvm.Cond.code ({ cls := "SortLineEvents", name := "event", desc := "(II)I" } : Jvm.MethodName) prog_1_method_11_code (3 : Nat) (Option.some Jvm.ClassFile.FieldType.int)) ∈ BIG := big_in (i := 450) rfl rfl
theorem mw_451 : (Jvm.Cond.methodLink "SortLineEvents" (174 : Nat) ({ cls := "SortLineEvents$Log", name := "part", desc := "(II)I" } : Jvm.MethodName)) ∈ BIG := big_in (i := 451) (by decide +kernel) rfl
theorem mw_452 : (Jvm.Cond.instanceMethod ({ cls := "SortLineEvents$Log", name := "part", desc := "(II)I" } : Jvm.MethodName)) ∈ BIG := big_in (i := 452) (by decide +kernel) rfl
theorem mw_453 : (Jvm.Cond.selects "SortLineEvents$Log" ({ cls := "SortLineEvents$Log", name := "part", desc := "(II)I" } : Jvm.MethodName) ({ cls := "SortLineEvents$Log", name := "part", desc := "(II)I" } : Jvm.MethodName)) ∈ BIG := big_in (i := 453) (by decide +kernel) rfl
set_option maxRecDepth 100000 in
theorem mw_454 : (Jvm.Cond.code ({ cls := "SortLineEvents$Log", name := "part", desc := "(II)I" } : Jvm.MethodName) prog_5_method_3_code (4 : Nat) (Option.some Jvm.ClassFile.FieldType.int)) ∈ BIG := big_in (i := 454) rfl rfl
theorem mw_455 : (Jvm.Cond.methodLink "SortLineEventsLaw" (71 : Nat) ({ cls := "SortLineEvents", name := "out", desc := "(II)J" } : Jvm.MethodName)) ∈ BIG := big_in (i := 455) (by decide +kernel) rfl
theorem mw_456 : (Jvm.Cond.instanceMethod ({ cls := "SortLineEvents", name := "out", desc := "(II)J" } : Jvm.MethodName)) ∈ BIG := big_in (i := 456) (by decide +kernel) rfl
theorem mw_457 : (Jvm.Cond.selects "SortLineEvents" ({ cls := "SortLineEvents", name := "out", desc := "(II)J" } : Jvm.MethodName) ({ cls := "SortLineEvents", name := "out", desc := "(II)J" } : Jvm.MethodName)) ∈ BIG := big_in (i := 457) (by decide +kernel) rfl
set_option maxRecDepth 100000 in
theorem mw_458 : (Jvm.Cond.code ({ cls := "SortLineEvents", name := "out", desc := "(II)J" } : Jvm.MethodName) prog_1_method_12_code (4 : Nat) (Option.some Jvm.ClassFile.FieldType.long)) ∈ BIG := big_in (i := 458) rfl rfl
theorem mw_459 : (Jvm.Cond.constantLong "SortLineEvents" (178 : Nat) (-1 : Int64)) ∈ BIG := big_in (i := 459) (by decide +kernel) rfl
theorem mw_460 : (Jvm.Cond.methodLink "SortLineEventsLaw" (76 : Nat) ({ cls := "SortLineEvents", name := "inside", desc := "()J" } : Jvm.MethodName)) ∈ BIG := big_in (i := 460) (by decide +kernel) rfl
theorem mw_461 : (Jvm.Cond.instanceMethod ({ cls := "SortLineEvents", name := "inside", desc := "()J" } : Jvm.MethodName)) ∈ BIG := big_in (i := 461) (by decide +kernel) rfl
theorem mw_462 : (Jvm.Cond.selects "SortLineEvents" ({ cls := "SortLineEvents", name := "inside", desc := "()J" } : Jvm.MethodName) ({ cls := "SortLineEvents", name := "inside", desc := "()J" } : Jvm.MethodName)) ∈ BIG := big_in (i := 462) (by decide +kernel) rfl
set_option maxRecDepth 100000 in
theorem mw_463 : (Jvm.Cond.code ({ cls := "SortLineEvents", name := "inside", desc := "()J" } : Jvm.MethodName) prog_1_method_13_code (1 : Nat) (Option.some Jvm.ClassFile.FieldType.long)) ∈ BIG := big_in (i := 463) rfl rfl
theorem mw_464 : (Jvm.Cond.methodLink "SortLineEvents" (189 : Nat) ({ cls := "SortLineEvents", name := "onBelts", desc := "()I" } : Jvm.MethodName)) ∈ BIG := big_in (i := 464) (by decide +kernel) rfl
theorem mw_466 : (Jvm.Cond.instanceMethod ({ cls := "SortLineEvents", name := "onBelts", desc := "()I" } : Jvm.MethodName)) ∈ BIG := big_in (i := 466) (by decide +kernel) rfl
set_option maxRecDepth 100000 in
theorem mw_467 : (Jvm.Cond.code ({ cls := "SortLineEvents", name := "onBelts", desc := "()I" } : Jvm.MethodName) prog_1_method_24_code (3 : Nat) (Option.some Jvm.ClassFile.FieldType.int)) ∈ BIG := big_in (i := 467) rfl rfl
theorem mw_468 : (Jvm.Cond.methodLink "SortLineEventsLaw" (81 : Nat) ({ cls := "SortLineEvents", name := "jam", desc := "(II)I" } : Jvm.MethodName)) ∈ BIG := big_in (i := 468) (by decide +kernel) rfl
theorem mw_469 : (Jvm.Cond.instanceMethod ({ cls := "SortLineEvents", name := "jam", desc := "(II)I" } : Jvm.MethodName)) ∈ BIG := big_in (i := 469) (by decide +kernel) rfl
theorem mw_470 : (Jvm.Cond.selects "SortLineEvents" ({ cls := "SortLineEvents", name := "jam", desc := "(II)I" } : Jvm.MethodName) ({ cls := "SortLineEvents", name := "jam", desc := "(II)I" } : Jvm.MethodName)) ∈ BIG := big_in (i := 470) (by decide +kernel) rfl
set_option maxRecDepth 100000 in
theorem mw_471 : (Jvm.Cond.code ({ cls := "SortLineEvents", name := "jam", desc := "(II)I" } : Jvm.MethodName) prog_1_method_14_code (3 : Nat) (Option.some Jvm.ClassFile.FieldType.int)) ∈ BIG := big_in (i := 471) rfl rfl
theorem mw_472 : (Jvm.Cond.methodLink "SortLineEventsLaw" (85 : Nat) ({ cls := "SortLineEvents", name := "lost", desc := "(I)J" } : Jvm.MethodName)) ∈ BIG := big_in (i := 472) (by decide +kernel) rfl
theorem mw_473 : (Jvm.Cond.instanceMethod ({ cls := "SortLineEvents", name := "lost", desc := "(I)J" } : Jvm.MethodName)) ∈ BIG := big_in (i := 473) (by decide +kernel) rfl
theorem mw_474 : (Jvm.Cond.selects "SortLineEvents" ({ cls := "SortLineEvents", name := "lost", desc := "(I)J" } : Jvm.MethodName) ({ cls := "SortLineEvents", name := "lost", desc := "(I)J" } : Jvm.MethodName)) ∈ BIG := big_in (i := 474) (by decide +kernel) rfl
set_option maxRecDepth 100000 in
theorem mw_475 : (Jvm.Cond.code ({ cls := "SortLineEvents", name := "lost", desc := "(I)J" } : Jvm.MethodName) prog_1_method_15_code (2 : Nat) (Option.some Jvm.ClassFile.FieldType.long)) ∈ BIG := big_in (i := 475) rfl rfl
theorem mw_476 : (Jvm.Cond.methodLink "SortLineEventsLaw" (90 : Nat) ({ cls := "SortLineEvents", name := "interval", desc := "(III)D" } : Jvm.MethodName)) ∈ BIG := big_in (i := 476) (by decide +kernel) rfl
theorem mw_477 : (Jvm.Cond.instanceMethod ({ cls := "SortLineEvents", name := "interval", desc := "(III)D" } : Jvm.MethodName)) ∈ BIG := big_in (i := 477) (by decide +kernel) rfl
theorem mw_478 : (Jvm.Cond.selects "SortLineEvents" ({ cls := "SortLineEvents", name := "interval", desc := "(III)D" } : Jvm.MethodName) ({ cls := "SortLineEvents", name := "interval", desc := "(III)D" } : Jvm.MethodName)) ∈ BIG := big_in (i := 478) (by decide +kernel) rfl
set_option maxRecDepth 100000 in
theorem mw_479 : (Jvm.Cond.code ({ cls := "SortLineEvents", name := "interval", desc := "(III)D" } : Jvm.MethodName) prog_1_method_16_code (6 : Nat) (Option.some Jvm.ClassFile.FieldType.double)) ∈ BIG := big_in (i := 479) rfl rfl
theorem mw_480 : (Jvm.Cond.constantDouble "SortLineEvents" (200 : Nat) (13830554455654793216 : UInt64)) ∈ BIG := big_in (i := 480) (by decide +kernel) rfl
theorem mw_481 : (Jvm.Cond.methodLink "SortLineEventsLaw" (95 : Nat) ({ cls := "SortLineEvents", name := "same", desc := "()Z" } : Jvm.MethodName)) ∈ BIG := big_in (i := 481) (by decide +kernel) rfl
theorem mw_482 : (Jvm.Cond.instanceMethod ({ cls := "SortLineEvents", name := "same", desc := "()Z" } : Jvm.MethodName)) ∈ BIG := big_in (i := 482) (by decide +kernel) rfl
theorem mw_483 : (Jvm.Cond.selects "SortLineEvents" ({ cls := "SortLineEvents", name := "same", desc := "()Z" } : Jvm.MethodName) ({ cls := "SortLineEvents", name := "same", desc := "()Z" } : Jvm.MethodName)) ∈ BIG := big_in (i := 483) (by decide +kernel) rfl
set_option maxRecDepth 100000 in
theorem mw_484 : (Jvm.Cond.code ({ cls := "SortLineEvents", name := "same", desc := "()Z" } : Jvm.MethodName) prog_1_method_17_code (3 : Nat) (Option.some Jvm.ClassFile.FieldType.boolean)) ∈ BIG := big_in (i := 484) rfl rfl
theorem mw_485 : (Jvm.Cond.methodLink "SortLineEventsLaw" (102 : Nat) ({ cls := "SortLineEvents", name := "pieceKind", desc := "(J)I" } : Jvm.MethodName)) ∈ BIG := big_in (i := 485) (by decide +kernel) rfl
theorem mw_486 : (Jvm.Cond.instanceMethod ({ cls := "SortLineEvents", name := "pieceKind", desc := "(J)I" } : Jvm.MethodName)) ∈ BIG := big_in (i := 486) (by decide +kernel) rfl
theorem mw_487 : (Jvm.Cond.selects "SortLineEvents" ({ cls := "SortLineEvents", name := "pieceKind", desc := "(J)I" } : Jvm.MethodName) ({ cls := "SortLineEvents", name := "pieceKind", desc := "(J)I" } : Jvm.MethodName)) ∈ BIG := big_in (i := 487) (by decide +kernel) rfl
set_option maxRecDepth 100000 in
theorem mw_488 : (Jvm.Cond.code ({ cls := "SortLineEvents", name := "pieceKind", desc := "(J)I" } : Jvm.MethodName) prog_1_method_18_code (3 : Nat) (Option.some Jvm.ClassFile.FieldType.int)) ∈ BIG := big_in (i := 488) rfl rfl
theorem mw_489 : (Jvm.Cond.methodLink "SortLineEventsLaw" (9 : Nat) ({ cls := "SortLineEventsLaw", name := "cell", desc := "([II)I" } : Jvm.MethodName)) ∈ BIG := big_in (i := 489) (by decide +kernel) rfl
theorem mw_490 : (Jvm.Cond.static ({ cls := "SortLineEventsLaw", name := "cell", desc := "([II)I" } : Jvm.MethodName)) ∈ BIG := big_in (i := 490) (by decide +kernel) rfl
set_option maxRecDepth 100000 in
theorem mw_491 : (Jvm.Cond.code ({ cls := "SortLineEventsLaw", name := "cell", desc := "([II)I" } : Jvm.MethodName) method_2_code (2 : Nat) (Option.some Jvm.ClassFile.FieldType.int)) ∈ BIG := big_in (i := 491) rfl rfl
theorem mw_492 : (Jvm.Cond.classLink "SortLineEventsLaw" (18 : Nat) "SortLineEventsModel") ∈ BIG := big_in (i := 492) (by decide +kernel) rfl
theorem mw_493 : (Jvm.Cond.instantiable "SortLineEventsModel" (45 : Nat)) ∈ BIG := big_in (i := 493) (by decide +kernel) rfl
theorem mw_494 : (Jvm.Cond.methodLink "SortLineEventsLaw" (20 : Nat) ({ cls := "SortLineEventsModel", name := "<init>", desc := "(J)V" } : Jvm.MethodName)) ∈ BIG := big_in (i := 494) (by decide +kernel) rfl
theorem mw_495 : (Jvm.Cond.instanceMethod ({ cls := "SortLineEventsModel", name := "<init>", desc := "(J)V" } : Jvm.MethodName)) ∈ BIG := big_in (i := 495) (by decide +kernel) rfl
set_option maxRecDepth 100000 in
theorem mw_496 : (Jvm.Cond.code ({ cls := "SortLineEventsModel", name := "<init>", desc := "(J)V" } : Jvm.MethodName) prog_12_method_1_code (3 : Nat) (Option.none : Option Jvm.ClassFile.FieldType)) ∈ BIG := big_in (i := 496) rfl rfl
theorem mw_497 : (Jvm.Cond.methodLink "SortLineEventsModel" (1 : Nat) ({ cls := "java/lang/Object", name := "<init>", desc := "()V" } : Jvm.MethodName)) ∈ BIG := big_in (i := 497) (by decide +kernel) rfl
theorem mw_498 : (Jvm.Cond.fieldLink "SortLineEventsModel" (118 : Nat) "SortLineEventsModel" "seed" "J") ∈ BIG := big_in (i := 498) (by decide +kernel) rfl
theorem mw_499 : (Jvm.Cond.fieldLink "SortLineEventsModel" (122 : Nat) "SortLineEventsModel" "belts" "I") ∈ BIG := big_in (i := 499) (by decide +kernel) rfl
theorem mw_500 : (Jvm.Cond.fieldLink "SortLineEventsModel" (7 : Nat) "SortLineEventsModel" "tenths" "[I") ∈ BIG := big_in (i := 500) (by decide +kernel) rfl
theorem mw_501 : (Jvm.Cond.fieldLink "SortLineEventsModel" (13 : Nat) "SortLineEventsModel" "lengths" "[D") ∈ BIG := big_in (i := 501) (by decide +kernel) rfl
theorem mw_502 : (Jvm.Cond.fieldLink "SortLineEventsModel" (17 : Nat) "SortLineEventsModel" "joins" "[I") ∈ BIG := big_in (i := 502) (by decide +kernel) rfl
theorem mw_503 : (Jvm.Cond.fieldLink "SortLineEventsModel" (20 : Nat) "SortLineEventsModel" "ruled" "[Z") ∈ BIG := big_in (i := 503) (by decide +kernel) rfl
theorem mw_504 : (Jvm.Cond.fieldLink "SortLineEventsModel" (24 : Nat) "SortLineEventsModel" "loads" "[D") ∈ BIG := big_in (i := 504) (by decide +kernel) rfl
theorem mw_505 : (Jvm.Cond.fieldLink "SortLineEventsModel" (27 : Nat) "SortLineEventsModel" "stands" "[I") ∈ BIG := big_in (i := 505) (by decide +kernel) rfl
theorem mw_506 : (Jvm.Cond.fieldLink "SortLineEventsModel" (30 : Nat) "SortLineEventsModel" "standing" "[I") ∈ BIG := big_in (i := 506) (by decide +kernel) rfl
theorem mw_507 : (Jvm.Cond.fieldLink "SortLineEventsModel" (141 : Nat) "SortLineEventsModel" "heads" "I") ∈ BIG := big_in (i := 507) (by decide +kernel) rfl
theorem mw_508 : (Jvm.Cond.fieldLink "SortLineEventsModel" (33 : Nat) "SortLineEventsModel" "headBelt" "[I") ∈ BIG := big_in (i := 508) (by decide +kernel) rfl
theorem mw_509 : (Jvm.Cond.fieldLink "SortLineEventsModel" (36 : Nat) "SortLineEventsModel" "headPlace" "[I") ∈ BIG := big_in (i := 509) (by decide +kernel) rfl
theorem mw_510 : (Jvm.Cond.fieldLink "SortLineEventsModel" (39 : Nat) "SortLineEventsModel" "headMiss" "[D") ∈ BIG := big_in (i := 510) (by decide +kernel) rfl
theorem mw_511 : (Jvm.Cond.fieldLink "SortLineEventsModel" (148 : Nat) "SortLineEventsModel" "bunkers" "I") ∈ BIG := big_in (i := 511) (by decide +kernel) rfl
theorem mw_512 : (Jvm.Cond.fieldLink "SortLineEventsModel" (42 : Nat) "SortLineEventsModel" "rooms" "[D") ∈ BIG := big_in (i := 512) (by decide +kernel) rfl
theorem mw_513 : (Jvm.Cond.fieldLink "SortLineEventsModel" (45 : Nat) "SortLineEventsModel" "filled" "[D") ∈ BIG := big_in (i := 513) (by decide +kernel) rfl
theorem mw_514 : (Jvm.Cond.fieldLink "SortLineEventsModel" (162 : Nat) "SortLineEventsModel" "robots" "I") ∈ BIG := big_in (i := 514) (by decide +kernel) rfl
theorem mw_515 : (Jvm.Cond.fieldLink "SortLineEventsModel" (48 : Nat) "SortLineEventsModel" "robotBelt" "[I") ∈ BIG := big_in (i := 515) (by decide +kernel) rfl
theorem mw_516 : (Jvm.Cond.fieldLink "SortLineEventsModel" (51 : Nat) "SortLineEventsModel" "reaches" "[D") ∈ BIG := big_in (i := 516) (by decide +kernel) rfl
theorem mw_517 : (Jvm.Cond.fieldLink "SortLineEventsModel" (54 : Nat) "SortLineEventsModel" "robotMiss" "[D") ∈ BIG := big_in (i := 517) (by decide +kernel) rfl
theorem mw_518 : (Jvm.Cond.fieldLink "SortLineEventsModel" (153 : Nat) "SortLineEventsModel" "pickers" "I") ∈ BIG := big_in (i := 518) (by decide +kernel) rfl
theorem mw_519 : (Jvm.Cond.fieldLink "SortLineEventsModel" (57 : Nat) "SortLineEventsModel" "pickerBelt" "[I") ∈ BIG := big_in (i := 519) (by decide +kernel) rfl
theorem mw_520 : (Jvm.Cond.fieldLink "SortLineEventsModel" (60 : Nat) "SortLineEventsModel" "rates" "[D") ∈ BIG := big_in (i := 520) (by decide +kernel) rfl
theorem mw_521 : (Jvm.Cond.fieldLink "SortLineEventsModel" (63 : Nat) "SortLineEventsModel" "tires" "[D") ∈ BIG := big_in (i := 521) (by decide +kernel) rfl
theorem mw_522 : (Jvm.Cond.fieldLink "SortLineEventsModel" (66 : Nat) "SortLineEventsModel" "busy" "[I") ∈ BIG := big_in (i := 522) (by decide +kernel) rfl
theorem mw_523 : (Jvm.Cond.fieldLink "SortLineEventsModel" (69 : Nat) "SortLineEventsModel" "took" "[I") ∈ BIG := big_in (i := 523) (by decide +kernel) rfl
theorem mw_524 : (Jvm.Cond.fieldLink "SortLineEventsModel" (126 : Nat) "SortLineEventsModel" "pieces" "I") ∈ BIG := big_in (i := 524) (by decide +kernel) rfl
theorem mw_525 : (Jvm.Cond.fieldLink "SortLineEventsModel" (72 : Nat) "SortLineEventsModel" "kinds" "[I") ∈ BIG := big_in (i := 525) (by decide +kernel) rfl
theorem mw_526 : (Jvm.Cond.fieldLink "SortLineEventsModel" (75 : Nat) "SortLineEventsModel" "sizes" "[D") ∈ BIG := big_in (i := 526) (by decide +kernel) rfl
theorem mw_527 : (Jvm.Cond.fieldLink "SortLineEventsModel" (78 : Nat) "SortLineEventsModel" "enters" "[I") ∈ BIG := big_in (i := 527) (by decide +kernel) rfl
theorem mw_528 : (Jvm.Cond.fieldLink "SortLineEventsModel" (81 : Nat) "SortLineEventsModel" "firstBelt" "[I") ∈ BIG := big_in (i := 528) (by decide +kernel) rfl
theorem mw_529 : (Jvm.Cond.fieldLink "SortLineEventsModel" (84 : Nat) "SortLineEventsModel" "states" "[I") ∈ BIG := big_in (i := 529) (by decide +kernel) rfl
theorem mw_530 : (Jvm.Cond.fieldLink "SortLineEventsModel" (87 : Nat) "SortLineEventsModel" "belt" "[I") ∈ BIG := big_in (i := 530) (by decide +kernel) rfl
theorem mw_531 : (Jvm.Cond.fieldLink "SortLineEventsModel" (90 : Nat) "SortLineEventsModel" "place" "[I") ∈ BIG := big_in (i := 531) (by decide +kernel) rfl
theorem mw_532 : (Jvm.Cond.fieldLink "SortLineEventsModel" (93 : Nat) "SortLineEventsModel" "moved" "[Z") ∈ BIG := big_in (i := 532) (by decide +kernel) rfl
theorem mw_533 : (Jvm.Cond.fieldLink "SortLineEventsModel" (165 : Nat) "SortLineEventsModel" "now" "I") ∈ BIG := big_in (i := 533) (by decide +kernel) rfl
theorem mw_534 : (Jvm.Cond.fieldLink "SortLineEventsModel" (178 : Nat) "SortLineEventsModel" "total" "I") ∈ BIG := big_in (i := 534) (by decide +kernel) rfl
theorem mw_535 : (Jvm.Cond.fieldLink "SortLineEventsModel" (96 : Nat) "SortLineEventsModel" "events" "[I") ∈ BIG := big_in (i := 535) (by decide +kernel) rfl
theorem mw_536 : (Jvm.Cond.fieldLink "SortLineEventsModel" (193 : Nat) "SortLineEventsModel" "jams" "I") ∈ BIG := big_in (i := 536) (by decide +kernel) rfl
theorem mw_537 : (Jvm.Cond.fieldLink "SortLineEventsModel" (99 : Nat) "SortLineEventsModel" "jamRows" "[I") ∈ BIG := big_in (i := 537) (by decide +kernel) rfl
theorem mw_538 : (Jvm.Cond.fieldLink "SortLineEventsModel" (102 : Nat) "SortLineEventsModel" "lost" "[J") ∈ BIG := big_in (i := 538) (by decide +kernel) rfl
theorem mw_539 : (Jvm.Cond.fieldLink "SortLineEventsModel" (106 : Nat) "SortLineEventsModel" "outs" "[I") ∈ BIG := big_in (i := 539) (by decide +kernel) rfl
theorem mw_540 : (Jvm.Cond.fieldLink "SortLineEventsModel" (109 : Nat) "SortLineEventsModel" "lastOut" "[I") ∈ BIG := big_in (i := 540) (by decide +kernel) rfl
theorem mw_541 : (Jvm.Cond.fieldLink "SortLineEventsModel" (112 : Nat) "SortLineEventsModel" "leastGap" "[I") ∈ BIG := big_in (i := 541) (by decide +kernel) rfl
theorem mw_542 : (Jvm.Cond.fieldLink "SortLineEventsModel" (115 : Nat) "SortLineEventsModel" "greatestGap" "[I") ∈ BIG := big_in (i := 542) (by decide +kernel) rfl
theorem mw_634 : (Jvm.Cond.arrayClass Jvm.ClassFile.FieldType.double) ∈ BIG := big_in (i := 634) (by decide +kernel) rfl
theorem mw_635 : (Jvm.Cond.arrayClass Jvm.ClassFile.FieldType.boolean) ∈ BIG := big_in (i := 635) (by decide +kernel) rfl
theorem mw_636 : (Jvm.Cond.methodLink "SortLineEventsLaw" (27 : Nat) ({ cls := "SortLineEventsModel", name := "belt", desc := "(ID)I" } : Jvm.MethodName)) ∈ BIG := big_in (i := 636) (by decide +kernel) rfl
theorem mw_637 : (Jvm.Cond.instanceMethod ({ cls := "SortLineEventsModel", name := "belt", desc := "(ID)I" } : Jvm.MethodName)) ∈ BIG := big_in (i := 637) (by decide +kernel) rfl
theorem mw_638 : (Jvm.Cond.selects "SortLineEventsModel" ({ cls := "SortLineEventsModel", name := "belt", desc := "(ID)I" } : Jvm.MethodName) ({ cls := "SortLineEventsModel", name := "belt", desc := "(ID)I" } : Jvm.MethodName)) ∈ BIG := big_in (i := 638) (by decide +kernel) rfl
set_option maxRecDepth 100000 in
theorem mw_639 : (Jvm.Cond.code ({ cls := "SortLineEventsModel", name := "belt", desc := "(ID)I" } : Jvm.MethodName) prog_12_method_6_code (4 : Nat) (Option.some Jvm.ClassFile.FieldType.int)) ∈ BIG := big_in (i := 639) rfl rfl
theorem mw_640 : (Jvm.Cond.constantDouble "SortLineEventsModel" (129 : Nat) (4602678819172646912 : UInt64)) ∈ BIG := big_in (i := 640) (by decide +kernel) rfl
theorem mw_641 : (Jvm.Cond.constantDouble "SortLineEventsModel" (131 : Nat) (4652007308841189376 : UInt64)) ∈ BIG := big_in (i := 641) (by decide +kernel) rfl
theorem mw_642 : (Jvm.Cond.methodLink "SortLineEventsModel" (133 : Nat) ({ cls := "SortLineEventsModel", name := "isIn", desc := "(DDD)Z" } : Jvm.MethodName)) ∈ BIG := big_in (i := 642) (by decide +kernel) rfl
theorem mw_643 : (Jvm.Cond.static ({ cls := "SortLineEventsModel", name := "isIn", desc := "(DDD)Z" } : Jvm.MethodName)) ∈ BIG := big_in (i := 643) (by decide +kernel) rfl
set_option maxRecDepth 100000 in
theorem mw_644 : (Jvm.Cond.code ({ cls := "SortLineEventsModel", name := "isIn", desc := "(DDD)Z" } : Jvm.MethodName) prog_12_method_3_code (6 : Nat) (Option.some Jvm.ClassFile.FieldType.boolean)) ∈ BIG := big_in (i := 644) rfl rfl
theorem mw_645 : (Jvm.Cond.methodLink "SortLineEventsModel" (137 : Nat) ({ cls := "SortLineEventsModel", name := "isOpen", desc := "()Z" } : Jvm.MethodName)) ∈ BIG := big_in (i := 645) (by decide +kernel) rfl
theorem mw_647 : (Jvm.Cond.instanceMethod ({ cls := "SortLineEventsModel", name := "isOpen", desc := "()Z" } : Jvm.MethodName)) ∈ BIG := big_in (i := 647) (by decide +kernel) rfl
set_option maxRecDepth 100000 in
theorem mw_648 : (Jvm.Cond.code ({ cls := "SortLineEventsModel", name := "isOpen", desc := "()Z" } : Jvm.MethodName) prog_12_method_5_code (1 : Nat) (Option.some Jvm.ClassFile.FieldType.boolean)) ∈ BIG := big_in (i := 648) rfl rfl
theorem mw_649 : (Jvm.Cond.methodLink "SortLineEventsLaw" (32 : Nat) ({ cls := "SortLineEventsModel", name := "head", desc := "(IDD)I" } : Jvm.MethodName)) ∈ BIG := big_in (i := 649) (by decide +kernel) rfl
theorem mw_650 : (Jvm.Cond.instanceMethod ({ cls := "SortLineEventsModel", name := "head", desc := "(IDD)I" } : Jvm.MethodName)) ∈ BIG := big_in (i := 650) (by decide +kernel) rfl
theorem mw_651 : (Jvm.Cond.selects "SortLineEventsModel" ({ cls := "SortLineEventsModel", name := "head", desc := "(IDD)I" } : Jvm.MethodName) ({ cls := "SortLineEventsModel", name := "head", desc := "(IDD)I" } : Jvm.MethodName)) ∈ BIG := big_in (i := 651) (by decide +kernel) rfl
set_option maxRecDepth 100000 in
theorem mw_652 : (Jvm.Cond.code ({ cls := "SortLineEventsModel", name := "head", desc := "(IDD)I" } : Jvm.MethodName) prog_12_method_7_code (6 : Nat) (Option.some Jvm.ClassFile.FieldType.int)) ∈ BIG := big_in (i := 652) rfl rfl
theorem mw_653 : (Jvm.Cond.methodLink "SortLineEventsModel" (144 : Nat) ({ cls := "SortLineEventsModel", name := "isBelt", desc := "(I)Z" } : Jvm.MethodName)) ∈ BIG := big_in (i := 653) (by decide +kernel) rfl
theorem mw_655 : (Jvm.Cond.instanceMethod ({ cls := "SortLineEventsModel", name := "isBelt", desc := "(I)Z" } : Jvm.MethodName)) ∈ BIG := big_in (i := 655) (by decide +kernel) rfl
set_option maxRecDepth 100000 in
theorem mw_656 : (Jvm.Cond.code ({ cls := "SortLineEventsModel", name := "isBelt", desc := "(I)Z" } : Jvm.MethodName) prog_12_method_4_code (2 : Nat) (Option.some Jvm.ClassFile.FieldType.boolean)) ∈ BIG := big_in (i := 656) rfl rfl
theorem mw_657 : (Jvm.Cond.methodLink "SortLineEventsLaw" (37 : Nat) ({ cls := "SortLineEventsModel", name := "bunker", desc := "(D)I" } : Jvm.MethodName)) ∈ BIG := big_in (i := 657) (by decide +kernel) rfl
theorem mw_658 : (Jvm.Cond.instanceMethod ({ cls := "SortLineEventsModel", name := "bunker", desc := "(D)I" } : Jvm.MethodName)) ∈ BIG := big_in (i := 658) (by decide +kernel) rfl
theorem mw_659 : (Jvm.Cond.selects "SortLineEventsModel" ({ cls := "SortLineEventsModel", name := "bunker", desc := "(D)I" } : Jvm.MethodName) ({ cls := "SortLineEventsModel", name := "bunker", desc := "(D)I" } : Jvm.MethodName)) ∈ BIG := big_in (i := 659) (by decide +kernel) rfl
set_option maxRecDepth 100000 in
theorem mw_660 : (Jvm.Cond.code ({ cls := "SortLineEventsModel", name := "bunker", desc := "(D)I" } : Jvm.MethodName) prog_12_method_8_code (3 : Nat) (Option.some Jvm.ClassFile.FieldType.int)) ∈ BIG := big_in (i := 660) rfl rfl
theorem mw_661 : (Jvm.Cond.constantDouble "SortLineEventsModel" (151 : Nat) (4666723172467343360 : UInt64)) ∈ BIG := big_in (i := 661) (by decide +kernel) rfl
theorem mw_662 : (Jvm.Cond.methodLink "SortLineEventsLaw" (42 : Nat) ({ cls := "SortLineEventsModel", name := "joinTo", desc := "(II)Z" } : Jvm.MethodName)) ∈ BIG := big_in (i := 662) (by decide +kernel) rfl
theorem mw_663 : (Jvm.Cond.instanceMethod ({ cls := "SortLineEventsModel", name := "joinTo", desc := "(II)Z" } : Jvm.MethodName)) ∈ BIG := big_in (i := 663) (by decide +kernel) rfl
theorem mw_664 : (Jvm.Cond.selects "SortLineEventsModel" ({ cls := "SortLineEventsModel", name := "joinTo", desc := "(II)Z" } : Jvm.MethodName) ({ cls := "SortLineEventsModel", name := "joinTo", desc := "(II)Z" } : Jvm.MethodName)) ∈ BIG := big_in (i := 664) (by decide +kernel) rfl
set_option maxRecDepth 100000 in
theorem mw_665 : (Jvm.Cond.code ({ cls := "SortLineEventsModel", name := "joinTo", desc := "(II)Z" } : Jvm.MethodName) prog_12_method_9_code (4 : Nat) (Option.some Jvm.ClassFile.FieldType.boolean)) ∈ BIG := big_in (i := 665) rfl rfl
theorem mw_666 : (Jvm.Cond.methodLink "SortLineEventsLaw" (47 : Nat) ({ cls := "SortLineEventsModel", name := "rule", desc := "(IDI)Z" } : Jvm.MethodName)) ∈ BIG := big_in (i := 666) (by decide +kernel) rfl
theorem mw_667 : (Jvm.Cond.instanceMethod ({ cls := "SortLineEventsModel", name := "rule", desc := "(IDI)Z" } : Jvm.MethodName)) ∈ BIG := big_in (i := 667) (by decide +kernel) rfl
theorem mw_668 : (Jvm.Cond.selects "SortLineEventsModel" ({ cls := "SortLineEventsModel", name := "rule", desc := "(IDI)Z" } : Jvm.MethodName) ({ cls := "SortLineEventsModel", name := "rule", desc := "(IDI)Z" } : Jvm.MethodName)) ∈ BIG := big_in (i := 668) (by decide +kernel) rfl
set_option maxRecDepth 100000 in
theorem mw_669 : (Jvm.Cond.code ({ cls := "SortLineEventsModel", name := "rule", desc := "(IDI)Z" } : Jvm.MethodName) prog_12_method_10_code (5 : Nat) (Option.some Jvm.ClassFile.FieldType.boolean)) ∈ BIG := big_in (i := 669) rfl rfl
theorem mw_670 : (Jvm.Cond.methodLink "SortLineEventsLaw" (51 : Nat) ({ cls := "SortLineEventsModel", name := "picker", desc := "(IDD)I" } : Jvm.MethodName)) ∈ BIG := big_in (i := 670) (by decide +kernel) rfl
theorem mw_671 : (Jvm.Cond.instanceMethod ({ cls := "SortLineEventsModel", name := "picker", desc := "(IDD)I" } : Jvm.MethodName)) ∈ BIG := big_in (i := 671) (by decide +kernel) rfl
theorem mw_672 : (Jvm.Cond.selects "SortLineEventsModel" ({ cls := "SortLineEventsModel", name := "picker", desc := "(IDD)I" } : Jvm.MethodName) ({ cls := "SortLineEventsModel", name := "picker", desc := "(IDD)I" } : Jvm.MethodName)) ∈ BIG := big_in (i := 672) (by decide +kernel) rfl
set_option maxRecDepth 100000 in
theorem mw_673 : (Jvm.Cond.code ({ cls := "SortLineEventsModel", name := "picker", desc := "(IDD)I" } : Jvm.MethodName) prog_12_method_11_code (6 : Nat) (Option.some Jvm.ClassFile.FieldType.int)) ∈ BIG := big_in (i := 673) rfl rfl
theorem mw_674 : (Jvm.Cond.constantDouble "SortLineEventsModel" (156 : Nat) (4593671619917905920 : UInt64)) ∈ BIG := big_in (i := 674) (by decide +kernel) rfl
theorem mw_675 : (Jvm.Cond.constantDouble "SortLineEventsModel" (158 : Nat) (4636737291354636288 : UInt64)) ∈ BIG := big_in (i := 675) (by decide +kernel) rfl
theorem mw_676 : (Jvm.Cond.constantDouble "SortLineEventsModel" (160 : Nat) (4621819117588971520 : UInt64)) ∈ BIG := big_in (i := 676) (by decide +kernel) rfl
theorem mw_677 : (Jvm.Cond.methodLink "SortLineEventsLaw" (55 : Nat) ({ cls := "SortLineEventsModel", name := "robot", desc := "(IDD)I" } : Jvm.MethodName)) ∈ BIG := big_in (i := 677) (by decide +kernel) rfl
theorem mw_678 : (Jvm.Cond.instanceMethod ({ cls := "SortLineEventsModel", name := "robot", desc := "(IDD)I" } : Jvm.MethodName)) ∈ BIG := big_in (i := 678) (by decide +kernel) rfl
theorem mw_679 : (Jvm.Cond.selects "SortLineEventsModel" ({ cls := "SortLineEventsModel", name := "robot", desc := "(IDD)I" } : Jvm.MethodName) ({ cls := "SortLineEventsModel", name := "robot", desc := "(IDD)I" } : Jvm.MethodName)) ∈ BIG := big_in (i := 679) (by decide +kernel) rfl
set_option maxRecDepth 100000 in
theorem mw_680 : (Jvm.Cond.code ({ cls := "SortLineEventsModel", name := "robot", desc := "(IDD)I" } : Jvm.MethodName) prog_12_method_12_code (6 : Nat) (Option.some Jvm.ClassFile.FieldType.int)) ∈ BIG := big_in (i := 680) rfl rfl
theorem mw_681 : (Jvm.Cond.methodLink "SortLineEventsLaw" (60 : Nat) ({ cls := "SortLineEventsModel", name := "feed", desc := "(IIID)Z" } : Jvm.MethodName)) ∈ BIG := big_in (i := 681) (by decide +kernel) rfl
theorem mw_682 : (Jvm.Cond.instanceMethod ({ cls := "SortLineEventsModel", name := "feed", desc := "(IIID)Z" } : Jvm.MethodName)) ∈ BIG := big_in (i := 682) (by decide +kernel) rfl
theorem mw_683 : (Jvm.Cond.selects "SortLineEventsModel" ({ cls := "SortLineEventsModel", name := "feed", desc := "(IIID)Z" } : Jvm.MethodName) ({ cls := "SortLineEventsModel", name := "feed", desc := "(IIID)Z" } : Jvm.MethodName)) ∈ BIG := big_in (i := 683) (by decide +kernel) rfl
set_option maxRecDepth 100000 in
theorem mw_684 : (Jvm.Cond.code ({ cls := "SortLineEventsModel", name := "feed", desc := "(IIID)Z" } : Jvm.MethodName) prog_12_method_13_code (6 : Nat) (Option.some Jvm.ClassFile.FieldType.boolean)) ∈ BIG := big_in (i := 684) rfl rfl
theorem mw_685 : (Jvm.Cond.methodLink "SortLineEventsLaw" (65 : Nat) ({ cls := "SortLineEventsModel", name := "run", desc := "(I)I" } : Jvm.MethodName)) ∈ BIG := big_in (i := 685) (by decide +kernel) rfl
theorem mw_686 : (Jvm.Cond.instanceMethod ({ cls := "SortLineEventsModel", name := "run", desc := "(I)I" } : Jvm.MethodName)) ∈ BIG := big_in (i := 686) (by decide +kernel) rfl
theorem mw_687 : (Jvm.Cond.selects "SortLineEventsModel" ({ cls := "SortLineEventsModel", name := "run", desc := "(I)I" } : Jvm.MethodName) ({ cls := "SortLineEventsModel", name := "run", desc := "(I)I" } : Jvm.MethodName)) ∈ BIG := big_in (i := 687) (by decide +kernel) rfl
set_option maxRecDepth 100000 in
theorem mw_688 : (Jvm.Cond.code ({ cls := "SortLineEventsModel", name := "run", desc := "(I)I" } : Jvm.MethodName) prog_12_method_25_code (2 : Nat) (Option.some Jvm.ClassFile.FieldType.int)) ∈ BIG := big_in (i := 688) rfl rfl
theorem mw_689 : (Jvm.Cond.methodLink "SortLineEventsModel" (220 : Nat) ({ cls := "SortLineEventsModel", name := "tenth", desc := "()V" } : Jvm.MethodName)) ∈ BIG := big_in (i := 689) (by decide +kernel) rfl
theorem mw_691 : (Jvm.Cond.instanceMethod ({ cls := "SortLineEventsModel", name := "tenth", desc := "()V" } : Jvm.MethodName)) ∈ BIG := big_in (i := 691) (by decide +kernel) rfl
set_option maxRecDepth 100000 in
theorem mw_692 : (Jvm.Cond.code ({ cls := "SortLineEventsModel", name := "tenth", desc := "()V" } : Jvm.MethodName) prog_12_method_24_code (2 : Nat) (Option.none : Option Jvm.ClassFile.FieldType)) ∈ BIG := big_in (i := 692) rfl rfl
theorem mw_693 : (Jvm.Cond.methodLink "SortLineEventsModel" (207 : Nat) ({ cls := "SortLineEventsModel", name := "enter", desc := "(II)V" } : Jvm.MethodName)) ∈ BIG := big_in (i := 693) (by decide +kernel) rfl
theorem mw_695 : (Jvm.Cond.instanceMethod ({ cls := "SortLineEventsModel", name := "enter", desc := "(II)V" } : Jvm.MethodName)) ∈ BIG := big_in (i := 695) (by decide +kernel) rfl
set_option maxRecDepth 100000 in
theorem mw_696 : (Jvm.Cond.code ({ cls := "SortLineEventsModel", name := "enter", desc := "(II)V" } : Jvm.MethodName) prog_12_method_19_code (3 : Nat) (Option.none : Option Jvm.ClassFile.FieldType)) ∈ BIG := big_in (i := 696) rfl rfl
theorem mw_697 : (Jvm.Cond.methodLink "SortLineEventsModel" (185 : Nat) ({ cls := "SortLineEventsModel", name := "lose", desc := "(IIII)V" } : Jvm.MethodName)) ∈ BIG := big_in (i := 697) (by decide +kernel) rfl
theorem mw_699 : (Jvm.Cond.instanceMethod ({ cls := "SortLineEventsModel", name := "lose", desc := "(IIII)V" } : Jvm.MethodName)) ∈ BIG := big_in (i := 699) (by decide +kernel) rfl
set_option maxRecDepth 100000 in
theorem mw_700 : (Jvm.Cond.code ({ cls := "SortLineEventsModel", name := "lose", desc := "(IIII)V" } : Jvm.MethodName) prog_12_method_16_code (5 : Nat) (Option.none : Option Jvm.ClassFile.FieldType)) ∈ BIG := big_in (i := 700) rfl rfl
theorem mw_701 : (Jvm.Cond.methodLink "SortLineEventsModel" (181 : Nat) ({ cls := "SortLineEventsModel", name := "note", desc := "(III)V" } : Jvm.MethodName)) ∈ BIG := big_in (i := 701) (by decide +kernel) rfl
theorem mw_703 : (Jvm.Cond.instanceMethod ({ cls := "SortLineEventsModel", name := "note", desc := "(III)V" } : Jvm.MethodName)) ∈ BIG := big_in (i := 703) (by decide +kernel) rfl
set_option maxRecDepth 100000 in
theorem mw_704 : (Jvm.Cond.code ({ cls := "SortLineEventsModel", name := "note", desc := "(III)V" } : Jvm.MethodName) prog_12_method_15_code (4 : Nat) (Option.none : Option Jvm.ClassFile.FieldType)) ∈ BIG := big_in (i := 704) rfl rfl
theorem mw_705 : (Jvm.Cond.methodLink "SortLineEventsModel" (189 : Nat) ({ cls := "SortLineEventsModel", name := "sizesOn", desc := "(II)D" } : Jvm.MethodName)) ∈ BIG := big_in (i := 705) (by decide +kernel) rfl
theorem mw_707 : (Jvm.Cond.instanceMethod ({ cls := "SortLineEventsModel", name := "sizesOn", desc := "(II)D" } : Jvm.MethodName)) ∈ BIG := big_in (i := 707) (by decide +kernel) rfl
set_option maxRecDepth 100000 in
theorem mw_708 : (Jvm.Cond.code ({ cls := "SortLineEventsModel", name := "sizesOn", desc := "(II)D" } : Jvm.MethodName) prog_12_method_17_code (6 : Nat) (Option.some Jvm.ClassFile.FieldType.double)) ∈ BIG := big_in (i := 708) rfl rfl
theorem mw_709 : (Jvm.Cond.methodLink "SortLineEventsModel" (196 : Nat) ({ cls := "SortLineEventsModel", name := "piecesOn", desc := "(I)I" } : Jvm.MethodName)) ∈ BIG := big_in (i := 709) (by decide +kernel) rfl
theorem mw_711 : (Jvm.Cond.instanceMethod ({ cls := "SortLineEventsModel", name := "piecesOn", desc := "(I)I" } : Jvm.MethodName)) ∈ BIG := big_in (i := 711) (by decide +kernel) rfl
set_option maxRecDepth 100000 in
theorem mw_712 : (Jvm.Cond.code ({ cls := "SortLineEventsModel", name := "piecesOn", desc := "(I)I" } : Jvm.MethodName) prog_12_method_18_code (4 : Nat) (Option.some Jvm.ClassFile.FieldType.int)) ∈ BIG := big_in (i := 712) rfl rfl
theorem mw_713 : (Jvm.Cond.methodLink "SortLineEventsModel" (200 : Nat) ({ cls := "SortLineEventsModel", name := "pass", desc := "(I)V" } : Jvm.MethodName)) ∈ BIG := big_in (i := 713) (by decide +kernel) rfl
theorem mw_715 : (Jvm.Cond.instanceMethod ({ cls := "SortLineEventsModel", name := "pass", desc := "(I)V" } : Jvm.MethodName)) ∈ BIG := big_in (i := 715) (by decide +kernel) rfl
set_option maxRecDepth 100000 in
theorem mw_716 : (Jvm.Cond.code ({ cls := "SortLineEventsModel", name := "pass", desc := "(I)V" } : Jvm.MethodName) prog_12_method_20_code (3 : Nat) (Option.none : Option Jvm.ClassFile.FieldType)) ∈ BIG := big_in (i := 716) rfl rfl
theorem mw_717 : (Jvm.Cond.methodLink "SortLineEventsModel" (204 : Nat) ({ cls := "SortLineEventsModel", name := "chance", desc := "(II)D" } : Jvm.MethodName)) ∈ BIG := big_in (i := 717) (by decide +kernel) rfl
theorem mw_719 : (Jvm.Cond.instanceMethod ({ cls := "SortLineEventsModel", name := "chance", desc := "(II)D" } : Jvm.MethodName)) ∈ BIG := big_in (i := 719) (by decide +kernel) rfl
set_option maxRecDepth 100000 in
theorem mw_720 : (Jvm.Cond.code ({ cls := "SortLineEventsModel", name := "chance", desc := "(II)D" } : Jvm.MethodName) prog_12_method_14_code (5 : Nat) (Option.some Jvm.ClassFile.FieldType.double)) ∈ BIG := big_in (i := 720) rfl rfl
theorem mw_721 : (Jvm.Cond.constantLong "SortLineEventsModel" (168 : Nat) (6364136223846793005 : Int64)) ∈ BIG := big_in (i := 721) (by decide +kernel) rfl
theorem mw_722 : (Jvm.Cond.constantLong "SortLineEventsModel" (170 : Nat) (1442695040888963407 : Int64)) ∈ BIG := big_in (i := 722) (by decide +kernel) rfl
theorem mw_723 : (Jvm.Cond.constantLong "SortLineEventsModel" (172 : Nat) (2862933555777941757 : Int64)) ∈ BIG := big_in (i := 723) (by decide +kernel) rfl
theorem mw_724 : (Jvm.Cond.constantLong "SortLineEventsModel" (174 : Nat) (-4658895280553007687 : Int64)) ∈ BIG := big_in (i := 724) (by decide +kernel) rfl
theorem mw_725 : (Jvm.Cond.constantDouble "SortLineEventsModel" (176 : Nat) (4845873199050653696 : UInt64)) ∈ BIG := big_in (i := 725) (by decide +kernel) rfl
theorem mw_726 : (Jvm.Cond.methodLink "SortLineEventsModel" (214 : Nat) ({ cls := "SortLineEventsModel", name := "isTaken", desc := "(I)Z" } : Jvm.MethodName)) ∈ BIG := big_in (i := 726) (by decide +kernel) rfl
theorem mw_728 : (Jvm.Cond.instanceMethod ({ cls := "SortLineEventsModel", name := "isTaken", desc := "(I)Z" } : Jvm.MethodName)) ∈ BIG := big_in (i := 728) (by decide +kernel) rfl
set_option maxRecDepth 100000 in
theorem mw_729 : (Jvm.Cond.code ({ cls := "SortLineEventsModel", name := "isTaken", desc := "(I)Z" } : Jvm.MethodName) prog_12_method_21_code (4 : Nat) (Option.some Jvm.ClassFile.FieldType.boolean)) ∈ BIG := big_in (i := 729) rfl rfl
theorem mw_730 : (Jvm.Cond.methodLink "SortLineEventsModel" (217 : Nat) ({ cls := "SortLineEventsModel", name := "goOn", desc := "(I)V" } : Jvm.MethodName)) ∈ BIG := big_in (i := 730) (by decide +kernel) rfl
theorem mw_732 : (Jvm.Cond.instanceMethod ({ cls := "SortLineEventsModel", name := "goOn", desc := "(I)V" } : Jvm.MethodName)) ∈ BIG := big_in (i := 732) (by decide +kernel) rfl
set_option maxRecDepth 100000 in
theorem mw_733 : (Jvm.Cond.code ({ cls := "SortLineEventsModel", name := "goOn", desc := "(I)V" } : Jvm.MethodName) prog_12_method_22_code (4 : Nat) (Option.none : Option Jvm.ClassFile.FieldType)) ∈ BIG := big_in (i := 733) rfl rfl
theorem mw_734 : (Jvm.Cond.methodLink "SortLineEventsModel" (211 : Nat) ({ cls := "SortLineEventsModel", name := "goOut", desc := "(I)V" } : Jvm.MethodName)) ∈ BIG := big_in (i := 734) (by decide +kernel) rfl
theorem mw_736 : (Jvm.Cond.instanceMethod ({ cls := "SortLineEventsModel", name := "goOut", desc := "(I)V" } : Jvm.MethodName)) ∈ BIG := big_in (i := 736) (by decide +kernel) rfl
set_option maxRecDepth 100000 in
theorem mw_737 : (Jvm.Cond.code ({ cls := "SortLineEventsModel", name := "goOut", desc := "(I)V" } : Jvm.MethodName) prog_12_method_23_code (4 : Nat) (Option.none : Option Jvm.ClassFile.FieldType)) ∈ BIG := big_in (i := 737) rfl rfl
theorem mw_738 : (Jvm.Cond.methodLink "SortLineEventsLaw" (70 : Nat) ({ cls := "SortLineEventsModel", name := "event", desc := "(II)I" } : Jvm.MethodName)) ∈ BIG := big_in (i := 738) (by decide +kernel) rfl
theorem mw_739 : (Jvm.Cond.instanceMethod ({ cls := "SortLineEventsModel", name := "event", desc := "(II)I" } : Jvm.MethodName)) ∈ BIG := big_in (i := 739) (by decide +kernel) rfl
theorem mw_740 : (Jvm.Cond.selects "SortLineEventsModel" ({ cls := "SortLineEventsModel", name := "event", desc := "(II)I" } : Jvm.MethodName) ({ cls := "SortLineEventsModel", name := "event", desc := "(II)I" } : Jvm.MethodName)) ∈ BIG := big_in (i := 740) (by decide +kernel) rfl
set_option maxRecDepth 100000 in
theorem mw_741 : (Jvm.Cond.code ({ cls := "SortLineEventsModel", name := "event", desc := "(II)I" } : Jvm.MethodName) prog_12_method_26_code (3 : Nat) (Option.some Jvm.ClassFile.FieldType.int)) ∈ BIG := big_in (i := 741) rfl rfl
theorem mw_742 : (Jvm.Cond.methodLink "SortLineEventsLaw" (75 : Nat) ({ cls := "SortLineEventsModel", name := "out", desc := "(II)J" } : Jvm.MethodName)) ∈ BIG := big_in (i := 742) (by decide +kernel) rfl
theorem mw_743 : (Jvm.Cond.instanceMethod ({ cls := "SortLineEventsModel", name := "out", desc := "(II)J" } : Jvm.MethodName)) ∈ BIG := big_in (i := 743) (by decide +kernel) rfl
theorem mw_744 : (Jvm.Cond.selects "SortLineEventsModel" ({ cls := "SortLineEventsModel", name := "out", desc := "(II)J" } : Jvm.MethodName) ({ cls := "SortLineEventsModel", name := "out", desc := "(II)J" } : Jvm.MethodName)) ∈ BIG := big_in (i := 744) (by decide +kernel) rfl
set_option maxRecDepth 100000 in
theorem mw_745 : (Jvm.Cond.code ({ cls := "SortLineEventsModel", name := "out", desc := "(II)J" } : Jvm.MethodName) prog_12_method_28_code (3 : Nat) (Option.some Jvm.ClassFile.FieldType.long)) ∈ BIG := big_in (i := 745) rfl rfl
theorem mw_746 : (Jvm.Cond.methodLink "SortLineEventsModel" (223 : Nat) ({ cls := "SortLineEventsModel", name := "isKind", desc := "(II)Z" } : Jvm.MethodName)) ∈ BIG := big_in (i := 746) (by decide +kernel) rfl
theorem mw_748 : (Jvm.Cond.instanceMethod ({ cls := "SortLineEventsModel", name := "isKind", desc := "(II)Z" } : Jvm.MethodName)) ∈ BIG := big_in (i := 748) (by decide +kernel) rfl
set_option maxRecDepth 100000 in
theorem mw_749 : (Jvm.Cond.code ({ cls := "SortLineEventsModel", name := "isKind", desc := "(II)Z" } : Jvm.MethodName) prog_12_method_27_code (3 : Nat) (Option.some Jvm.ClassFile.FieldType.boolean)) ∈ BIG := big_in (i := 749) rfl rfl
theorem mw_750 : (Jvm.Cond.constantLong "SortLineEventsModel" (227 : Nat) (-1 : Int64)) ∈ BIG := big_in (i := 750) (by decide +kernel) rfl
theorem mw_751 : (Jvm.Cond.methodLink "SortLineEventsLaw" (80 : Nat) ({ cls := "SortLineEventsModel", name := "inside", desc := "()J" } : Jvm.MethodName)) ∈ BIG := big_in (i := 751) (by decide +kernel) rfl
theorem mw_752 : (Jvm.Cond.instanceMethod ({ cls := "SortLineEventsModel", name := "inside", desc := "()J" } : Jvm.MethodName)) ∈ BIG := big_in (i := 752) (by decide +kernel) rfl
theorem mw_753 : (Jvm.Cond.selects "SortLineEventsModel" ({ cls := "SortLineEventsModel", name := "inside", desc := "()J" } : Jvm.MethodName) ({ cls := "SortLineEventsModel", name := "inside", desc := "()J" } : Jvm.MethodName)) ∈ BIG := big_in (i := 753) (by decide +kernel) rfl
set_option maxRecDepth 100000 in
theorem mw_754 : (Jvm.Cond.code ({ cls := "SortLineEventsModel", name := "inside", desc := "()J" } : Jvm.MethodName) prog_12_method_30_code (1 : Nat) (Option.some Jvm.ClassFile.FieldType.long)) ∈ BIG := big_in (i := 754) rfl rfl
theorem mw_755 : (Jvm.Cond.methodLink "SortLineEventsModel" (229 : Nat) ({ cls := "SortLineEventsModel", name := "count", desc := "(I)I" } : Jvm.MethodName)) ∈ BIG := big_in (i := 755) (by decide +kernel) rfl
theorem mw_757 : (Jvm.Cond.instanceMethod ({ cls := "SortLineEventsModel", name := "count", desc := "(I)I" } : Jvm.MethodName)) ∈ BIG := big_in (i := 757) (by decide +kernel) rfl
set_option maxRecDepth 100000 in
theorem mw_758 : (Jvm.Cond.code ({ cls := "SortLineEventsModel", name := "count", desc := "(I)I" } : Jvm.MethodName) prog_12_method_29_code (4 : Nat) (Option.some Jvm.ClassFile.FieldType.int)) ∈ BIG := big_in (i := 758) rfl rfl
theorem mw_759 : (Jvm.Cond.methodLink "SortLineEventsLaw" (84 : Nat) ({ cls := "SortLineEventsModel", name := "jam", desc := "(II)I" } : Jvm.MethodName)) ∈ BIG := big_in (i := 759) (by decide +kernel) rfl
theorem mw_760 : (Jvm.Cond.instanceMethod ({ cls := "SortLineEventsModel", name := "jam", desc := "(II)I" } : Jvm.MethodName)) ∈ BIG := big_in (i := 760) (by decide +kernel) rfl
theorem mw_761 : (Jvm.Cond.selects "SortLineEventsModel" ({ cls := "SortLineEventsModel", name := "jam", desc := "(II)I" } : Jvm.MethodName) ({ cls := "SortLineEventsModel", name := "jam", desc := "(II)I" } : Jvm.MethodName)) ∈ BIG := big_in (i := 761) (by decide +kernel) rfl
set_option maxRecDepth 100000 in
theorem mw_762 : (Jvm.Cond.code ({ cls := "SortLineEventsModel", name := "jam", desc := "(II)I" } : Jvm.MethodName) prog_12_method_31_code (3 : Nat) (Option.some Jvm.ClassFile.FieldType.int)) ∈ BIG := big_in (i := 762) rfl rfl
theorem mw_763 : (Jvm.Cond.methodLink "SortLineEventsLaw" (89 : Nat) ({ cls := "SortLineEventsModel", name := "lost", desc := "(I)J" } : Jvm.MethodName)) ∈ BIG := big_in (i := 763) (by decide +kernel) rfl
theorem mw_764 : (Jvm.Cond.instanceMethod ({ cls := "SortLineEventsModel", name := "lost", desc := "(I)J" } : Jvm.MethodName)) ∈ BIG := big_in (i := 764) (by decide +kernel) rfl
theorem mw_765 : (Jvm.Cond.selects "SortLineEventsModel" ({ cls := "SortLineEventsModel", name := "lost", desc := "(I)J" } : Jvm.MethodName) ({ cls := "SortLineEventsModel", name := "lost", desc := "(I)J" } : Jvm.MethodName)) ∈ BIG := big_in (i := 765) (by decide +kernel) rfl
set_option maxRecDepth 100000 in
theorem mw_766 : (Jvm.Cond.code ({ cls := "SortLineEventsModel", name := "lost", desc := "(I)J" } : Jvm.MethodName) prog_12_method_32_code (2 : Nat) (Option.some Jvm.ClassFile.FieldType.long)) ∈ BIG := big_in (i := 766) rfl rfl
theorem mw_767 : (Jvm.Cond.methodLink "SortLineEventsLaw" (94 : Nat) ({ cls := "SortLineEventsModel", name := "interval", desc := "(III)D" } : Jvm.MethodName)) ∈ BIG := big_in (i := 767) (by decide +kernel) rfl
theorem mw_768 : (Jvm.Cond.instanceMethod ({ cls := "SortLineEventsModel", name := "interval", desc := "(III)D" } : Jvm.MethodName)) ∈ BIG := big_in (i := 768) (by decide +kernel) rfl
theorem mw_769 : (Jvm.Cond.selects "SortLineEventsModel" ({ cls := "SortLineEventsModel", name := "interval", desc := "(III)D" } : Jvm.MethodName) ({ cls := "SortLineEventsModel", name := "interval", desc := "(III)D" } : Jvm.MethodName)) ∈ BIG := big_in (i := 769) (by decide +kernel) rfl
set_option maxRecDepth 100000 in
theorem mw_770 : (Jvm.Cond.code ({ cls := "SortLineEventsModel", name := "interval", desc := "(III)D" } : Jvm.MethodName) prog_12_method_33_code (4 : Nat) (Option.some Jvm.ClassFile.FieldType.double)) ∈ BIG := big_in (i := 770) rfl rfl
theorem mw_771 : (Jvm.Cond.constantDouble "SortLineEventsModel" (232 : Nat) (13830554455654793216 : UInt64)) ∈ BIG := big_in (i := 771) (by decide +kernel) rfl
theorem mw_772 : (Jvm.Cond.methodLink "SortLineEventsLaw" (99 : Nat) ({ cls := "SortLineEventsModel", name := "same", desc := "()Z" } : Jvm.MethodName)) ∈ BIG := big_in (i := 772) (by decide +kernel) rfl
theorem mw_773 : (Jvm.Cond.instanceMethod ({ cls := "SortLineEventsModel", name := "same", desc := "()Z" } : Jvm.MethodName)) ∈ BIG := big_in (i := 773) (by decide +kernel) rfl
theorem mw_774 : (Jvm.Cond.selects "SortLineEventsModel" ({ cls := "SortLineEventsModel", name := "same", desc := "()Z" } : Jvm.MethodName) ({ cls := "SortLineEventsModel", name := "same", desc := "()Z" } : Jvm.MethodName)) ∈ BIG := big_in (i := 774) (by decide +kernel) rfl
set_option maxRecDepth 100000 in
theorem mw_775 : (Jvm.Cond.code ({ cls := "SortLineEventsModel", name := "same", desc := "()Z" } : Jvm.MethodName) prog_12_method_34_code (3 : Nat) (Option.some Jvm.ClassFile.FieldType.boolean)) ∈ BIG := big_in (i := 775) rfl rfl
theorem mw_776 : (Jvm.Cond.methodLink "SortLineEventsModel" (234 : Nat) ({ cls := "SortLineEventsModel", name := "inside", desc := "()J" } : Jvm.MethodName)) ∈ BIG := big_in (i := 776) (by decide +kernel) rfl
theorem mw_777 : (Jvm.Cond.methodLink "SortLineEventsLaw" (106 : Nat) ({ cls := "SortLineEventsModel", name := "pieceKind", desc := "(J)I" } : Jvm.MethodName)) ∈ BIG := big_in (i := 777) (by decide +kernel) rfl
theorem mw_778 : (Jvm.Cond.instanceMethod ({ cls := "SortLineEventsModel", name := "pieceKind", desc := "(J)I" } : Jvm.MethodName)) ∈ BIG := big_in (i := 778) (by decide +kernel) rfl
theorem mw_779 : (Jvm.Cond.selects "SortLineEventsModel" ({ cls := "SortLineEventsModel", name := "pieceKind", desc := "(J)I" } : Jvm.MethodName) ({ cls := "SortLineEventsModel", name := "pieceKind", desc := "(J)I" } : Jvm.MethodName)) ∈ BIG := big_in (i := 779) (by decide +kernel) rfl
set_option maxRecDepth 100000 in
theorem mw_780 : (Jvm.Cond.code ({ cls := "SortLineEventsModel", name := "pieceKind", desc := "(J)I" } : Jvm.MethodName) prog_12_method_35_code (3 : Nat) (Option.some Jvm.ClassFile.FieldType.int)) ∈ BIG := big_in (i := 780) rfl rfl
theorem mw_781 : (Jvm.Cond.constantDouble "SortLineEventsLaw" (21 : Nat) (4593671619917905920 : UInt64)) ∈ BIG := big_in (i := 781) (by decide +kernel) rfl
theorem mw_782 : (Jvm.Cond.constantLong "SortLineEventsLaw" (100 : Nat) (4294967295 : Int64)) ∈ BIG := big_in (i := 782) (by decide +kernel) rfl
theorem mp_0 : Cond.selects "SortLineEvents" ⟨"SortLineEvents", "isClosed", "()Z"⟩ ⟨"SortLineEvents", "isClosed", "()Z"⟩ ∈ BIG := big_pv (i := 0) (by decide +kernel) rfl
theorem mp_1 : Cond.selects "SortLineEvents" ⟨"SortLineEvents", "beltNumbered", "(I)LSortLineEvents$Belt;"⟩ ⟨"SortLineEvents", "beltNumbered", "(I)LSortLineEvents$Belt;"⟩ ∈ BIG := big_pv (i := 1) (by decide +kernel) rfl
theorem mp_2 : Cond.selects "SortLineEvents" ⟨"SortLineEvents", "bunkerJoinedBy", "(I)LSortLineEvents$Bunker;"⟩ ⟨"SortLineEvents", "bunkerJoinedBy", "(I)LSortLineEvents$Bunker;"⟩ ∈ BIG := big_pv (i := 2) (by decide +kernel) rfl
theorem mp_3 : Cond.selects "SortLineEvents" ⟨"SortLineEvents", "passOneTenth", "()V"⟩ ⟨"SortLineEvents", "passOneTenth", "()V"⟩ ∈ BIG := big_pv (i := 3) (by decide +kernel) rfl
theorem mp_4 : Cond.selects "SortLineEvents" ⟨"SortLineEvents", "comeOn", "(LSortLineEvents$Piece;)V"⟩ ⟨"SortLineEvents", "comeOn", "(LSortLineEvents$Piece;)V"⟩ ∈ BIG := big_pv (i := 4) (by decide +kernel) rfl
theorem mp_5 : Cond.selects "SortLineEvents" ⟨"SortLineEvents", "act", "(LSortLineEvents$Piece;)V"⟩ ⟨"SortLineEvents", "act", "(LSortLineEvents$Piece;)V"⟩ ∈ BIG := big_pv (i := 5) (by decide +kernel) rfl
theorem mp_6 : Cond.selects "SortLineEvents" ⟨"SortLineEvents", "enter", "(LSortLineEvents$Piece;LSortLineEvents$Belt;)V"⟩ ⟨"SortLineEvents", "enter", "(LSortLineEvents$Piece;LSortLineEvents$Belt;)V"⟩ ∈ BIG := big_pv (i := 6) (by decide +kernel) rfl
theorem mp_7 : Cond.selects "SortLineEvents" ⟨"SortLineEvents", "loadWith", "(LSortLineEvents$Piece;LSortLineEvents$Belt;)D"⟩ ⟨"SortLineEvents", "loadWith", "(LSortLineEvents$Piece;LSortLineEvents$Belt;)D"⟩ ∈ BIG := big_pv (i := 7) (by decide +kernel) rfl
theorem mp_8 : Cond.selects "SortLineEvents" ⟨"SortLineEvents", "jamBy", "(LSortLineEvents$Piece;LSortLineEvents$Belt;)V"⟩ ⟨"SortLineEvents", "jamBy", "(LSortLineEvents$Piece;LSortLineEvents$Belt;)V"⟩ ∈ BIG := big_pv (i := 8) (by decide +kernel) rfl
theorem mp_9 : Cond.selects "SortLineEvents" ⟨"SortLineEvents", "passHeads", "(LSortLineEvents$Piece;LSortLineEvents$Belt;)V"⟩ ⟨"SortLineEvents", "passHeads", "(LSortLineEvents$Piece;LSortLineEvents$Belt;)V"⟩ ∈ BIG := big_pv (i := 9) (by decide +kernel) rfl
theorem mp_10 : Cond.selects "SortLineEvents" ⟨"SortLineEvents", "chance", "(II)D"⟩ ⟨"SortLineEvents", "chance", "(II)D"⟩ ∈ BIG := big_pv (i := 10) (by decide +kernel) rfl
theorem mp_11 : Cond.selects "SortLineEvents" ⟨"SortLineEvents", "leave", "(LSortLineEvents$Piece;LSortLineEvents$Belt;)V"⟩ ⟨"SortLineEvents", "leave", "(LSortLineEvents$Piece;LSortLineEvents$Belt;)V"⟩ ∈ BIG := big_pv (i := 11) (by decide +kernel) rfl
theorem mp_12 : Cond.selects "SortLineEvents" ⟨"SortLineEvents", "takenByRobot", "(LSortLineEvents$Piece;LSortLineEvents$Belt;)Z"⟩ ⟨"SortLineEvents", "takenByRobot", "(LSortLineEvents$Piece;LSortLineEvents$Belt;)Z"⟩ ∈ BIG := big_pv (i := 12) (by decide +kernel) rfl
theorem mp_13 : Cond.selects "SortLineEvents" ⟨"SortLineEvents", "takenByPicker", "(LSortLineEvents$Piece;LSortLineEvents$Belt;)Z"⟩ ⟨"SortLineEvents", "takenByPicker", "(LSortLineEvents$Piece;LSortLineEvents$Belt;)Z"⟩ ∈ BIG := big_pv (i := 13) (by decide +kernel) rfl
theorem mp_14 : Cond.selects "SortLineEvents" ⟨"SortLineEvents", "fill", "(LSortLineEvents$Piece;LSortLineEvents$Bunker;)V"⟩ ⟨"SortLineEvents", "fill", "(LSortLineEvents$Piece;LSortLineEvents$Bunker;)V"⟩ ∈ BIG := big_pv (i := 14) (by decide +kernel) rfl
theorem mp_15 : Cond.selects "SortLineEvents" ⟨"SortLineEvents", "onBelts", "()I"⟩ ⟨"SortLineEvents", "onBelts", "()I"⟩ ∈ BIG := big_pv (i := 15) (by decide +kernel) rfl
theorem mp_16 : Cond.selects "SortLineEventsModel" ⟨"SortLineEventsModel", "isOpen", "()Z"⟩ ⟨"SortLineEventsModel", "isOpen", "()Z"⟩ ∈ BIG := big_pv (i := 16) (by decide +kernel) rfl
theorem mp_17 : Cond.selects "SortLineEventsModel" ⟨"SortLineEventsModel", "isBelt", "(I)Z"⟩ ⟨"SortLineEventsModel", "isBelt", "(I)Z"⟩ ∈ BIG := big_pv (i := 17) (by decide +kernel) rfl
theorem mp_18 : Cond.selects "SortLineEventsModel" ⟨"SortLineEventsModel", "tenth", "()V"⟩ ⟨"SortLineEventsModel", "tenth", "()V"⟩ ∈ BIG := big_pv (i := 18) (by decide +kernel) rfl
theorem mp_19 : Cond.selects "SortLineEventsModel" ⟨"SortLineEventsModel", "enter", "(II)V"⟩ ⟨"SortLineEventsModel", "enter", "(II)V"⟩ ∈ BIG := big_pv (i := 19) (by decide +kernel) rfl
theorem mp_20 : Cond.selects "SortLineEventsModel" ⟨"SortLineEventsModel", "lose", "(IIII)V"⟩ ⟨"SortLineEventsModel", "lose", "(IIII)V"⟩ ∈ BIG := big_pv (i := 20) (by decide +kernel) rfl
theorem mp_21 : Cond.selects "SortLineEventsModel" ⟨"SortLineEventsModel", "note", "(III)V"⟩ ⟨"SortLineEventsModel", "note", "(III)V"⟩ ∈ BIG := big_pv (i := 21) (by decide +kernel) rfl
theorem mp_22 : Cond.selects "SortLineEventsModel" ⟨"SortLineEventsModel", "sizesOn", "(II)D"⟩ ⟨"SortLineEventsModel", "sizesOn", "(II)D"⟩ ∈ BIG := big_pv (i := 22) (by decide +kernel) rfl
theorem mp_23 : Cond.selects "SortLineEventsModel" ⟨"SortLineEventsModel", "piecesOn", "(I)I"⟩ ⟨"SortLineEventsModel", "piecesOn", "(I)I"⟩ ∈ BIG := big_pv (i := 23) (by decide +kernel) rfl
theorem mp_24 : Cond.selects "SortLineEventsModel" ⟨"SortLineEventsModel", "pass", "(I)V"⟩ ⟨"SortLineEventsModel", "pass", "(I)V"⟩ ∈ BIG := big_pv (i := 24) (by decide +kernel) rfl
theorem mp_25 : Cond.selects "SortLineEventsModel" ⟨"SortLineEventsModel", "chance", "(II)D"⟩ ⟨"SortLineEventsModel", "chance", "(II)D"⟩ ∈ BIG := big_pv (i := 25) (by decide +kernel) rfl
theorem mp_26 : Cond.selects "SortLineEventsModel" ⟨"SortLineEventsModel", "isTaken", "(I)Z"⟩ ⟨"SortLineEventsModel", "isTaken", "(I)Z"⟩ ∈ BIG := big_pv (i := 26) (by decide +kernel) rfl
theorem mp_27 : Cond.selects "SortLineEventsModel" ⟨"SortLineEventsModel", "goOn", "(I)V"⟩ ⟨"SortLineEventsModel", "goOn", "(I)V"⟩ ∈ BIG := big_pv (i := 27) (by decide +kernel) rfl
theorem mp_28 : Cond.selects "SortLineEventsModel" ⟨"SortLineEventsModel", "goOut", "(I)V"⟩ ⟨"SortLineEventsModel", "goOut", "(I)V"⟩ ∈ BIG := big_pv (i := 28) (by decide +kernel) rfl
theorem mp_29 : Cond.selects "SortLineEventsModel" ⟨"SortLineEventsModel", "isKind", "(II)Z"⟩ ⟨"SortLineEventsModel", "isKind", "(II)Z"⟩ ∈ BIG := big_pv (i := 29) (by decide +kernel) rfl
theorem mp_30 : Cond.selects "SortLineEventsModel" ⟨"SortLineEventsModel", "count", "(I)I"⟩ ⟨"SortLineEventsModel", "count", "(I)I"⟩ ∈ BIG := big_pv (i := 30) (by decide +kernel) rfl
