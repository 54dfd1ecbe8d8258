set_option maxRecDepth 100000 in
theorem pw_0 : Cond.selects RX7 yX7_finding yX7_finding ∈ lw_tbl := List.mem_of_getElem? (i := 0) rfl
set_option maxRecDepth 100000 in
theorem pw_1 : Cond.selects RX7 yX7_takeDraft yX7_takeDraft ∈ lw_tbl := List.mem_of_getElem? (i := 1) rfl
set_option maxRecDepth 100000 in
theorem pw_3 : Cond.selects RX7 yX7_refusalOfPiece yX7_refusalOfPiece ∈ lw_tbl := List.mem_of_getElem? (i := 3) rfl
set_option maxRecDepth 100000 in
theorem pw_4 : Cond.selects RX7 yX7_signAcross yX7_signAcross ∈ lw_tbl := List.mem_of_getElem? (i := 4) rfl
set_option maxRecDepth 100000 in
theorem pw_5 : Cond.selects RX7 yX7_followAcross yX7_followAcross ∈ lw_tbl := List.mem_of_getElem? (i := 5) rfl
set_option maxRecDepth 100000 in
theorem pw_6 : Cond.selects RX7 yX7_followSpeeds yX7_followSpeeds ∈ lw_tbl := List.mem_of_getElem? (i := 6) rfl
set_option maxRecDepth 100000 in
theorem pw_7 : Cond.selects RX7 yX7_clearChange yX7_clearChange ∈ lw_tbl := List.mem_of_getElem? (i := 7) rfl
set_option maxRecDepth 100000 in
theorem pw_8 : Cond.selects RX7 yX7_addChange yX7_addChange ∈ lw_tbl := List.mem_of_getElem? (i := 8) rfl
set_option maxRecDepth 100000 in
theorem pw_9 : Cond.selects RX7 yX7_countFilledSlots yX7_countFilledSlots ∈ lw_tbl := List.mem_of_getElem? (i := 9) rfl
set_option maxRecDepth 100000 in
theorem pw_10 : Cond.selects RX8 yX8_found yX8_found ∈ lw_tbl := List.mem_of_getElem? (i := 10) rfl
set_option maxRecDepth 100000 in
theorem pw_11 : (.selects RX8 yX8_remember yX8_remember : Cond) ∈ lw_tbl := List.mem_of_getElem? (i := 11) rfl
set_option maxRecDepth 100000 in
theorem pw_12 : Cond.selects RX8 yX8_get yX8_get ∈ lw_tbl := List.mem_of_getElem? (i := 12) rfl
set_option maxRecDepth 100000 in
theorem pw_13 : Cond.selects RX8 yX8_speedAt yX8_speedAt ∈ lw_tbl := List.mem_of_getElem? (i := 13) rfl
set_option maxRecDepth 100000 in
theorem pw_14 : Cond.selects RX8 yX8_slopeAt yX8_slopeAt ∈ lw_tbl := List.mem_of_getElem? (i := 14) rfl
set_option maxRecDepth 100000 in
theorem pw_15 : Cond.selects RX8 yX8_take yX8_take ∈ lw_tbl := List.mem_of_getElem? (i := 15) rfl
set_option maxRecDepth 100000 in
theorem pw_16 : Cond.selects RX8 yX8_isSmall yX8_isSmall ∈ lw_tbl := List.mem_of_getElem? (i := 16) rfl
set_option maxRecDepth 100000 in
theorem pw_17 : Cond.selects RX8 yX8_isRest yX8_isRest ∈ lw_tbl := List.mem_of_getElem? (i := 17) rfl
set_option maxRecDepth 100000 in
theorem pw_18 : Cond.selects RX8 yX8_sortAt yX8_sortAt ∈ lw_tbl := List.mem_of_getElem? (i := 18) rfl
set_option maxRecDepth 100000 in
theorem pw_19 : Cond.selects RX8 yX8_corners yX8_corners ∈ lw_tbl := List.mem_of_getElem? (i := 19) rfl
set_option maxRecDepth 100000 in
theorem pw_20 : Cond.selects RX8 yX8_xOf yX8_xOf ∈ lw_tbl := List.mem_of_getElem? (i := 20) rfl
set_option maxRecDepth 100000 in
theorem pw_21 : Cond.selects RX8 yX8_yOf yX8_yOf ∈ lw_tbl := List.mem_of_getElem? (i := 21) rfl
set_option maxRecDepth 100000 in
theorem pw_22 : Cond.selects RX8 yX8_isSimple yX8_isSimple ∈ lw_tbl := List.mem_of_getElem? (i := 22) rfl
set_option maxRecDepth 100000 in
theorem pw_23 : Cond.selects RX8 yX8_isOn yX8_isOn ∈ lw_tbl := List.mem_of_getElem? (i := 23) rfl
set_option maxRecDepth 100000 in
theorem pw_24 : Cond.selects RX8 yX8_doMeet yX8_doMeet ∈ lw_tbl := List.mem_of_getElem? (i := 24) rfl
set_option maxRecDepth 100000 in
theorem pw_25 : Cond.selects RX8 yX8_areaOf yX8_areaOf ∈ lw_tbl := List.mem_of_getElem? (i := 25) rfl
set_option maxRecDepth 100000 in
theorem pw_26 : Cond.selects RX8 yX8_where yX8_where ∈ lw_tbl := List.mem_of_getElem? (i := 26) rfl
set_option maxRecDepth 100000 in
theorem pw_27 : Cond.selects RX8 yX8_zeros yX8_zeros ∈ lw_tbl := List.mem_of_getElem? (i := 27) rfl
set_option maxRecDepth 100000 in
theorem pw_28 : Cond.selects RX8 yX8_cross yX8_cross ∈ lw_tbl := List.mem_of_getElem? (i := 28) rfl
set_option maxRecDepth 100000 in
theorem pw_29 : Cond.selects RX8 yX8_follow yX8_follow ∈ lw_tbl := List.mem_of_getElem? (i := 29) rfl
set_option maxRecDepth 100000 in
theorem pw_30 : Cond.selects RX8 yX8_findRoots yX8_findRoots ∈ lw_tbl := List.mem_of_getElem? (i := 30) rfl
set_option maxRecDepth 100000 in
theorem pw_31 : Cond.selects RX8 yX8_only yX8_only ∈ lw_tbl := List.mem_of_getElem? (i := 31) rfl
set_option maxRecDepth 100000 in
theorem pw_32 : Cond.selects RX8 yX8_acrossOf yX8_acrossOf ∈ lw_tbl := List.mem_of_getElem? (i := 32) rfl
set_option maxRecDepth 100000 in
theorem pw_33 : Cond.selects RX8 yX8_notePiece yX8_notePiece ∈ lw_tbl := List.mem_of_getElem? (i := 33) rfl
set_option maxRecDepth 100000 in
theorem pw_34 : Cond.selects RX8 yX8_hasNought yX8_hasNought ∈ lw_tbl := List.mem_of_getElem? (i := 34) rfl
set_option maxRecDepth 100000 in
theorem pw_35 : Cond.selects RX8 yX8_note yX8_note ∈ lw_tbl := List.mem_of_getElem? (i := 35) rfl
set_option maxRecDepth 100000 in
theorem pw_36 : Cond.selects RX8 yX8_signAt yX8_signAt ∈ lw_tbl := List.mem_of_getElem? (i := 36) rfl
set_option maxRecDepth 100000 in
theorem pw_37 : Cond.selects RX8 yX8_changes yX8_changes ∈ lw_tbl := List.mem_of_getElem? (i := 37) rfl
set_option maxRecDepth 100000 in
theorem pw_38 : Cond.selects RX8 yX8_spreadAt yX8_spreadAt ∈ lw_tbl := List.mem_of_getElem? (i := 38) rfl
set_option maxRecDepth 100000 in
theorem pw_39 : (.selects RX8 yX8_form yX8_form : Cond) ∈ lw_tbl := List.mem_of_getElem? (i := 39) rfl
set_option maxRecDepth 100000 in
theorem pw_40 : Cond.selects RX8 yX8_kindOf yX8_kindOf ∈ lw_tbl := List.mem_of_getElem? (i := 40) rfl
set_option maxRecDepth 100000 in
theorem pw_42 : Cond.initialized RX7 ∈ lw_tbl := List.mem_of_getElem? (i := 42) rfl
set_option maxRecDepth 100000 in
theorem pw_43 : Cond.initialized RX1 ∈ lw_tbl := List.mem_of_getElem? (i := 43) rfl
set_option maxRecDepth 100000 in
theorem pw_44 : Cond.initialized RX3 ∈ lw_tbl := List.mem_of_getElem? (i := 44) rfl
set_option maxRecDepth 100000 in
theorem pw_45 : Cond.initialized RX0 ∈ lw_tbl := List.mem_of_getElem? (i := 45) rfl
set_option maxRecDepth 100000 in
theorem pw_46 : Cond.initialized RX2 ∈ lw_tbl := List.mem_of_getElem? (i := 46) rfl
set_option maxRecDepth 100000 in
theorem pw_47 : (.initialized RX5 : Cond) ∈ lw_tbl := List.mem_of_getElem? (i := 47) rfl
set_option maxRecDepth 100000 in
theorem pw_48 : Cond.initialized RX4 ∈ lw_tbl := List.mem_of_getElem? (i := 48) rfl
set_option maxRecDepth 100000 in
theorem pw_49 : Cond.initialized RX6 ∈ lw_tbl := List.mem_of_getElem? (i := 49) rfl
set_option maxRecDepth 100000 in
theorem pw_50 : Cond.initialized RX8 ∈ lw_tbl := List.mem_of_getElem? (i := 50) rfl
set_option maxRecDepth 100000 in
theorem pw_51 : Cond.initialized "java/lang/System" ∈ lw_tbl := List.mem_of_getElem? (i := 51) rfl
set_option maxRecDepth 100000 in
theorem pw_52 : Cond.initialized "java/lang/Math" ∈ lw_tbl := List.mem_of_getElem? (i := 52) rfl
set_option maxRecDepth 100000 in
theorem pw_53 : Cond.initialized RJ13 ∈ lw_tbl := List.mem_of_getElem? (i := 53) rfl
set_option maxRecDepth 100000 in
theorem pw_58 : (.code yX7_init cX7_init 2 none : Cond) ∈ lw_tbl := List.mem_of_getElem? (i := 58) rfl
set_option maxRecDepth 100000 in
theorem pw_59 : Cond.methodLink RX7 1 objectInit ∈ lw_tbl := List.mem_of_getElem? (i := 59) rfl
set_option maxRecDepth 100000 in
theorem pw_60 : Cond.instanceMethod objectInit ∈ lw_tbl := List.mem_of_getElem? (i := 60) rfl
set_option maxRecDepth 100000 in
theorem pw_61 : Cond.code objectInit ⟨#[0xb1]⟩ 1 none ∈ lw_tbl := List.mem_of_getElem? (i := 61) rfl
set_option maxRecDepth 100000 in
theorem pw_62 : Cond.classLink RX7 7 RX1 ∈ lw_tbl := List.mem_of_getElem? (i := 62) rfl
set_option maxRecDepth 100000 in
theorem pw_63 : Cond.instantiable RX1 2 ∈ lw_tbl := List.mem_of_getElem? (i := 63) rfl
set_option maxRecDepth 100000 in
theorem pw_65 : Cond.instanceMethod yX1_init ∈ lw_tbl := List.mem_of_getElem? (i := 65) rfl
set_option maxRecDepth 100000 in
theorem pw_66 : Cond.code yX1_init cX1_init 1 none ∈ lw_tbl := List.mem_of_getElem? (i := 66) rfl
set_option maxRecDepth 100000 in
theorem pw_67 : Cond.methodLink RX1 3 objectInit ∈ lw_tbl := List.mem_of_getElem? (i := 67) rfl
set_option maxRecDepth 100000 in
theorem pw_68 : Cond.classLink RX1 9 RX3 ∈ lw_tbl := List.mem_of_getElem? (i := 68) rfl
set_option maxRecDepth 100000 in
theorem pw_69 : Cond.instantiable RX3 1 ∈ lw_tbl := List.mem_of_getElem? (i := 69) rfl
set_option maxRecDepth 100000 in
theorem pw_71 : Cond.instanceMethod yX3_init ∈ lw_tbl := List.mem_of_getElem? (i := 71) rfl
set_option maxRecDepth 100000 in
theorem pw_72 : Cond.code yX3_init cX3_init 1 none ∈ lw_tbl := List.mem_of_getElem? (i := 72) rfl
set_option maxRecDepth 100000 in
theorem pw_73 : Cond.methodLink RX3 3 objectInit ∈ lw_tbl := List.mem_of_getElem? (i := 73) rfl
set_option maxRecDepth 100000 in
theorem pw_74 : Cond.fieldLink RX3 9 "FlowPlane$Polynomial" "numbers" "[I" ∈ lw_tbl := List.mem_of_getElem? (i := 74) rfl
set_option maxRecDepth 100000 in
theorem pw_75 : Cond.fieldLink RX7 96 "FlowPlane$Polynomial" "numbers" "[I" ∈ lw_tbl := List.mem_of_getElem? (i := 75) rfl
set_option maxRecDepth 100000 in
theorem pw_76 : Cond.fieldLink RX2 35 "FlowPlane$Polynomial" "numbers" "[I" ∈ lw_tbl := List.mem_of_getElem? (i := 76) rfl
set_option maxRecDepth 100000 in
theorem pw_77 : Cond.fieldLink RX1 52 "FlowPlane$Polynomial" "numbers" "[I" ∈ lw_tbl := List.mem_of_getElem? (i := 77) rfl
set_option maxRecDepth 100000 in
theorem pw_78 : u_lay RX3 TX3 0 ∈ lw_tbl := List.mem_of_getElem? (i := 78) rfl
set_option maxRecDepth 100000 in
theorem pw_81 : Cond.arrayClass .int ∈ lw_tbl := List.mem_of_getElem? (i := 81) rfl
set_option maxRecDepth 100000 in
theorem pw_82 : Cond.fieldLink RX1 12 "FlowPlane$Flow" "p" "LFlowPlane$Polynomial;" ∈ lw_tbl := List.mem_of_getElem? (i := 82) rfl
set_option maxRecDepth 100000 in
theorem pw_83 : Cond.fieldLink RX2 29 "FlowPlane$Flow" "p" "LFlowPlane$Polynomial;" ∈ lw_tbl := List.mem_of_getElem? (i := 83) rfl
set_option maxRecDepth 100000 in
theorem pw_84 : Cond.fieldLink RX7 117 "FlowPlane$Flow" "p" "LFlowPlane$Polynomial;" ∈ lw_tbl := List.mem_of_getElem? (i := 84) rfl
set_option maxRecDepth 100000 in
theorem pw_85 : Cond.fieldLink RX1 18 "FlowPlane$Flow" "q" "LFlowPlane$Polynomial;" ∈ lw_tbl := List.mem_of_getElem? (i := 85) rfl
set_option maxRecDepth 100000 in
theorem pw_86 : Cond.fieldLink RX2 47 "FlowPlane$Flow" "q" "LFlowPlane$Polynomial;" ∈ lw_tbl := List.mem_of_getElem? (i := 86) rfl
set_option maxRecDepth 100000 in
theorem pw_87 : Cond.fieldLink RX7 125 "FlowPlane$Flow" "q" "LFlowPlane$Polynomial;" ∈ lw_tbl := List.mem_of_getElem? (i := 87) rfl
set_option maxRecDepth 100000 in
theorem pw_88 : u_lay RX1 TX1 0 ∈ lw_tbl := List.mem_of_getElem? (i := 88) rfl
set_option maxRecDepth 100000 in
theorem pw_90 : u_lay RX1 TX1 1 ∈ lw_tbl := List.mem_of_getElem? (i := 90) rfl
set_option maxRecDepth 100000 in
theorem pw_93 : Cond.classLink RX7 19 RX0 ∈ lw_tbl := List.mem_of_getElem? (i := 93) rfl
set_option maxRecDepth 100000 in
theorem pw_94 : Cond.instantiable RX0 3 ∈ lw_tbl := List.mem_of_getElem? (i := 94) rfl
set_option maxRecDepth 100000 in
theorem pw_96 : Cond.instanceMethod yX0_init ∈ lw_tbl := List.mem_of_getElem? (i := 96) rfl
set_option maxRecDepth 100000 in
theorem pw_97 : Cond.code yX0_init cX0_init 1 none ∈ lw_tbl := List.mem_of_getElem? (i := 97) rfl
set_option maxRecDepth 100000 in
theorem pw_98 : Cond.methodLink RX0 3 objectInit ∈ lw_tbl := List.mem_of_getElem? (i := 98) rfl
set_option maxRecDepth 100000 in
theorem pw_99 : Cond.fieldLink RX0 9 "FlowPlane$Fence" "xs" "[I" ∈ lw_tbl := List.mem_of_getElem? (i := 99) rfl
set_option maxRecDepth 100000 in
theorem pw_100 : Cond.fieldLink RX4 9 "FlowPlane$Fence" "xs" "[I" ∈ lw_tbl := List.mem_of_getElem? (i := 100) rfl
set_option maxRecDepth 100000 in
theorem pw_101 : Cond.fieldLink RX2 53 "FlowPlane$Fence" "xs" "[I" ∈ lw_tbl := List.mem_of_getElem? (i := 101) rfl
set_option maxRecDepth 100000 in
theorem pw_102 : Cond.fieldLink RX0 15 "FlowPlane$Fence" "ys" "[I" ∈ lw_tbl := List.mem_of_getElem? (i := 102) rfl
set_option maxRecDepth 100000 in
theorem pw_103 : Cond.fieldLink RX4 15 "FlowPlane$Fence" "ys" "[I" ∈ lw_tbl := List.mem_of_getElem? (i := 103) rfl
set_option maxRecDepth 100000 in
theorem pw_104 : Cond.fieldLink RX2 56 "FlowPlane$Fence" "ys" "[I" ∈ lw_tbl := List.mem_of_getElem? (i := 104) rfl
set_option maxRecDepth 100000 in
theorem pw_105 : Cond.fieldLink RX0 18 "FlowPlane$Fence" "count" "I" ∈ lw_tbl := List.mem_of_getElem? (i := 105) rfl
set_option maxRecDepth 100000 in
theorem pw_106 : Cond.fieldLink RX2 50 "FlowPlane$Fence" "count" "I" ∈ lw_tbl := List.mem_of_getElem? (i := 106) rfl
set_option maxRecDepth 100000 in
theorem pw_107 : Cond.fieldLink RX7 160 "FlowPlane$Fence" "count" "I" ∈ lw_tbl := List.mem_of_getElem? (i := 107) rfl
set_option maxRecDepth 100000 in
theorem pw_108 : u_lay RX0 TX0 0 ∈ lw_tbl := List.mem_of_getElem? (i := 108) rfl
set_option maxRecDepth 100000 in
theorem pw_110 : u_lay RX0 TX0 1 ∈ lw_tbl := List.mem_of_getElem? (i := 110) rfl
set_option maxRecDepth 100000 in
theorem pw_112 : u_lay RX0 TX0 2 ∈ lw_tbl := List.mem_of_getElem? (i := 112) rfl
set_option maxRecDepth 100000 in
theorem pw_115 : Cond.classLink RX7 26 RX2 ∈ lw_tbl := List.mem_of_getElem? (i := 115) rfl
set_option maxRecDepth 100000 in
theorem pw_116 : Cond.instantiable RX2 3 ∈ lw_tbl := List.mem_of_getElem? (i := 116) rfl
set_option maxRecDepth 100000 in
theorem pw_118 : Cond.instanceMethod yX2_init ∈ lw_tbl := List.mem_of_getElem? (i := 118) rfl
set_option maxRecDepth 100000 in
theorem pw_119 : Cond.code yX2_init cX2_init 1 none ∈ lw_tbl := List.mem_of_getElem? (i := 119) rfl
set_option maxRecDepth 100000 in
theorem pw_120 : Cond.methodLink RX2 5 objectInit ∈ lw_tbl := List.mem_of_getElem? (i := 120) rfl
set_option maxRecDepth 100000 in
theorem pw_121 : Cond.classLink RX2 11 "[[I" ∈ lw_tbl := List.mem_of_getElem? (i := 121) rfl
set_option maxRecDepth 100000 in
theorem pw_123 : Cond.fieldLink RX2 13 "FlowPlane$Past" "rows" "[[I" ∈ lw_tbl := List.mem_of_getElem? (i := 123) rfl
set_option maxRecDepth 100000 in
theorem pw_124 : Cond.fieldLink RX2 16 "FlowPlane$Past" "count" "I" ∈ lw_tbl := List.mem_of_getElem? (i := 124) rfl
set_option maxRecDepth 100000 in
theorem pw_125 : Cond.fieldLink RX7 295 "FlowPlane$Past" "count" "I" ∈ lw_tbl := List.mem_of_getElem? (i := 125) rfl
set_option maxRecDepth 100000 in
theorem pw_126 : Cond.fieldLink RX2 20 "FlowPlane$Past" "latest" "I" ∈ lw_tbl := List.mem_of_getElem? (i := 126) rfl
set_option maxRecDepth 100000 in
theorem pw_127 : u_lay RX2 TX2 0 ∈ lw_tbl := List.mem_of_getElem? (i := 127) rfl
set_option maxRecDepth 100000 in
theorem pw_129 : u_lay RX2 TX2 1 ∈ lw_tbl := List.mem_of_getElem? (i := 129) rfl
set_option maxRecDepth 100000 in
theorem pw_131 : u_lay RX2 TX2 2 ∈ lw_tbl := List.mem_of_getElem? (i := 131) rfl
set_option maxRecDepth 100000 in
theorem pw_135 : Cond.classLink RX7 41 RX5 ∈ lw_tbl := List.mem_of_getElem? (i := 135) rfl
set_option maxRecDepth 100000 in
theorem pw_137 : Cond.instantiable RX5 3 ∈ lw_tbl := List.mem_of_getElem? (i := 137) rfl
set_option maxRecDepth 100000 in
theorem pw_139 : Cond.instanceMethod yX5_init ∈ lw_tbl := List.mem_of_getElem? (i := 139) rfl
set_option maxRecDepth 100000 in
theorem pw_140 : Cond.code yX5_init cX5_init 1 none ∈ lw_tbl := List.mem_of_getElem? (i := 140) rfl
set_option maxRecDepth 100000 in
theorem pw_141 : Cond.methodLink RX5 3 objectInit ∈ lw_tbl := List.mem_of_getElem? (i := 141) rfl
set_option maxRecDepth 100000 in
theorem pw_142 : (.fieldLink RX5 9 "FlowPlane$Sheet" "numbers" "[I" : Cond) ∈ lw_tbl := List.mem_of_getElem? (i := 142) rfl
set_option maxRecDepth 100000 in
theorem pw_143 : (.fieldLink RX7 276 "FlowPlane$Sheet" "numbers" "[I" : Cond) ∈ lw_tbl := List.mem_of_getElem? (i := 143) rfl
set_option maxRecDepth 100000 in
theorem pw_144 : (.fieldLink RX5 15 "FlowPlane$Sheet" "bits" "I" : Cond) ∈ lw_tbl := List.mem_of_getElem? (i := 144) rfl
set_option maxRecDepth 100000 in
theorem pw_145 : Cond.fieldLink RX7 280 "FlowPlane$Sheet" "bits" "I" ∈ lw_tbl := List.mem_of_getElem? (i := 145) rfl
set_option maxRecDepth 100000 in
theorem pw_146 : (.fieldLink RX5 19 "FlowPlane$Sheet" "size" "I" : Cond) ∈ lw_tbl := List.mem_of_getElem? (i := 146) rfl
set_option maxRecDepth 100000 in
theorem pw_147 : (.fieldLink RX7 269 "FlowPlane$Sheet" "size" "I" : Cond) ∈ lw_tbl := List.mem_of_getElem? (i := 147) rfl
set_option maxRecDepth 100000 in
theorem pw_148 : u_lay RX5 TX5 0 ∈ lw_tbl := List.mem_of_getElem? (i := 148) rfl
set_option maxRecDepth 100000 in
theorem pw_150 : u_lay RX5 TX5 1 ∈ lw_tbl := List.mem_of_getElem? (i := 150) rfl
set_option maxRecDepth 100000 in
theorem pw_152 : u_lay RX5 TX5 2 ∈ lw_tbl := List.mem_of_getElem? (i := 152) rfl
set_option maxRecDepth 100000 in
theorem pw_155 : Cond.classLink RX7 48 RX4 ∈ lw_tbl := List.mem_of_getElem? (i := 155) rfl
set_option maxRecDepth 100000 in
theorem pw_156 : Cond.instantiable RX4 3 ∈ lw_tbl := List.mem_of_getElem? (i := 156) rfl
set_option maxRecDepth 100000 in
theorem pw_158 : Cond.instanceMethod yX4_init ∈ lw_tbl := List.mem_of_getElem? (i := 158) rfl
set_option maxRecDepth 100000 in
theorem pw_159 : Cond.code yX4_init cX4_init 1 none ∈ lw_tbl := List.mem_of_getElem? (i := 159) rfl
set_option maxRecDepth 100000 in
theorem pw_160 : Cond.methodLink RX4 3 objectInit ∈ lw_tbl := List.mem_of_getElem? (i := 160) rfl
set_option maxRecDepth 100000 in
theorem pw_161 : Cond.fieldLink RX4 31 "FlowPlane$Quadratic" "a" "J" ∈ lw_tbl := List.mem_of_getElem? (i := 161) rfl
set_option maxRecDepth 100000 in
theorem pw_162 : Cond.fieldLink RX4 43 "FlowPlane$Quadratic" "b" "J" ∈ lw_tbl := List.mem_of_getElem? (i := 162) rfl
set_option maxRecDepth 100000 in
theorem pw_163 : Cond.fieldLink RX4 49 "FlowPlane$Quadratic" "c" "J" ∈ lw_tbl := List.mem_of_getElem? (i := 163) rfl
set_option maxRecDepth 100000 in
theorem pw_164 : Cond.fieldLink RX7 316 "FlowPlane$Quadratic" "c" "J" ∈ lw_tbl := List.mem_of_getElem? (i := 164) rfl
set_option maxRecDepth 100000 in
theorem pw_165 : u_lay RX4 TX4 0 ∈ lw_tbl := List.mem_of_getElem? (i := 165) rfl
set_option maxRecDepth 100000 in
theorem pw_167 : u_lay RX4 TX4 1 ∈ lw_tbl := List.mem_of_getElem? (i := 167) rfl
set_option maxRecDepth 100000 in
theorem pw_169 : u_lay RX4 TX4 2 ∈ lw_tbl := List.mem_of_getElem? (i := 169) rfl
set_option maxRecDepth 100000 in
theorem pw_172 : Cond.classLink RX7 64 RX6 ∈ lw_tbl := List.mem_of_getElem? (i := 172) rfl
set_option maxRecDepth 100000 in
theorem pw_173 : Cond.instantiable RX6 1 ∈ lw_tbl := List.mem_of_getElem? (i := 173) rfl
set_option maxRecDepth 100000 in
theorem pw_175 : Cond.instanceMethod yX6_init ∈ lw_tbl := List.mem_of_getElem? (i := 175) rfl
set_option maxRecDepth 100000 in
theorem pw_176 : Cond.code yX6_init cX6_init 1 none ∈ lw_tbl := List.mem_of_getElem? (i := 176) rfl
set_option maxRecDepth 100000 in
theorem pw_177 : Cond.methodLink RX6 3 objectInit ∈ lw_tbl := List.mem_of_getElem? (i := 177) rfl
set_option maxRecDepth 100000 in
theorem pw_178 : Cond.classLink RX6 9 "[[J" ∈ lw_tbl := List.mem_of_getElem? (i := 178) rfl
set_option maxRecDepth 100000 in
theorem pw_180 : Cond.fieldLink RX6 11 "FlowPlane$Table" "rows" "[[J" ∈ lw_tbl := List.mem_of_getElem? (i := 180) rfl
set_option maxRecDepth 100000 in
theorem pw_181 : u_lay RX6 TX6 0 ∈ lw_tbl := List.mem_of_getElem? (i := 181) rfl
set_option maxRecDepth 100000 in
theorem pw_184 : Cond.arrayClass .long ∈ lw_tbl := List.mem_of_getElem? (i := 184) rfl
set_option maxRecDepth 100000 in
theorem pw_185 : Cond.fieldLink RX7 10 "FlowPlane" "flow" "LFlowPlane$Flow;" ∈ lw_tbl := List.mem_of_getElem? (i := 185) rfl
set_option maxRecDepth 100000 in
theorem pw_186 : Cond.fieldLink RX7 16 "FlowPlane" "draft" "LFlowPlane$Flow;" ∈ lw_tbl := List.mem_of_getElem? (i := 186) rfl
set_option maxRecDepth 100000 in
theorem pw_187 : Cond.fieldLink RX7 22 "FlowPlane" "fence" "LFlowPlane$Fence;" ∈ lw_tbl := List.mem_of_getElem? (i := 187) rfl
set_option maxRecDepth 100000 in
theorem pw_188 : Cond.fieldLink RX7 29 "FlowPlane" "past" "LFlowPlane$Past;" ∈ lw_tbl := List.mem_of_getElem? (i := 188) rfl
set_option maxRecDepth 100000 in
theorem pw_189 : Cond.fieldLink RX7 33 "FlowPlane" "slots" "[LFlowPlane$Flow;" ∈ lw_tbl := List.mem_of_getElem? (i := 189) rfl
set_option maxRecDepth 100000 in
theorem pw_190 : Cond.fieldLink RX7 37 "FlowPlane" "slotKinds" "[I" ∈ lw_tbl := List.mem_of_getElem? (i := 190) rfl
set_option maxRecDepth 100000 in
theorem pw_191 : (.fieldLink RX7 43 "FlowPlane" "sheets" "[LFlowPlane$Sheet;" : Cond) ∈ lw_tbl := List.mem_of_getElem? (i := 191) rfl
set_option maxRecDepth 100000 in
theorem pw_192 : Cond.fieldLink RX7 51 "FlowPlane" "speedX" "LFlowPlane$Quadratic;" ∈ lw_tbl := List.mem_of_getElem? (i := 192) rfl
set_option maxRecDepth 100000 in
theorem pw_193 : Cond.fieldLink RX7 55 "FlowPlane" "speedY" "LFlowPlane$Quadratic;" ∈ lw_tbl := List.mem_of_getElem? (i := 193) rfl
set_option maxRecDepth 100000 in
theorem pw_194 : Cond.fieldLink RX7 58 "FlowPlane" "leftward" "LFlowPlane$Quadratic;" ∈ lw_tbl := List.mem_of_getElem? (i := 194) rfl
set_option maxRecDepth 100000 in
theorem pw_195 : Cond.fieldLink RX7 61 "FlowPlane" "change" "[I" ∈ lw_tbl := List.mem_of_getElem? (i := 195) rfl
set_option maxRecDepth 100000 in
theorem pw_196 : Cond.fieldLink RX7 67 "FlowPlane" "table" "LFlowPlane$Table;" ∈ lw_tbl := List.mem_of_getElem? (i := 196) rfl
set_option maxRecDepth 100000 in
theorem pw_197 : Cond.fieldLink RX7 71 "FlowPlane" "findings" "I" ∈ lw_tbl := List.mem_of_getElem? (i := 197) rfl
set_option maxRecDepth 100000 in
theorem pw_198 : u_lay RX7 TX7 0 ∈ lw_tbl := List.mem_of_getElem? (i := 198) rfl
set_option maxRecDepth 100000 in
theorem pw_200 : u_lay RX7 TX7 1 ∈ lw_tbl := List.mem_of_getElem? (i := 200) rfl
set_option maxRecDepth 100000 in
theorem pw_202 : u_lay RX7 TX7 2 ∈ lw_tbl := List.mem_of_getElem? (i := 202) rfl
set_option maxRecDepth 100000 in
theorem pw_204 : u_lay RX7 TX7 3 ∈ lw_tbl := List.mem_of_getElem? (i := 204) rfl
set_option maxRecDepth 100000 in
theorem pw_206 : u_lay RX7 TX7 4 ∈ lw_tbl := List.mem_of_getElem? (i := 206) rfl
set_option maxRecDepth 100000 in
theorem pw_208 : u_lay RX7 TX7 5 ∈ lw_tbl := List.mem_of_getElem? (i := 208) rfl
set_option maxRecDepth 100000 in
theorem pw_210 : u_lay RX7 TX7 6 ∈ lw_tbl := List.mem_of_getElem? (i := 210) rfl
set_option maxRecDepth 100000 in
theorem pw_212 : u_lay RX7 TX7 7 ∈ lw_tbl := List.mem_of_getElem? (i := 212) rfl
set_option maxRecDepth 100000 in
theorem pw_214 : u_lay RX7 TX7 8 ∈ lw_tbl := List.mem_of_getElem? (i := 214) rfl
set_option maxRecDepth 100000 in
theorem pw_216 : u_lay RX7 TX7 9 ∈ lw_tbl := List.mem_of_getElem? (i := 216) rfl
set_option maxRecDepth 100000 in
theorem pw_218 : u_lay RX7 TX7 10 ∈ lw_tbl := List.mem_of_getElem? (i := 218) rfl
set_option maxRecDepth 100000 in
theorem pw_220 : u_lay RX7 TX7 11 ∈ lw_tbl := List.mem_of_getElem? (i := 220) rfl
set_option maxRecDepth 100000 in
theorem pw_222 : u_lay RX7 TX7 12 ∈ lw_tbl := List.mem_of_getElem? (i := 222) rfl
set_option maxRecDepth 100000 in
theorem pw_232 : Cond.methodLink RX7 79 yX7_isWithin ∈ lw_tbl := List.mem_of_getElem? (i := 232) rfl
set_option maxRecDepth 100000 in
theorem pw_233 : Cond.static yX7_isWithin ∈ lw_tbl := List.mem_of_getElem? (i := 233) rfl
set_option maxRecDepth 100000 in
theorem pw_234 : Cond.code yX7_isWithin cX7_isWithin 2 (some .boolean) ∈ lw_tbl := List.mem_of_getElem? (i := 234) rfl
set_option maxRecDepth 100000 in
theorem pw_235 : Cond.constant RX7 83 (-1000001) ∈ lw_tbl := List.mem_of_getElem? (i := 235) rfl
set_option maxRecDepth 100000 in
theorem pw_236 : Cond.methodLink RX7 84 yX7_finding ∈ lw_tbl := List.mem_of_getElem? (i := 236) rfl
set_option maxRecDepth 100000 in
theorem pw_238 : Cond.instanceMethod yX7_finding ∈ lw_tbl := List.mem_of_getElem? (i := 238) rfl
set_option maxRecDepth 100000 in
theorem pw_239 : Cond.code yX7_finding cX7_finding 2 (some .int) ∈ lw_tbl := List.mem_of_getElem? (i := 239) rfl
set_option maxRecDepth 100000 in
theorem pw_240 : Cond.methodLink RX7 88 yX1_become ∈ lw_tbl := List.mem_of_getElem? (i := 240) rfl
set_option maxRecDepth 100000 in
theorem pw_241 : Cond.instanceMethod yX1_become ∈ lw_tbl := List.mem_of_getElem? (i := 241) rfl
set_option maxRecDepth 100000 in
theorem pw_242 : Cond.selects RX1 yX1_become yX1_become ∈ lw_tbl := List.mem_of_getElem? (i := 242) rfl
set_option maxRecDepth 100000 in
theorem pw_243 : Cond.code yX1_become cX1_become 2 none ∈ lw_tbl := List.mem_of_getElem? (i := 243) rfl
set_option maxRecDepth 100000 in
theorem pw_244 : Cond.methodLink RX1 21 yX3_become ∈ lw_tbl := List.mem_of_getElem? (i := 244) rfl
set_option maxRecDepth 100000 in
theorem pw_245 : Cond.instanceMethod yX3_become ∈ lw_tbl := List.mem_of_getElem? (i := 245) rfl
set_option maxRecDepth 100000 in
theorem pw_246 : Cond.selects RX3 yX3_become yX3_become ∈ lw_tbl := List.mem_of_getElem? (i := 246) rfl
set_option maxRecDepth 100000 in
theorem pw_247 : Cond.code yX3_become cX3_become 2 none ∈ lw_tbl := List.mem_of_getElem? (i := 247) rfl
set_option maxRecDepth 100000 in
theorem pw_248 : Cond.methodLink RX3 23 arraycopyName ∈ lw_tbl := List.mem_of_getElem? (i := 248) rfl
set_option maxRecDepth 100000 in
theorem pw_249 : Cond.static arraycopyName ∈ lw_tbl := List.mem_of_getElem? (i := 249) rfl
set_option maxRecDepth 100000 in
theorem pw_250 : Cond.native arraycopyName ∈ lw_tbl := List.mem_of_getElem? (i := 250) rfl
set_option maxRecDepth 100000 in
theorem pw_251 : Cond.methodLink RX7 92 yX1_part ∈ lw_tbl := List.mem_of_getElem? (i := 251) rfl
set_option maxRecDepth 100000 in
theorem pw_252 : Cond.instanceMethod yX1_part ∈ lw_tbl := List.mem_of_getElem? (i := 252) rfl
set_option maxRecDepth 100000 in
theorem pw_253 : Cond.selects RX1 yX1_part yX1_part ∈ lw_tbl := List.mem_of_getElem? (i := 253) rfl
set_option maxRecDepth 100000 in
theorem pw_254 : Cond.code yX1_part cX1_part 2 (some (.object "FlowPlane$Polynomial")) ∈ lw_tbl := List.mem_of_getElem? (i := 254) rfl
set_option maxRecDepth 100000 in
theorem pw_255 : Cond.methodLink RX7 101 yX7_takeDraft ∈ lw_tbl := List.mem_of_getElem? (i := 255) rfl
set_option maxRecDepth 100000 in
theorem pw_257 : Cond.instanceMethod yX7_takeDraft ∈ lw_tbl := List.mem_of_getElem? (i := 257) rfl
set_option maxRecDepth 100000 in
theorem pw_258 : Cond.code yX7_takeDraft cX7_takeDraft 2 (some .int) ∈ lw_tbl := List.mem_of_getElem? (i := 258) rfl
set_option maxRecDepth 100000 in
theorem pw_259 : Cond.methodLink RX7 164 yX2_remember ∈ lw_tbl := List.mem_of_getElem? (i := 259) rfl
set_option maxRecDepth 100000 in
theorem pw_260 : Cond.instanceMethod yX2_remember ∈ lw_tbl := List.mem_of_getElem? (i := 260) rfl
set_option maxRecDepth 100000 in
theorem pw_261 : Cond.selects RX2 yX2_remember yX2_remember ∈ lw_tbl := List.mem_of_getElem? (i := 261) rfl
set_option maxRecDepth 100000 in
theorem pw_262 : Cond.code yX2_remember cX2_remember 4 none ∈ lw_tbl := List.mem_of_getElem? (i := 262) rfl
