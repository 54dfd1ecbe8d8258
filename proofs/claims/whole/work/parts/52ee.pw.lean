set_option maxRecDepth 100000 in
theorem pw_1086 : Cond.selects RX8 yX8_kept yX8_kept ∈ lw_tbl := List.mem_of_getElem? (i := 1086) rfl
set_option maxRecDepth 100000 in
theorem pw_1087 : (.code yX8_kept cX8_kept 12 (some .int) : Cond) ∈ lw_tbl := List.mem_of_getElem? (i := 1087) rfl
set_option maxRecDepth 100000 in
theorem pw_1088 : Cond.methodLink RL 132 yX8_none ∈ lw_tbl := List.mem_of_getElem? (i := 1088) rfl
set_option maxRecDepth 100000 in
theorem pw_1089 : Cond.instanceMethod yX8_none ∈ lw_tbl := List.mem_of_getElem? (i := 1089) rfl
set_option maxRecDepth 100000 in
theorem pw_1090 : Cond.selects RX8 yX8_none yX8_none ∈ lw_tbl := List.mem_of_getElem? (i := 1090) rfl
set_option maxRecDepth 100000 in
theorem pw_1091 : (.code yX8_none cX8_none 9 (some .int) : Cond) ∈ lw_tbl := List.mem_of_getElem? (i := 1091) rfl
set_option maxRecDepth 100000 in
theorem pw_1092 : Cond.methodLink RX8 224 yX8_spreadAt ∈ lw_tbl := List.mem_of_getElem? (i := 1092) rfl
set_option maxRecDepth 100000 in
theorem pw_1094 : Cond.instanceMethod yX8_spreadAt ∈ lw_tbl := List.mem_of_getElem? (i := 1094) rfl
set_option maxRecDepth 100000 in
theorem pw_1095 : Cond.code yX8_spreadAt cX8_spreadAt 3 (some .int) ∈ lw_tbl := List.mem_of_getElem? (i := 1095) rfl
set_option maxRecDepth 100000 in
theorem pw_1096 : Cond.methodLink RL 136 yX8_edge ∈ lw_tbl := List.mem_of_getElem? (i := 1096) rfl
set_option maxRecDepth 100000 in
theorem pw_1097 : Cond.instanceMethod yX8_edge ∈ lw_tbl := List.mem_of_getElem? (i := 1097) rfl
set_option maxRecDepth 100000 in
theorem pw_1098 : Cond.selects RX8 yX8_edge yX8_edge ∈ lw_tbl := List.mem_of_getElem? (i := 1098) rfl
set_option maxRecDepth 100000 in
theorem pw_1099 : (.code yX8_edge cX8_edge 11 (some .int) : Cond) ∈ lw_tbl := List.mem_of_getElem? (i := 1099) rfl
set_option maxRecDepth 100000 in
theorem pw_1100 : (.methodLink RX8 227 yX8_form : Cond) ∈ lw_tbl := List.mem_of_getElem? (i := 1100) rfl
set_option maxRecDepth 100000 in
theorem pw_1102 : (.instanceMethod yX8_form : Cond) ∈ lw_tbl := List.mem_of_getElem? (i := 1102) rfl
set_option maxRecDepth 100000 in
theorem pw_1103 : (.code yX8_form cX8_form 2 (some .long) : Cond) ∈ lw_tbl := List.mem_of_getElem? (i := 1103) rfl
set_option maxRecDepth 100000 in
theorem pw_1104 : (.constantLong RX8 231 (18) : Cond) ∈ lw_tbl := List.mem_of_getElem? (i := 1104) rfl
set_option maxRecDepth 100000 in
theorem pw_1105 : (.constantLong RX8 233 (27) : Cond) ∈ lw_tbl := List.mem_of_getElem? (i := 1105) rfl
set_option maxRecDepth 100000 in
theorem pw_1106 : (.constantLong RX8 235 (3) : Cond) ∈ lw_tbl := List.mem_of_getElem? (i := 1106) rfl
set_option maxRecDepth 100000 in
theorem pw_1107 : (.constantLong RX8 237 (9) : Cond) ∈ lw_tbl := List.mem_of_getElem? (i := 1107) rfl
set_option maxRecDepth 100000 in
theorem pw_1108 : Cond.methodLink RL 140 yX8_far ∈ lw_tbl := List.mem_of_getElem? (i := 1108) rfl
set_option maxRecDepth 100000 in
theorem pw_1109 : Cond.instanceMethod yX8_far ∈ lw_tbl := List.mem_of_getElem? (i := 1109) rfl
set_option maxRecDepth 100000 in
theorem pw_1110 : Cond.selects RX8 yX8_far yX8_far ∈ lw_tbl := List.mem_of_getElem? (i := 1110) rfl
set_option maxRecDepth 100000 in
theorem pw_1111 : (.code yX8_far cX8_far 3 (some .int) : Cond) ∈ lw_tbl := List.mem_of_getElem? (i := 1111) rfl
set_option maxRecDepth 100000 in
theorem pw_1112 : Cond.methodLink RL 144 yX8_keep ∈ lw_tbl := List.mem_of_getElem? (i := 1112) rfl
set_option maxRecDepth 100000 in
theorem pw_1113 : Cond.instanceMethod yX8_keep ∈ lw_tbl := List.mem_of_getElem? (i := 1113) rfl
set_option maxRecDepth 100000 in
theorem pw_1114 : Cond.selects RX8 yX8_keep yX8_keep ∈ lw_tbl := List.mem_of_getElem? (i := 1114) rfl
set_option maxRecDepth 100000 in
theorem pw_1115 : (.code yX8_keep cX8_keep 3 (some .int) : Cond) ∈ lw_tbl := List.mem_of_getElem? (i := 1115) rfl
set_option maxRecDepth 100000 in
theorem pw_1116 : Cond.methodLink RX8 239 yX8_isSlot ∈ lw_tbl := List.mem_of_getElem? (i := 1116) rfl
set_option maxRecDepth 100000 in
theorem pw_1117 : Cond.static yX8_isSlot ∈ lw_tbl := List.mem_of_getElem? (i := 1117) rfl
set_option maxRecDepth 100000 in
theorem pw_1118 : Cond.code yX8_isSlot cX8_isSlot 1 (some .boolean) ∈ lw_tbl := List.mem_of_getElem? (i := 1118) rfl
set_option maxRecDepth 100000 in
theorem pw_1119 : Cond.methodLink RX8 242 yX8_kindOf ∈ lw_tbl := List.mem_of_getElem? (i := 1119) rfl
set_option maxRecDepth 100000 in
theorem pw_1121 : Cond.instanceMethod yX8_kindOf ∈ lw_tbl := List.mem_of_getElem? (i := 1121) rfl
set_option maxRecDepth 100000 in
theorem pw_1122 : Cond.code yX8_kindOf cX8_kindOf 3 (some .int) ∈ lw_tbl := List.mem_of_getElem? (i := 1122) rfl
set_option maxRecDepth 100000 in
theorem pw_1123 : Cond.methodLink RL 148 yX8_bring ∈ lw_tbl := List.mem_of_getElem? (i := 1123) rfl
set_option maxRecDepth 100000 in
theorem pw_1124 : Cond.instanceMethod yX8_bring ∈ lw_tbl := List.mem_of_getElem? (i := 1124) rfl
set_option maxRecDepth 100000 in
theorem pw_1125 : Cond.selects RX8 yX8_bring yX8_bring ∈ lw_tbl := List.mem_of_getElem? (i := 1125) rfl
set_option maxRecDepth 100000 in
theorem pw_1126 : (.code yX8_bring cX8_bring 3 (some .int) : Cond) ∈ lw_tbl := List.mem_of_getElem? (i := 1126) rfl
set_option maxRecDepth 100000 in
theorem pw_1127 : Cond.methodLink RL 152 yX8_as ∈ lw_tbl := List.mem_of_getElem? (i := 1127) rfl
set_option maxRecDepth 100000 in
theorem pw_1128 : Cond.instanceMethod yX8_as ∈ lw_tbl := List.mem_of_getElem? (i := 1128) rfl
set_option maxRecDepth 100000 in
theorem pw_1129 : Cond.selects RX8 yX8_as yX8_as ∈ lw_tbl := List.mem_of_getElem? (i := 1129) rfl
set_option maxRecDepth 100000 in
theorem pw_1130 : (.code yX8_as cX8_as 6 (some .int) : Cond) ∈ lw_tbl := List.mem_of_getElem? (i := 1130) rfl
set_option maxRecDepth 100000 in
theorem pw_1131 : Cond.methodLink RL 156 yX8_sheet ∈ lw_tbl := List.mem_of_getElem? (i := 1131) rfl
set_option maxRecDepth 100000 in
theorem pw_1132 : Cond.instanceMethod yX8_sheet ∈ lw_tbl := List.mem_of_getElem? (i := 1132) rfl
set_option maxRecDepth 100000 in
theorem pw_1133 : Cond.selects RX8 yX8_sheet yX8_sheet ∈ lw_tbl := List.mem_of_getElem? (i := 1133) rfl
set_option maxRecDepth 100000 in
theorem pw_1134 : (.code yX8_sheet cX8_sheet 5 (some .int) : Cond) ∈ lw_tbl := List.mem_of_getElem? (i := 1134) rfl
set_option maxRecDepth 100000 in
theorem pw_1135 : Cond.methodLink RL 160 yX8_write ∈ lw_tbl := List.mem_of_getElem? (i := 1135) rfl
set_option maxRecDepth 100000 in
theorem pw_1136 : Cond.instanceMethod yX8_write ∈ lw_tbl := List.mem_of_getElem? (i := 1136) rfl
set_option maxRecDepth 100000 in
theorem pw_1137 : Cond.selects RX8 yX8_write yX8_write ∈ lw_tbl := List.mem_of_getElem? (i := 1137) rfl
set_option maxRecDepth 100000 in
theorem pw_1138 : (.code yX8_write cX8_write 4 (some .int) : Cond) ∈ lw_tbl := List.mem_of_getElem? (i := 1138) rfl
set_option maxRecDepth 100000 in
theorem pw_1139 : (.constant RX8 245 (-1000002) : Cond) ∈ lw_tbl := List.mem_of_getElem? (i := 1139) rfl
set_option maxRecDepth 100000 in
theorem pw_1140 : Cond.methodLink RL 165 yX8_copy ∈ lw_tbl := List.mem_of_getElem? (i := 1140) rfl
set_option maxRecDepth 100000 in
theorem pw_1141 : Cond.instanceMethod yX8_copy ∈ lw_tbl := List.mem_of_getElem? (i := 1141) rfl
set_option maxRecDepth 100000 in
theorem pw_1142 : Cond.selects RX8 yX8_copy yX8_copy ∈ lw_tbl := List.mem_of_getElem? (i := 1142) rfl
set_option maxRecDepth 100000 in
theorem pw_1143 : (.code yX8_copy cX8_copy 7 (some .int) : Cond) ∈ lw_tbl := List.mem_of_getElem? (i := 1143) rfl
set_option maxRecDepth 100000 in
theorem pw_1144 : Cond.methodLink RL 169 yX8_lay ∈ lw_tbl := List.mem_of_getElem? (i := 1144) rfl
set_option maxRecDepth 100000 in
theorem pw_1145 : Cond.instanceMethod yX8_lay ∈ lw_tbl := List.mem_of_getElem? (i := 1145) rfl
set_option maxRecDepth 100000 in
theorem pw_1146 : Cond.selects RX8 yX8_lay yX8_lay ∈ lw_tbl := List.mem_of_getElem? (i := 1146) rfl
set_option maxRecDepth 100000 in
theorem pw_1147 : (.code yX8_lay cX8_lay 4 (some .int) : Cond) ∈ lw_tbl := List.mem_of_getElem? (i := 1147) rfl
set_option maxRecDepth 100000 in
theorem pw_1148 : Cond.methodLink RL 173 yX8_undo ∈ lw_tbl := List.mem_of_getElem? (i := 1148) rfl
set_option maxRecDepth 100000 in
theorem pw_1149 : Cond.instanceMethod yX8_undo ∈ lw_tbl := List.mem_of_getElem? (i := 1149) rfl
set_option maxRecDepth 100000 in
theorem pw_1150 : Cond.selects RX8 yX8_undo yX8_undo ∈ lw_tbl := List.mem_of_getElem? (i := 1150) rfl
set_option maxRecDepth 100000 in
theorem pw_1151 : (.code yX8_undo cX8_undo 2 (some .int) : Cond) ∈ lw_tbl := List.mem_of_getElem? (i := 1151) rfl
set_option maxRecDepth 100000 in
theorem pw_1152 : Cond.methodLink RL 177 yX8_told ∈ lw_tbl := List.mem_of_getElem? (i := 1152) rfl
set_option maxRecDepth 100000 in
theorem pw_1153 : Cond.instanceMethod yX8_told ∈ lw_tbl := List.mem_of_getElem? (i := 1153) rfl
set_option maxRecDepth 100000 in
theorem pw_1154 : Cond.selects RX8 yX8_told yX8_told ∈ lw_tbl := List.mem_of_getElem? (i := 1154) rfl
set_option maxRecDepth 100000 in
theorem pw_1155 : (.code yX8_told cX8_told 4 (some .int) : Cond) ∈ lw_tbl := List.mem_of_getElem? (i := 1155) rfl
