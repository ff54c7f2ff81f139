theorem ko_X7_julian : TG (.code yX7_julian prog_9_method_44_code (2 : Nat) (Option.some FieldType.double)) := tgm 1071 (by decide +kernel) (by decide +kernel)
theorem kd_X7_247 : TG (.constantDouble RX7 247 (4702495533095190528 : UInt64)) := tgm 1072 (by decide +kernel) (by decide +kernel)
theorem kd_X7_249 : TG (.constantDouble RX7 249 (4815374002031689728 : UInt64)) := tgm 1073 (by decide +kernel) (by decide +kernel)
theorem km_L_155 : TG (.methodLink RL 155 yX7_type) := tgm 1074 (by decide +kernel) (by decide +kernel)
theorem kn_X7_type : TG (.instanceMethod yX7_type) := tgm 1075 (by decide +kernel) (by decide +kernel)
theorem kv_X7_type : TG (.selects RX7 yX7_type yX7_type) := tgm 1076 (by decide +kernel) (by decide +kernel)
theorem ko_X7_type : TG (.code yX7_type prog_9_method_45_code (2 : Nat) (Option.some FieldType.boolean)) := tgm 1077 (by decide +kernel) (by decide +kernel)
theorem km_L_159 : TG (.methodLink RL 159 yX7_parse) := tgm 1078 (by decide +kernel) (by decide +kernel)
theorem kn_X7_parse : TG (.instanceMethod yX7_parse) := tgm 1079 (by decide +kernel) (by decide +kernel)
theorem kv_X7_parse : TG (.selects RX7 yX7_parse yX7_parse) := tgm 1080 (by decide +kernel) (by decide +kernel)
theorem ko_X7_parse : TG (.code yX7_parse prog_9_method_49_code (8 : Nat) (Option.none : Option FieldType)) := tgm 1081 (by decide +kernel) (by decide +kernel)
theorem km_X7_257 : TG (.methodLink RX7 257 yX7_eat) := tgm 1082 (by decide +kernel) (by decide +kernel)
theorem kn_X7_eat : TG (.instanceMethod yX7_eat) := tgm 1084 (by decide +kernel) (by decide +kernel)
theorem ko_X7_eat : TG (.code yX7_eat prog_9_method_46_code (3 : Nat) (Option.some FieldType.boolean)) := tgm 1085 (by decide +kernel) (by decide +kernel)
theorem km_X7_268 : TG (.methodLink RX7 268 yX7_digits) := tgm 1086 (by decide +kernel) (by decide +kernel)
theorem kn_X7_digits : TG (.instanceMethod yX7_digits) := tgm 1088 (by decide +kernel) (by decide +kernel)
theorem ko_X7_digits : TG (.code yX7_digits prog_9_method_48_code (5 : Nat) (Option.some FieldType.int)) := tgm 1089 (by decide +kernel) (by decide +kernel)
theorem kl_X7_264 : TG (.constantLong RX7 264 (48)) := tgm 1090 (by decide +kernel) (by decide +kernel)
theorem kl_X7_266 : TG (.constantLong RX7 266 (57)) := tgm 1091 (by decide +kernel) (by decide +kernel)
theorem km_X7_272 : TG (.methodLink RX7 272 yX7_want) := tgm 1092 (by decide +kernel) (by decide +kernel)
theorem kn_X7_want : TG (.instanceMethod yX7_want) := tgm 1094 (by decide +kernel) (by decide +kernel)
theorem ko_X7_want : TG (.code yX7_want prog_9_method_47_code (2 : Nat) (Option.none : Option FieldType)) := tgm 1095 (by decide +kernel) (by decide +kernel)
theorem km_X7_276 : TG (.methodLink RX7 276 yX7_timeIn) := tgm 1096 (by decide +kernel) (by decide +kernel)
theorem kn_X7_timeIn : TG (.instanceMethod yX7_timeIn) := tgm 1098 (by decide +kernel) (by decide +kernel)
theorem ko_X7_timeIn : TG (.code yX7_timeIn prog_9_method_50_code (8 : Nat) (Option.some FieldType.long)) := tgm 1099 (by decide +kernel) (by decide +kernel)
theorem kl_X7_280 : TG (.constantLong RX7 280 (10)) := tgm 1100 (by decide +kernel) (by decide +kernel)
theorem kl_X7_282 : TG (.constantLong RX7 282 (3600)) := tgm 1101 (by decide +kernel) (by decide +kernel)
theorem km_L_162 : TG (.methodLink RL 162 yX7_text) := tgm 1102 (by decide +kernel) (by decide +kernel)
theorem kn_X7_text : TG (.instanceMethod yX7_text) := tgm 1103 (by decide +kernel) (by decide +kernel)
theorem kv_X7_text : TG (.selects RX7 yX7_text yX7_text) := tgm 1104 (by decide +kernel) (by decide +kernel)
theorem ko_X7_text : TG (.code yX7_text prog_9_method_53_code (8 : Nat) (Option.some FieldType.int)) := tgm 1105 (by decide +kernel) (by decide +kernel)
theorem km_X7_287 : TG (.methodLink RX7 287 yX7_put) := tgm 1106 (by decide +kernel) (by decide +kernel)
theorem kn_X7_put : TG (.instanceMethod yX7_put) := tgm 1108 (by decide +kernel) (by decide +kernel)
theorem ko_X7_put : TG (.code yX7_put prog_9_method_51_code (2 : Nat) (Option.none : Option FieldType)) := tgm 1109 (by decide +kernel) (by decide +kernel)
theorem km_X7_290 : TG (.methodLink RX7 290 yX7_number) := tgm 1110 (by decide +kernel) (by decide +kernel)
theorem kn_X7_number : TG (.instanceMethod yX7_number) := tgm 1112 (by decide +kernel) (by decide +kernel)
theorem ko_X7_number : TG (.code yX7_number prog_9_method_52_code (8 : Nat) (Option.none : Option FieldType)) := tgm 1113 (by decide +kernel) (by decide +kernel)
theorem kl_L_97 : TG (.constantLong RL 97 (4294967295)) := tgm 1114 (by decide +kernel) (by decide +kernel)
theorem ka_1115 : TG (Cond.arrayClass ClassFile.FieldType.double) := tgm 1115 (by decide +kernel) (by decide +kernel)
theorem kv_X5_lastChange : TG (.selects RX5 yX5_lastChange yX5_lastChange) := ⟨List.mem_append_left _ (List.mem_of_getElem? (i := 0) (by decide +kernel)), by decide +kernel⟩
theorem kv_X6_slotAt : TG (.selects RX6 yX6_slotAt yX6_slotAt) := ⟨List.mem_append_left _ (List.mem_of_getElem? (i := 1) (by decide +kernel)), by decide +kernel⟩
theorem kv_X4_part : TG (.selects RX4 yX4_part yX4_part) := ⟨List.mem_append_left _ (List.mem_of_getElem? (i := 3) (by decide +kernel)), by decide +kernel⟩
theorem kv_X4_quarter : TG (.selects RX4 yX4_quarter yX4_quarter) := ⟨List.mem_append_left _ (List.mem_of_getElem? (i := 4) (by decide +kernel)), by decide +kernel⟩
theorem kv_X4_setPart : TG (.selects RX4 yX4_setPart yX4_setPart) := ⟨List.mem_append_left _ (List.mem_of_getElem? (i := 5) (by decide +kernel)), by decide +kernel⟩
theorem kv_X5_offsetByChanges : TG (.selects RX5 yX5_offsetByChanges yX5_offsetByChanges) := ⟨List.mem_append_left _ (List.mem_of_getElem? (i := 6) (by decide +kernel)), by decide +kernel⟩
theorem kv_X5_offsetOfKind : TG (.selects RX5 yX5_offsetOfKind yX5_offsetOfKind) := ⟨List.mem_append_left _ (List.mem_of_getElem? (i := 7) (by decide +kernel)), by decide +kernel⟩
theorem kv_X1_skip : TG (.selects RX1 yX1_skip yX1_skip) := ⟨List.mem_append_left _ (List.mem_of_getElem? (i := 8) (by decide +kernel)), by decide +kernel⟩
theorem kv_X1_next : TG (.selects RX1 yX1_next yX1_next) := ⟨List.mem_append_left _ (List.mem_of_getElem? (i := 9) (by decide +kernel)), by decide +kernel⟩
theorem kv_X1_number : TG (.selects RX1 yX1_number yX1_number) := ⟨List.mem_append_left _ (List.mem_of_getElem? (i := 10) (by decide +kernel)), by decide +kernel⟩
theorem kv_X1_isDigitNext : TG (.selects RX1 yX1_isDigitNext yX1_isDigitNext) := ⟨List.mem_append_left _ (List.mem_of_getElem? (i := 11) (by decide +kernel)), by decide +kernel⟩
theorem kv_X1_nextDigit : TG (.selects RX1 yX1_nextDigit yX1_nextDigit) := ⟨List.mem_append_left _ (List.mem_of_getElem? (i := 12) (by decide +kernel)), by decide +kernel⟩
theorem kv_X1_isAtEnd : TG (.selects RX1 yX1_isAtEnd yX1_isAtEnd) := ⟨List.mem_append_left _ (List.mem_of_getElem? (i := 13) (by decide +kernel)), by decide +kernel⟩
theorem kv_X1_timeOfDay : TG (.selects RX1 yX1_timeOfDay yX1_timeOfDay) := ⟨List.mem_append_left _ (List.mem_of_getElem? (i := 14) (by decide +kernel)), by decide +kernel⟩
theorem kv_X1_fraction : TG (.selects RX1 yX1_fraction yX1_fraction) := ⟨List.mem_append_left _ (List.mem_of_getElem? (i := 15) (by decide +kernel)), by decide +kernel⟩
theorem kv_X2_append : TG (.selects RX2 yX2_append yX2_append) := ⟨List.mem_append_left _ (List.mem_of_getElem? (i := 16) (by decide +kernel)), by decide +kernel⟩
theorem kv_X2_appendDigits : TG (.selects RX2 yX2_appendDigits yX2_appendDigits) := ⟨List.mem_append_left _ (List.mem_of_getElem? (i := 17) (by decide +kernel)), by decide +kernel⟩
theorem kv_X2_appendFraction : TG (.selects RX2 yX2_appendFraction yX2_appendFraction) := ⟨List.mem_append_left _ (List.mem_of_getElem? (i := 18) (by decide +kernel)), by decide +kernel⟩
theorem kv_X7_isSlot : TG (.selects RX7 yX7_isSlot yX7_isSlot) := ⟨List.mem_append_left _ (List.mem_of_getElem? (i := 19) (by decide +kernel)), by decide +kernel⟩
theorem kv_X7_tell : TG (.selects RX7 yX7_tell yX7_tell) := ⟨List.mem_append_left _ (List.mem_of_getElem? (i := 20) (by decide +kernel)), by decide +kernel⟩
theorem kv_X7_withTime : TG (.selects RX7 yX7_withTime yX7_withTime) := ⟨List.mem_append_left _ (List.mem_of_getElem? (i := 21) (by decide +kernel)), by decide +kernel⟩
theorem kv_X7_monthly : TG (.selects RX7 yX7_monthly yX7_monthly) := ⟨List.mem_append_left _ (List.mem_of_getElem? (i := 22) (by decide +kernel)), by decide +kernel⟩
theorem kv_X7_monthsOf : TG (.selects RX7 yX7_monthsOf yX7_monthsOf) := ⟨List.mem_append_left _ (List.mem_of_getElem? (i := 23) (by decide +kernel)), by decide +kernel⟩
theorem kv_X7_monthsTo : TG (.selects RX7 yX7_monthsTo yX7_monthsTo) := ⟨List.mem_append_left _ (List.mem_of_getElem? (i := 24) (by decide +kernel)), by decide +kernel⟩
theorem kv_X7_lastOf : TG (.selects RX7 yX7_lastOf yX7_lastOf) := ⟨List.mem_append_left _ (List.mem_of_getElem? (i := 25) (by decide +kernel)), by decide +kernel⟩
theorem kv_X7_offsetAt : TG (.selects RX7 yX7_offsetAt yX7_offsetAt) := ⟨List.mem_append_left _ (List.mem_of_getElem? (i := 26) (by decide +kernel)), by decide +kernel⟩
theorem kv_X7_yearOf : TG (.selects RX7 yX7_yearOf yX7_yearOf) := ⟨List.mem_append_left _ (List.mem_of_getElem? (i := 27) (by decide +kernel)), by decide +kernel⟩
theorem kv_X7_ruled : TG (.selects RX7 yX7_ruled yX7_ruled) := ⟨List.mem_append_left _ (List.mem_of_getElem? (i := 28) (by decide +kernel)), by decide +kernel⟩
theorem kv_X7_possible : TG (.selects RX7 yX7_possible yX7_possible) := ⟨List.mem_append_left _ (List.mem_of_getElem? (i := 29) (by decide +kernel)), by decide +kernel⟩
theorem kv_X7_opened : TG (.selects RX7 yX7_opened yX7_opened) := ⟨List.mem_append_left _ (List.mem_of_getElem? (i := 30) (by decide +kernel)), by decide +kernel⟩
theorem kv_X7_eat : TG (.selects RX7 yX7_eat yX7_eat) := ⟨List.mem_append_left _ (List.mem_of_getElem? (i := 31) (by decide +kernel)), by decide +kernel⟩
theorem kv_X7_digits : TG (.selects RX7 yX7_digits yX7_digits) := ⟨List.mem_append_left _ (List.mem_of_getElem? (i := 32) (by decide +kernel)), by decide +kernel⟩
theorem kv_X7_want : TG (.selects RX7 yX7_want yX7_want) := ⟨List.mem_append_left _ (List.mem_of_getElem? (i := 33) (by decide +kernel)), by decide +kernel⟩
theorem kv_X7_timeIn : TG (.selects RX7 yX7_timeIn yX7_timeIn) := ⟨List.mem_append_left _ (List.mem_of_getElem? (i := 34) (by decide +kernel)), by decide +kernel⟩
theorem kv_X7_put : TG (.selects RX7 yX7_put yX7_put) := ⟨List.mem_append_left _ (List.mem_of_getElem? (i := 35) (by decide +kernel)), by decide +kernel⟩
theorem kv_X7_number : TG (.selects RX7 yX7_number yX7_number) := ⟨List.mem_append_left _ (List.mem_of_getElem? (i := 36) (by decide +kernel)), by decide +kernel⟩
