theorem ko_J9_min_7cf53 : TG (.code yJ9_min_7cf53 prog_16_method_69_code 2 (some .int)) := ko_M_min
theorem ks_J9_min_7cf53 : TG (.static yJ9_min_7cf53) := ks_M_min
theorem ko_J9_max_7cf53 : TG (.code yJ9_max_7cf53 prog_16_method_65_code 2 (some .int)) := ko_M_max
theorem ks_J9_max_7cf53 : TG (.static yJ9_max_7cf53) := ks_M_max
theorem ko_J9_abs_0f7a4 : TG (.code yJ9_abs_0f7a4 prog_16_method_59_code 1 (some .int)) := ko_M_abs
theorem ks_J9_abs_0f7a4 : TG (.static yJ9_abs_0f7a4) := ks_M_abs
abbrev mX6_init : MI := (RX6, yX6_init, prog_1_method_1_code, 2, none, [])
abbrev rX6_init : Room := { frames := 3, cells := 38, slots := 245, locals := 61 }
theorem mk_X6_init : MK mX6_init 0 := ⟨ko_X6_init, by decide +kernel, by decide +kernel, rfl⟩
abbrev mX4_init : MI := (RX4, yX4_init, prog_6_method_1_code, 1, none, [])
abbrev rX4_init : Room := { frames := 1, cells := 0, slots := 0, locals := 20 }
theorem mk_X4_init : MK mX4_init 0 := ⟨ko_X4_init, by decide +kernel, by decide +kernel, rfl⟩
abbrev mX5_init : MI := (RX5, yX5_init, prog_7_method_1_code, 2, none, [])
abbrev rX5_init : Room := { frames := 2, cells := 5, slots := 28, locals := 40 }
theorem mk_X5_init : MK mX5_init 0 := ⟨ko_X5_init, by decide +kernel, by decide +kernel, rfl⟩
abbrev mX3_init : MI := (RX3, yX3_init, prog_5_method_1_code, 1, none, [])
abbrev rX3_init : Room := { frames := 1, cells := 0, slots := 0, locals := 20 }
theorem mk_X3_init : MK mX3_init 0 := ⟨ko_X3_init, by decide +kernel, by decide +kernel, rfl⟩
abbrev mX1_init : MI := (RX1, yX1_init, prog_3_method_1_code, 1, none, [])
abbrev rX1_init : Room := { frames := 1, cells := 1, slots := 30, locals := 20 }
theorem mk_X1_init : MK mX1_init 0 := ⟨ko_X1_init, by decide +kernel, by decide +kernel, rfl⟩
abbrev mX2_init : MI := (RX2, yX2_init, prog_4_method_1_code, 1, none, [])
abbrev rX2_init : Room := { frames := 1, cells := 1, slots := 30, locals := 20 }
theorem mk_X2_init : MK mX2_init 0 := ⟨ko_X2_init, by decide +kernel, by decide +kernel, rfl⟩
abbrev mX6_zone : MI := (RX6, yX6_zone, prog_1_method_11_code, 3, (some .boolean), [])
abbrev rX6_zone : Room := { frames := 1, cells := 0, slots := 0, locals := 21 }
theorem mk_X6_zone : MK mX6_zone 2 := ⟨ko_X6_zone, by decide +kernel, by decide +kernel, rfl⟩
abbrev mX6_isZone : MI := (RX6, yX6_isZone, prog_1_method_22_code, 1, (some .boolean), [])
abbrev rX6_isZone : Room := { frames := 0, cells := 0, slots := 0, locals := 0 }
theorem mk_X6_isZone : MK mX6_isZone 1 := ⟨ko_X6_isZone, by decide +kernel, by decide +kernel, rfl⟩
abbrev mX6_isOffset : MI := (RX6, yX6_isOffset, prog_1_method_23_code, 1, (some .boolean), [])
abbrev rX6_isOffset : Room := { frames := 0, cells := 0, slots := 0, locals := 0 }
theorem mk_X6_isOffset : MK mX6_isOffset 1 := ⟨ko_X6_isOffset, by decide +kernel, by decide +kernel, rfl⟩
abbrev mX5_startWith : MI := (RX5, yX5_startWith, prog_7_method_2_code, 2, none, [])
abbrev rX5_startWith : Room := { frames := 0, cells := 0, slots := 0, locals := 0 }
theorem mk_X5_startWith : MK mX5_startWith 1 := ⟨ko_X5_startWith, by decide +kernel, by decide +kernel, rfl⟩
abbrev mX6_change : MI := (RX6, yX6_change, prog_1_method_12_code, 5, (some .boolean), [])
abbrev rX6_change : Room := { frames := 2, cells := 0, slots := 0, locals := 43 }
theorem mk_X6_change : MK mX6_change 3 := ⟨ko_X6_change, by decide +kernel, by decide +kernel, rfl⟩
abbrev mX6_isMoment : MI := (RX6, yX6_isMoment, prog_1_method_24_code, 2, (some .boolean), [])
abbrev rX6_isMoment : Room := { frames := 0, cells := 0, slots := 0, locals := 0 }
theorem mk_X6_isMoment : MK mX6_isMoment 1 := ⟨ko_X6_isMoment, by decide +kernel, by decide +kernel, rfl⟩
abbrev mX5_addChange : MI := (RX5, yX5_addChange, prog_7_method_3_code, 4, (some .boolean), [])
abbrev rX5_addChange : Room := { frames := 1, cells := 0, slots := 0, locals := 20 }
theorem mk_X5_addChange : MK mX5_addChange 2 := ⟨ko_X5_addChange, by decide +kernel, by decide +kernel, rfl⟩
abbrev mX5_lastChange : MI := (RX5, yX5_lastChange, prog_7_method_5_code, 1, (some .long), [])
abbrev rX5_lastChange : Room := { frames := 0, cells := 0, slots := 0, locals := 0 }
theorem mk_X5_lastChange : MK mX5_lastChange 0 := ⟨ko_X5_lastChange, by decide +kernel, by decide +kernel, rfl⟩
abbrev mX6_rule : MI := (RX6, yX6_rule, prog_1_method_13_code, 7, (some .boolean), [])
abbrev rX6_rule : Room := { frames := 2, cells := 0, slots := 0, locals := 50 }
theorem mk_X6_rule : MK mX6_rule 6 := ⟨ko_X6_rule, by decide +kernel, by decide +kernel, rfl⟩
abbrev mX0_isMonth : MI := (RX0, yX0_isMonth, prog_2_method_4_code, 2, (some .boolean), [])
abbrev rX0_isMonth : Room := { frames := 0, cells := 0, slots := 0, locals := 0 }
theorem mk_X0_isMonth : MK mX0_isMonth 1 := ⟨ko_X0_isMonth, by decide +kernel, by decide +kernel, rfl⟩
abbrev mX0_isWeekday : MI := (RX0, yX0_isWeekday, prog_2_method_5_code, 2, (some .boolean), [])
abbrev rX0_isWeekday : Room := { frames := 0, cells := 0, slots := 0, locals := 0 }
theorem mk_X0_isWeekday : MK mX0_isWeekday 1 := ⟨ko_X0_isWeekday, by decide +kernel, by decide +kernel, rfl⟩
abbrev mX5_addRule : MI := (RX5, yX5_addRule, prog_7_method_4_code, 6, (some .boolean), [])
abbrev rX5_addRule : Room := { frames := 1, cells := 0, slots := 0, locals := 25 }
theorem mk_X5_addRule : MK mX5_addRule 5 := ⟨ko_X5_addRule, by decide +kernel, by decide +kernel, rfl⟩
abbrev mX3_become : MI := (RX3, yX3_become, prog_5_method_2_code, 6, none, [])
abbrev rX3_become : Room := { frames := 0, cells := 0, slots := 0, locals := 0 }
theorem mk_X3_become : MK mX3_become 5 := ⟨ko_X3_become, by decide +kernel, by decide +kernel, rfl⟩
abbrev mX6_type : MI := (RX6, yX6_type, prog_1_method_18_code, 2, (some .boolean), [])
abbrev rX6_type : Room := { frames := 1, cells := 0, slots := 0, locals := 21 }
theorem mk_X6_type : MK mX6_type 1 := ⟨ko_X6_type, by decide +kernel, by decide +kernel, rfl⟩
abbrev mX1_append : MI := (RX1, yX1_append, prog_3_method_2_code, 2, (some .boolean), [])
abbrev rX1_append : Room := { frames := 0, cells := 0, slots := 0, locals := 0 }
theorem mk_X1_append : MK mX1_append 1 := ⟨ko_X1_append, by decide +kernel, by decide +kernel, rfl⟩
abbrev mL_date : MI := (RL, yL_date, method_3_code, 6, (some .int), [(0, 9, 12, 13), (0, 9, 16, 15)])
abbrev rL_date : Room := { frames := 8, cells := 2, slots := 12, locals := 136 }
theorem mk_L_date : MK mL_date 5 := ⟨ko_L_date, by decide +kernel, by decide +kernel, rfl⟩
abbrev mX6_date : MI := (RX6, yX6_date, prog_1_method_2_code, 6, none, [])
abbrev rX6_date : Room := { frames := 7, cells := 2, slots := 12, locals := 111 }
theorem mk_X6_date : MK mX6_date 4 := ⟨ko_X6_date, by decide +kernel, by decide +kernel, rfl⟩
abbrev mX6_slotAt : MI := (RX6, yX6_slotAt, prog_1_method_21_code, 2, (some (.object "TimeDesk$Stamp")), [])
abbrev rX6_slotAt : Room := { frames := 6, cells := 1, slots := 6, locals := 90 }
theorem mk_X6_slotAt : MK mX6_slotAt 1 := ⟨ko_X6_slotAt, by decide +kernel, by decide +kernel, rfl⟩
abbrev mX0_isDate : MI := (RX0, yX0_isDate, prog_2_method_6_code, 3, (some .boolean), [])
abbrev rX0_isDate : Room := { frames := 2, cells := 0, slots := 0, locals := 41 }
theorem mk_X0_isDate : MK mX0_isDate 3 := ⟨ko_X0_isDate, by decide +kernel, by decide +kernel, rfl⟩
abbrev mX0_isYear : MI := (RX0, yX0_isYear, prog_2_method_3_code, 2, (some .boolean), [])
abbrev rX0_isYear : Room := { frames := 0, cells := 0, slots := 0, locals := 0 }
theorem mk_X0_isYear : MK mX0_isYear 1 := ⟨ko_X0_isYear, by decide +kernel, by decide +kernel, rfl⟩
abbrev mX0_monthLength : MI := (RX0, yX0_monthLength, prog_2_method_9_code, 2, (some .int), [])
abbrev rX0_monthLength : Room := { frames := 1, cells := 0, slots := 0, locals := 20 }
theorem mk_X0_monthLength : MK mX0_monthLength 2 := ⟨ko_X0_monthLength, by decide +kernel, by decide +kernel, rfl⟩
abbrev mX0_isLeap : MI := (RX0, yX0_isLeap, prog_2_method_2_code, 1, (some .boolean), [])
abbrev rX0_isLeap : Room := { frames := 0, cells := 0, slots := 0, locals := 0 }
theorem mk_X0_isLeap : MK mX0_isLeap 1 := ⟨ko_X0_isLeap, by decide +kernel, by decide +kernel, rfl⟩
abbrev mX4_setDate : MI := (RX4, yX4_setDate, prog_6_method_2_code, 4, none, [])
abbrev rX4_setDate : Room := { frames := 0, cells := 0, slots := 0, locals := 0 }
theorem mk_X4_setDate : MK mX4_setDate 3 := ⟨ko_X4_setDate, by decide +kernel, by decide +kernel, rfl⟩
abbrev mL_time : MI := (RL, yL_time, method_4_code, 7, (some .int), [(0, 11, 14, 13), (0, 11, 18, 15)])
abbrev rL_time : Room := { frames := 8, cells := 2, slots := 12, locals := 137 }
theorem mk_L_time : MK mL_time 6 := ⟨ko_L_time, by decide +kernel, by decide +kernel, rfl⟩
abbrev mX6_time : MI := (RX6, yX6_time, prog_1_method_3_code, 7, none, [])
abbrev rX6_time : Room := { frames := 7, cells := 2, slots := 12, locals := 111 }
theorem mk_X6_time : MK mX6_time 5 := ⟨ko_X6_time, by decide +kernel, by decide +kernel, rfl⟩
abbrev mX0_isTime : MI := (RX0, yX0_isTime, prog_2_method_7_code, 4, (some .boolean), [])
abbrev rX0_isTime : Room := { frames := 0, cells := 0, slots := 0, locals := 0 }
theorem mk_X0_isTime : MK mX0_isTime 4 := ⟨ko_X0_isTime, by decide +kernel, by decide +kernel, rfl⟩
abbrev mX0_nanoOfDay : MI := (RX0, yX0_nanoOfDay, prog_2_method_8_code, 4, (some .long), [])
abbrev rX0_nanoOfDay : Room := { frames := 0, cells := 0, slots := 0, locals := 0 }
theorem mk_X0_nanoOfDay : MK mX0_nanoOfDay 4 := ⟨ko_X0_nanoOfDay, by decide +kernel, by decide +kernel, rfl⟩
abbrev mX4_setNano : MI := (RX4, yX4_setNano, prog_6_method_3_code, 3, none, [])
abbrev rX4_setNano : Room := { frames := 0, cells := 0, slots := 0, locals := 0 }
theorem mk_X4_setNano : MK mX4_setNano 1 := ⟨ko_X4_setNano, by decide +kernel, by decide +kernel, rfl⟩
abbrev mL_get : MI := (RL, yL_get, method_5_code, 5, (some .int), [(0, 9, 12, 13), (0, 9, 16, 25)])
abbrev rL_get : Room := { frames := 8, cells := 2, slots := 12, locals := 136 }
theorem mk_L_get : MK mL_get 4 := ⟨ko_L_get, by decide +kernel, by decide +kernel, rfl⟩
abbrev mX6_get : MI := (RX6, yX6_get, prog_1_method_4_code, 4, (some .long), [])
abbrev rX6_get : Room := { frames := 7, cells := 2, slots := 12, locals := 113 }
theorem mk_X6_get : MK mX6_get 2 := ⟨ko_X6_get, by decide +kernel, by decide +kernel, rfl⟩
abbrev mX6_isTimeField : MI := (RX6, yX6_isTimeField, prog_1_method_25_code, 1, (some .boolean), [])
abbrev rX6_isTimeField : Room := { frames := 0, cells := 0, slots := 0, locals := 0 }
theorem mk_X6_isTimeField : MK mX6_isTimeField 1 := ⟨ko_X6_isTimeField, by decide +kernel, by decide +kernel, rfl⟩
abbrev mX4_timeField : MI := (RX4, yX4_timeField, prog_6_method_13_code, 2, (some .long), [])
abbrev rX4_timeField : Room := { frames := 1, cells := 0, slots := 0, locals := 24 }
theorem mk_X4_timeField : MK mX4_timeField 1 := ⟨ko_X4_timeField, by decide +kernel, by decide +kernel, rfl⟩
abbrev mX4_part : MI := (RX4, yX4_part, prog_6_method_15_code, 5, (some .long), [])
abbrev rX4_part : Room := { frames := 0, cells := 0, slots := 0, locals := 0 }
theorem mk_X4_part : MK mX4_part 2 := ⟨ko_X4_part, by decide +kernel, by decide +kernel, rfl⟩
abbrev mX4_dateField : MI := (RX4, yX4_dateField, prog_6_method_10_code, 2, (some .long), [])
abbrev rX4_dateField : Room := { frames := 4, cells := 0, slots := 0, locals := 92 }
theorem mk_X4_dateField : MK mX4_dateField 1 := ⟨ko_X4_dateField, by decide +kernel, by decide +kernel, rfl⟩
abbrev mX0_dayOfYear : MI := (RX0, yX0_dayOfYear, prog_2_method_10_code, 4, (some .int), [])
abbrev rX0_dayOfYear : Room := { frames := 1, cells := 0, slots := 0, locals := 20 }
theorem mk_X0_dayOfYear : MK mX0_dayOfYear 3 := ⟨ko_X0_dayOfYear, by decide +kernel, by decide +kernel, rfl⟩
abbrev mX4_epochDay : MI := (RX4, yX4_epochDay, prog_6_method_4_code, 1, (some .long), [])
abbrev rX4_epochDay : Room := { frames := 3, cells := 0, slots := 0, locals := 65 }
theorem mk_X4_epochDay : MK mX4_epochDay 0 := ⟨ko_X4_epochDay, by decide +kernel, by decide +kernel, rfl⟩
abbrev mX0_epochDay : MI := (RX0, yX0_epochDay, prog_2_method_11_code, 3, (some .long), [])
abbrev rX0_epochDay : Room := { frames := 2, cells := 0, slots := 0, locals := 43 }
theorem mk_X0_epochDay : MK mX0_epochDay 3 := ⟨ko_X0_epochDay, by decide +kernel, by decide +kernel, rfl⟩
abbrev mX0_daysBeforeYear : MI := (RX0, yX0_daysBeforeYear, prog_2_method_14_code, 1, (some .long), [])
abbrev rX0_daysBeforeYear : Room := { frames := 1, cells := 0, slots := 0, locals := 22 }
theorem mk_X0_daysBeforeYear : MK mX0_daysBeforeYear 1 := ⟨ko_X0_daysBeforeYear, by decide +kernel, by decide +kernel, rfl⟩
abbrev mJ9_floorDiv_7cf53 : MI := (RJ9, yJ9_floorDiv_7cf53, prog_16_method_47_code, 3, (some .int), [])
abbrev rJ9_floorDiv_7cf53 : Room := { frames := 0, cells := 0, slots := 0, locals := 0 }
theorem mk_J9_floorDiv_7cf53 : MK mJ9_floorDiv_7cf53 2 := ⟨ko_J9_floorDiv_7cf53, by decide +kernel, by decide +kernel, rfl⟩
abbrev mX0_weekday : MI := (RX0, yX0_weekday, prog_2_method_15_code, 2, (some .int), [])
abbrev rX0_weekday : Room := { frames := 1, cells := 0, slots := 0, locals := 25 }
theorem mk_X0_weekday : MK mX0_weekday 1 := ⟨ko_X0_weekday, by decide +kernel, by decide +kernel, rfl⟩
abbrev mJ9_floorMod_f86c9 : MI := (RJ9, yJ9_floorMod_f86c9, prog_16_method_52_code, 6, (some .long), [])
abbrev rJ9_floorMod_f86c9 : Room := { frames := 0, cells := 0, slots := 0, locals := 0 }
theorem mk_J9_floorMod_f86c9 : MK mJ9_floorMod_f86c9 2 := ⟨ko_J9_floorMod_f86c9, by decide +kernel, by decide +kernel, rfl⟩
abbrev mX4_quarter : MI := (RX4, yX4_quarter, prog_6_method_12_code, 1, (some .int), [])
abbrev rX4_quarter : Room := { frames := 0, cells := 0, slots := 0, locals := 0 }
theorem mk_X4_quarter : MK mX4_quarter 0 := ⟨ko_X4_quarter, by decide +kernel, by decide +kernel, rfl⟩
abbrev mX0_week : MI := (RX0, yX0_week, prog_2_method_19_code, 6, (some .int), [])
abbrev rX0_week : Room := { frames := 3, cells := 0, slots := 0, locals := 67 }
theorem mk_X0_week : MK mX0_week 1 := ⟨ko_X0_week, by decide +kernel, by decide +kernel, rfl⟩
abbrev mX0_thursday : MI := (RX0, yX0_thursday, prog_2_method_18_code, 2, (some .long), [])
abbrev rX0_thursday : Room := { frames := 2, cells := 0, slots := 0, locals := 46 }
theorem mk_X0_thursday : MK mX0_thursday 1 := ⟨ko_X0_thursday, by decide +kernel, by decide +kernel, rfl⟩
abbrev mX0_yearOfDay : MI := (RX0, yX0_yearOfDay, prog_2_method_13_code, 5, (some .int), [])
abbrev rX0_yearOfDay : Room := { frames := 2, cells := 0, slots := 0, locals := 42 }
theorem mk_X0_yearOfDay : MK mX0_yearOfDay 1 := ⟨ko_X0_yearOfDay, by decide +kernel, by decide +kernel, rfl⟩
abbrev mJ9_floorDiv_f86c9 : MI := (RJ9, yJ9_floorDiv_f86c9, prog_16_method_49_code, 6, (some .long), [])
abbrev rJ9_floorDiv_f86c9 : Room := { frames := 0, cells := 0, slots := 0, locals := 0 }
theorem mk_J9_floorDiv_f86c9 : MK mJ9_floorDiv_f86c9 2 := ⟨ko_J9_floorDiv_f86c9, by decide +kernel, by decide +kernel, rfl⟩
abbrev mX4_monthNumber : MI := (RX4, yX4_monthNumber, prog_6_method_6_code, 1, (some .long), [])
abbrev rX4_monthNumber : Room := { frames := 0, cells := 0, slots := 0, locals := 0 }
theorem mk_X4_monthNumber : MK mX4_monthNumber 0 := ⟨ko_X4_monthNumber, by decide +kernel, by decide +kernel, rfl⟩
abbrev mL_with : MI := (RL, yL_with, method_6_code, 6, (some .int), [(0, 7, 10, 13), (0, 7, 14, 25), (0, 7, 18, 15)])
abbrev rL_with : Room := { frames := 8, cells := 3, slots := 18, locals := 162 }
theorem mk_L_with : MK mL_with 4 := ⟨ko_L_with, by decide +kernel, by decide +kernel, rfl⟩
abbrev mX6_with : MI := (RX6, yX6_with, prog_1_method_5_code, 7, none, [])
abbrev rX6_with : Room := { frames := 7, cells := 3, slots := 18, locals := 136 }
theorem mk_X6_with : MK mX6_with 3 := ⟨ko_X6_with, by decide +kernel, by decide +kernel, rfl⟩
abbrev mX4_setTimeField : MI := (RX4, yX4_setTimeField, prog_6_method_14_code, 4, (some .boolean), [])
abbrev rX4_setTimeField : Room := { frames := 2, cells := 0, slots := 0, locals := 50 }
theorem mk_X4_setTimeField : MK mX4_setTimeField 2 := ⟨ko_X4_setTimeField, by decide +kernel, by decide +kernel, rfl⟩
abbrev mX4_setPart : MI := (RX4, yX4_setPart, prog_6_method_16_code, 7, (some .boolean), [])
abbrev rX4_setPart : Room := { frames := 1, cells := 0, slots := 0, locals := 24 }
theorem mk_X4_setPart : MK mX4_setPart 3 := ⟨ko_X4_setPart, by decide +kernel, by decide +kernel, rfl⟩
abbrev mX4_setDateField : MI := (RX4, yX4_setDateField, prog_6_method_11_code, 4, (some .boolean), [])
abbrev rX4_setDateField : Room := { frames := 5, cells := 0, slots := 0, locals := 113 }
theorem mk_X4_setDateField : MK mX4_setDateField 2 := ⟨ko_X4_setDateField, by decide +kernel, by decide +kernel, rfl⟩
abbrev mX4_setMonthNumber : MI := (RX4, yX4_setMonthNumber, prog_6_method_8_code, 3, (some .boolean), [])
abbrev rX4_setMonthNumber : Room := { frames := 4, cells := 0, slots := 0, locals := 91 }
theorem mk_X4_setMonthNumber : MK mX4_setMonthNumber 1 := ⟨ko_X4_setMonthNumber, by decide +kernel, by decide +kernel, rfl⟩
abbrev mX0_dayInMonth : MI := (RX0, yX0_dayInMonth, prog_2_method_12_code, 5, (some .long), [])
abbrev rX0_dayInMonth : Room := { frames := 3, cells := 0, slots := 0, locals := 65 }
theorem mk_X0_dayInMonth : MK mX0_dayInMonth 2 := ⟨ko_X0_dayInMonth, by decide +kernel, by decide +kernel, rfl⟩
abbrev mJ9_min_7cf53 : MI := (RJ9, yJ9_min_7cf53, prog_16_method_69_code, 2, (some .int), [])
abbrev rJ9_min_7cf53 : Room := { frames := 0, cells := 0, slots := 0, locals := 0 }
theorem mk_J9_min_7cf53 : MK mJ9_min_7cf53 2 := ⟨ko_J9_min_7cf53, by decide +kernel, by decide +kernel, rfl⟩
abbrev mX4_setEpochDay : MI := (RX4, yX4_setEpochDay, prog_6_method_7_code, 6, (some .boolean), [])
abbrev rX4_setEpochDay : Room := { frames := 3, cells := 0, slots := 0, locals := 66 }
theorem mk_X4_setEpochDay : MK mX4_setEpochDay 1 := ⟨ko_X4_setEpochDay, by decide +kernel, by decide +kernel, rfl⟩
abbrev mL_plus : MI := (RL, yL_plus, method_7_code, 6, (some .int), [(0, 8, 11, 13), (0, 8, 15, 25), (0, 8, 19, 35)])
abbrev rL_plus : Room := { frames := 8, cells := 3, slots := 18, locals := 167 }
theorem mk_L_plus : MK mL_plus 4 := ⟨ko_L_plus, by decide +kernel, by decide +kernel, rfl⟩
abbrev mX6_plus : MI := (RX6, yX6_plus, prog_1_method_6_code, 6, none, [])
abbrev rX6_plus : Room := { frames := 7, cells := 3, slots := 18, locals := 142 }
theorem mk_X6_plus : MK mX6_plus 3 := ⟨ko_X6_plus, by decide +kernel, by decide +kernel, rfl⟩
abbrev mX6_isUnit : MI := (RX6, yX6_isUnit, prog_1_method_26_code, 1, (some .boolean), [])
abbrev rX6_isUnit : Room := { frames := 0, cells := 0, slots := 0, locals := 0 }
theorem mk_X6_isUnit : MK mX6_isUnit 1 := ⟨ko_X6_isUnit, by decide +kernel, by decide +kernel, rfl⟩
abbrev mX6_addUnits : MI := (RX6, yX6_addUnits, prog_1_method_27_code, 4, (some .boolean), [])
abbrev rX6_addUnits : Room := { frames := 5, cells := 0, slots := 0, locals := 119 }
theorem mk_X6_addUnits : MK mX6_addUnits 3 := ⟨ko_X6_addUnits, by decide +kernel, by decide +kernel, rfl⟩
abbrev mX6_monthsOfUnit : MI := (RX6, yX6_monthsOfUnit, prog_1_method_29_code, 1, (some .long), [])
abbrev rX6_monthsOfUnit : Room := { frames := 0, cells := 0, slots := 0, locals := 0 }
theorem mk_X6_monthsOfUnit : MK mX6_monthsOfUnit 1 := ⟨ko_X6_monthsOfUnit, by decide +kernel, by decide +kernel, rfl⟩
abbrev mX4_addParts : MI := (RX4, yX4_addParts, prog_6_method_9_code, 9, (some .boolean), [])
abbrev rX4_addParts : Room := { frames := 4, cells := 0, slots := 0, locals := 91 }
theorem mk_X4_addParts : MK mX4_addParts 2 := ⟨ko_X4_addParts, by decide +kernel, by decide +kernel, rfl⟩
abbrev mX6_unitsPerDay : MI := (RX6, yX6_unitsPerDay, prog_1_method_28_code, 1, (some .long), [])
abbrev rX6_unitsPerDay : Room := { frames := 0, cells := 0, slots := 0, locals := 0 }
theorem mk_X6_unitsPerDay : MK mX6_unitsPerDay 1 := ⟨ko_X6_unitsPerDay, by decide +kernel, by decide +kernel, rfl⟩
abbrev mL_until : MI := (RL, yL_until, method_8_code, 6, (some .int), [(0, 11, 14, 13), (0, 11, 18, 25), (0, 11, 22, 35)])
abbrev rL_until : Room := { frames := 8, cells := 4, slots := 24, locals := 162 }
theorem mk_L_until : MK mL_until 5 := ⟨ko_L_until, by decide +kernel, by decide +kernel, rfl⟩
abbrev mX6_until : MI := (RX6, yX6_until, prog_1_method_7_code, 12, (some .long), [])
abbrev rX6_until : Room := { frames := 7, cells := 4, slots := 24, locals := 131 }
theorem mk_X6_until : MK mX6_until 3 := ⟨ko_X6_until, by decide +kernel, by decide +kernel, rfl⟩
abbrev mX4_monthsUntil : MI := (RX4, yX4_monthsUntil, prog_6_method_21_code, 9, (some .long), [])
abbrev rX4_monthsUntil : Room := { frames := 1, cells := 0, slots := 0, locals := 23 }
theorem mk_X4_monthsUntil : MK mX4_monthsUntil 3 := ⟨ko_X4_monthsUntil, by decide +kernel, by decide +kernel, rfl⟩
abbrev mJ6_compare_7cf53 : MI := (RJ6, yJ6_compare_7cf53, prog_14_method_40_code, 2, (some .int), [])
abbrev rJ6_compare_7cf53 : Room := { frames := 0, cells := 0, slots := 0, locals := 0 }
theorem mk_J6_compare_7cf53 : MK mJ6_compare_7cf53 2 := ⟨ko_J6_compare_7cf53, by decide +kernel, by decide +kernel, rfl⟩
abbrev mJ13_compare_74951 : MI := (RJ13, yJ13_compare_74951, prog_15_method_42_code, 4, (some .int), [])
abbrev rJ13_compare_74951 : Room := { frames := 0, cells := 0, slots := 0, locals := 0 }
theorem mk_J13_compare_74951 : MK mJ13_compare_74951 2 := ⟨ko_J13_compare_74951, by decide +kernel, by decide +kernel, rfl⟩
abbrev mX6_wholeUnits : MI := (RX6, yX6_wholeUnits, prog_1_method_30_code, 4, (some .long), [])
abbrev rX6_wholeUnits : Room := { frames := 0, cells := 0, slots := 0, locals := 0 }
theorem mk_X6_wholeUnits : MK mX6_wholeUnits 2 := ⟨ko_X6_wholeUnits, by decide +kernel, by decide +kernel, rfl⟩
abbrev mX4_wholeDaysUntil : MI := (RX4, yX4_wholeDaysUntil, prog_6_method_19_code, 4, (some .long), [])
abbrev rX4_wholeDaysUntil : Room := { frames := 4, cells := 0, slots := 0, locals := 85 }
theorem mk_X4_wholeDaysUntil : MK mX4_wholeDaysUntil 1 := ⟨ko_X4_wholeDaysUntil, by decide +kernel, by decide +kernel, rfl⟩
abbrev mX4_restUntil : MI := (RX4, yX4_restUntil, prog_6_method_20_code, 4, (some .long), [])
abbrev rX4_restUntil : Room := { frames := 5, cells := 0, slots := 0, locals := 108 }
theorem mk_X4_restUntil : MK mX4_restUntil 1 := ⟨ko_X4_restUntil, by decide +kernel, by decide +kernel, rfl⟩
abbrev mX6_isLongOfNanos : MI := (RX6, yX6_isLongOfNanos, prog_1_method_31_code, 4, (some .boolean), [])
abbrev rX6_isLongOfNanos : Room := { frames := 0, cells := 0, slots := 0, locals := 0 }
theorem mk_X6_isLongOfNanos : MK mX6_isLongOfNanos 2 := ⟨ko_X6_isLongOfNanos, by decide +kernel, by decide +kernel, rfl⟩
abbrev mL_span : MI := (RL, yL_span, method_9_code, 6, (some .int), [(0, 12, 15, 13), (0, 12, 19, 25)])
abbrev rL_span : Room := { frames := 8, cells := 3, slots := 18, locals := 138 }
theorem mk_L_span : MK mL_span 5 := ⟨ko_L_span, by decide +kernel, by decide +kernel, rfl⟩
abbrev mX6_span : MI := (RX6, yX6_span, prog_1_method_8_code, 8, (some .int), [])
abbrev rX6_span : Room := { frames := 7, cells := 3, slots := 18, locals := 111 }
theorem mk_X6_span : MK mX6_span 3 := ⟨ko_X6_span, by decide +kernel, by decide +kernel, rfl⟩
abbrev mL_adjust : MI := (RL, yL_adjust, method_10_code, 5, (some .int), [(0, 7, 10, 13), (0, 7, 14, 15), (0, 7, 18, 35)])
abbrev rL_adjust : Room := { frames := 8, cells := 3, slots := 18, locals := 135 }
theorem mk_L_adjust : MK mL_adjust 4 := ⟨ko_L_adjust, by decide +kernel, by decide +kernel, rfl⟩
abbrev mX6_adjust : MI := (RX6, yX6_adjust, prog_1_method_9_code, 5, none, [])
abbrev rX6_adjust : Room := { frames := 7, cells := 3, slots := 18, locals := 111 }
theorem mk_X6_adjust : MK mX6_adjust 3 := ⟨ko_X6_adjust, by decide +kernel, by decide +kernel, rfl⟩
abbrev mX4_adjustedDay : MI := (RX4, yX4_adjustedDay, prog_6_method_17_code, 5, (some .long), [])
abbrev rX4_adjustedDay : Room := { frames := 4, cells := 0, slots := 0, locals := 85 }
theorem mk_X4_adjustedDay : MK mX4_adjustedDay 2 := ⟨ko_X4_adjustedDay, by decide +kernel, by decide +kernel, rfl⟩
abbrev mX0_weekdayFrom : MI := (RX0, yX0_weekdayFrom, prog_2_method_16_code, 3, (some .long), [])
abbrev rX0_weekdayFrom : Room := { frames := 2, cells := 0, slots := 0, locals := 46 }
theorem mk_X0_weekdayFrom : MK mX0_weekdayFrom 2 := ⟨ko_X0_weekdayFrom, by decide +kernel, by decide +kernel, rfl⟩
abbrev mJ9_floorMod_7cf53 : MI := (RJ9, yJ9_floorMod_7cf53, prog_16_method_50_code, 3, (some .int), [])
abbrev rJ9_floorMod_7cf53 : Room := { frames := 0, cells := 0, slots := 0, locals := 0 }
theorem mk_J9_floorMod_7cf53 : MK mJ9_floorMod_7cf53 2 := ⟨ko_J9_floorMod_7cf53, by decide +kernel, by decide +kernel, rfl⟩
abbrev mX0_weekdayUpTo : MI := (RX0, yX0_weekdayUpTo, prog_2_method_17_code, 3, (some .long), [])
abbrev rX0_weekdayUpTo : Room := { frames := 2, cells := 0, slots := 0, locals := 46 }
theorem mk_X0_weekdayUpTo : MK mX0_weekdayUpTo 2 := ⟨ko_X0_weekdayUpTo, by decide +kernel, by decide +kernel, rfl⟩
abbrev mL_copy : MI := (RL, yL_copy, method_11_code, 5, (some .int), [(0, 10, 13, 13)])
abbrev rL_copy : Room := { frames := 8, cells := 2, slots := 12, locals := 136 }
theorem mk_L_copy : MK mL_copy 4 := ⟨ko_L_copy, by decide +kernel, by decide +kernel, rfl⟩
abbrev mX6_copy : MI := (RX6, yX6_copy, prog_1_method_10_code, 6, (some .int), [])
abbrev rX6_copy : Room := { frames := 7, cells := 2, slots := 12, locals := 111 }
theorem mk_X6_copy : MK mX6_copy 2 := ⟨ko_X6_copy, by decide +kernel, by decide +kernel, rfl⟩
abbrev mX4_orderAgainst : MI := (RX4, yX4_orderAgainst, prog_6_method_18_code, 3, (some .int), [])
abbrev rX4_orderAgainst : Room := { frames := 4, cells := 0, slots := 0, locals := 85 }
theorem mk_X4_orderAgainst : MK mX4_orderAgainst 1 := ⟨ko_X4_orderAgainst, by decide +kernel, by decide +kernel, rfl⟩
abbrev mL_offset : MI := (RL, yL_offset, method_12_code, 6, (some .int), [(0, 11, 14, 15)])
abbrev rL_offset : Room := { frames := 7, cells := 1, slots := 6, locals := 147 }
theorem mk_L_offset : MK mL_offset 4 := ⟨ko_L_offset, by decide +kernel, by decide +kernel, rfl⟩
abbrev mX6_offset : MI := (RX6, yX6_offset, prog_1_method_14_code, 4, (some .int), [])
abbrev rX6_offset : Room := { frames := 6, cells := 1, slots := 6, locals := 124 }
theorem mk_X6_offset : MK mX6_offset 2 := ⟨ko_X6_offset, by decide +kernel, by decide +kernel, rfl⟩
abbrev mX5_offsetAt : MI := (RX5, yX5_offsetAt, prog_7_method_6_code, 11, (some .int), [])
abbrev rX5_offsetAt : Room := { frames := 4, cells := 0, slots := 0, locals := 94 }
theorem mk_X5_offsetAt : MK mX5_offsetAt 1 := ⟨ko_X5_offsetAt, by decide +kernel, by decide +kernel, rfl⟩
abbrev mX5_offsetByChanges : MI := (RX5, yX5_offsetByChanges, prog_7_method_7_code, 5, (some .int), [])
abbrev rX5_offsetByChanges : Room := { frames := 0, cells := 0, slots := 0, locals := 0 }
theorem mk_X5_offsetByChanges : MK mX5_offsetByChanges 1 := ⟨ko_X5_offsetByChanges, by decide +kernel, by decide +kernel, rfl⟩
abbrev mJ9_max_7cf53 : MI := (RJ9, yJ9_max_7cf53, prog_16_method_65_code, 2, (some .int), [])
abbrev rJ9_max_7cf53 : Room := { frames := 0, cells := 0, slots := 0, locals := 0 }
theorem mk_J9_max_7cf53 : MK mJ9_max_7cf53 2 := ⟨ko_J9_max_7cf53, by decide +kernel, by decide +kernel, rfl⟩
abbrev mX3_momentIn : MI := (RX3, yX3_momentIn, prog_5_method_3_code, 7, (some .long), [])
abbrev rX3_momentIn : Room := { frames := 3, cells := 0, slots := 0, locals := 68 }
theorem mk_X3_momentIn : MK mX3_momentIn 1 := ⟨ko_X3_momentIn, by decide +kernel, by decide +kernel, rfl⟩
abbrev mL_moment : MI := (RL, yL_moment, method_13_code, 6, (some .int), [(0, 11, 14, 13), (0, 11, 18, 15)])
abbrev rL_moment : Room := { frames := 8, cells := 2, slots := 12, locals := 182 }
theorem mk_L_moment : MK mL_moment 5 := ⟨ko_L_moment, by decide +kernel, by decide +kernel, rfl⟩
abbrev mX6_moment : MI := (RX6, yX6_moment, prog_1_method_15_code, 9, (some .long), [])
abbrev rX6_moment : Room := { frames := 7, cells := 2, slots := 12, locals := 154 }
theorem mk_X6_moment : MK mX6_moment 3 := ⟨ko_X6_moment, by decide +kernel, by decide +kernel, rfl⟩
abbrev mX4_epochSecond : MI := (RX4, yX4_epochSecond, prog_6_method_5_code, 1, (some .long), [])
abbrev rX4_epochSecond : Room := { frames := 4, cells := 0, slots := 0, locals := 85 }
theorem mk_X4_epochSecond : MK mX4_epochSecond 0 := ⟨ko_X4_epochSecond, by decide +kernel, by decide +kernel, rfl⟩
abbrev mX5_momentOf : MI := (RX5, yX5_momentOf, prog_7_method_8_code, 11, (some .long), [])
abbrev rX5_momentOf : Room := { frames := 5, cells := 0, slots := 0, locals := 124 }
theorem mk_X5_momentOf : MK mX5_momentOf 2 := ⟨ko_X5_momentOf, by decide +kernel, by decide +kernel, rfl⟩
abbrev mX5_offsetOfKind : MI := (RX5, yX5_offsetOfKind, prog_7_method_9_code, 3, (some .int), [])
abbrev rX5_offsetOfKind : Room := { frames := 0, cells := 0, slots := 0, locals := 0 }
theorem mk_X5_offsetOfKind : MK mX5_offsetOfKind 1 := ⟨ko_X5_offsetOfKind, by decide +kernel, by decide +kernel, rfl⟩
abbrev mX5_offsetBeforeGap : MI := (RX5, yX5_offsetBeforeGap, prog_7_method_10_code, 10, (some .int), [])
abbrev rX5_offsetBeforeGap : Room := { frames := 5, cells := 0, slots := 0, locals := 124 }
theorem mk_X5_offsetBeforeGap : MK mX5_offsetBeforeGap 1 := ⟨ko_X5_offsetBeforeGap, by decide +kernel, by decide +kernel, rfl⟩
abbrev mJ9_min_f86c9 : MI := (RJ9, yJ9_min_f86c9, prog_16_method_70_code, 4, (some .long), [])
abbrev rJ9_min_f86c9 : Room := { frames := 0, cells := 0, slots := 0, locals := 0 }
theorem mk_J9_min_f86c9 : MK mJ9_min_f86c9 2 := ⟨ko_J9_min_f86c9, by decide +kernel, by decide +kernel, rfl⟩
abbrev mL_show : MI := (RL, yL_show, method_14_code, 6, (some .int), [(0, 7, 10, 13), (0, 7, 14, 15), (0, 7, 18, 35)])
abbrev rL_show : Room := { frames := 8, cells := 4, slots := 24, locals := 151 }
theorem mk_L_show : MK mL_show 4 := ⟨ko_L_show, by decide +kernel, by decide +kernel, rfl⟩
abbrev mX6_show : MI := (RX6, yX6_show, prog_1_method_16_code, 8, none, [])
abbrev rX6_show : Room := { frames := 7, cells := 4, slots := 24, locals := 124 }
theorem mk_X6_show : MK mX6_show 3 := ⟨ko_X6_show, by decide +kernel, by decide +kernel, rfl⟩
abbrev mL_julian : MI := (RL, yL_julian, method_15_code, 4, (some .int), [(0, 8, 11, 13)])
abbrev rL_julian : Room := { frames := 8, cells := 1, slots := 6, locals := 133 }
theorem mk_L_julian : MK mL_julian 3 := ⟨ko_L_julian, by decide +kernel, by decide +kernel, rfl⟩
abbrev mX6_julian : MI := (RX6, yX6_julian, prog_1_method_17_code, 3, (some .double), [])
abbrev rX6_julian : Room := { frames := 7, cells := 1, slots := 6, locals := 111 }
theorem mk_X6_julian : MK mX6_julian 1 := ⟨ko_X6_julian, by decide +kernel, by decide +kernel, rfl⟩
abbrev mL_parse : MI := (RL, yL_parse, method_16_code, 3, (some .int), [(0, 5, 8, 13), (0, 5, 11, 15)])
abbrev rL_parse : Room := { frames := 8, cells := 2, slots := 12, locals := 139 }
theorem mk_L_parse : MK mL_parse 2 := ⟨ko_L_parse, by decide +kernel, by decide +kernel, rfl⟩
abbrev mX6_parse : MI := (RX6, yX6_parse, prog_1_method_19_code, 4, none, [])
abbrev rX6_parse : Room := { frames := 7, cells := 2, slots := 12, locals := 116 }
theorem mk_X6_parse : MK mX6_parse 1 := ⟨ko_X6_parse, by decide +kernel, by decide +kernel, rfl⟩
abbrev mX1_readInto : MI := (RX1, yX1_readInto, prog_3_method_4_code, 9, (some .boolean), [])
abbrev rX1_readInto : Room := { frames := 4, cells := 0, slots := 0, locals := 88 }
theorem mk_X1_readInto : MK mX1_readInto 1 := ⟨ko_X1_readInto, by decide +kernel, by decide +kernel, rfl⟩
abbrev mX1_skip : MI := (RX1, yX1_skip, prog_3_method_12_code, 2, (some .boolean), [])
abbrev rX1_skip : Room := { frames := 1, cells := 0, slots := 0, locals := 20 }
theorem mk_X1_skip : MK mX1_skip 1 := ⟨ko_X1_skip, by decide +kernel, by decide +kernel, rfl⟩
abbrev mX1_next : MI := (RX1, yX1_next, prog_3_method_9_code, 1, (some .char), [])
abbrev rX1_next : Room := { frames := 0, cells := 0, slots := 0, locals := 0 }
theorem mk_X1_next : MK mX1_next 0 := ⟨ko_X1_next, by decide +kernel, by decide +kernel, rfl⟩
abbrev mX1_number : MI := (RX1, yX1_number, prog_3_method_7_code, 4, (some .int), [])
abbrev rX1_number : Room := { frames := 2, cells := 0, slots := 0, locals := 41 }
theorem mk_X1_number : MK mX1_number 1 := ⟨ko_X1_number, by decide +kernel, by decide +kernel, rfl⟩
abbrev mX1_isDigitNext : MI := (RX1, yX1_isDigitNext, prog_3_method_10_code, 1, (some .boolean), [])
abbrev rX1_isDigitNext : Room := { frames := 1, cells := 0, slots := 0, locals := 20 }
theorem mk_X1_isDigitNext : MK mX1_isDigitNext 0 := ⟨ko_X1_isDigitNext, by decide +kernel, by decide +kernel, rfl⟩
abbrev mX1_nextDigit : MI := (RX1, yX1_nextDigit, prog_3_method_11_code, 2, (some .int), [])
abbrev rX1_nextDigit : Room := { frames := 1, cells := 0, slots := 0, locals := 20 }
theorem mk_X1_nextDigit : MK mX1_nextDigit 0 := ⟨ko_X1_nextDigit, by decide +kernel, by decide +kernel, rfl⟩
abbrev mX1_isAtEnd : MI := (RX1, yX1_isAtEnd, prog_3_method_8_code, 1, (some .boolean), [])
abbrev rX1_isAtEnd : Room := { frames := 0, cells := 0, slots := 0, locals := 0 }
theorem mk_X1_isAtEnd : MK mX1_isAtEnd 0 := ⟨ko_X1_isAtEnd, by decide +kernel, by decide +kernel, rfl⟩
abbrev mX1_timeOfDay : MI := (RX1, yX1_timeOfDay, prog_3_method_5_code, 5, (some .long), [])
abbrev rX1_timeOfDay : Room := { frames := 3, cells := 0, slots := 0, locals := 64 }
theorem mk_X1_timeOfDay : MK mX1_timeOfDay 0 := ⟨ko_X1_timeOfDay, by decide +kernel, by decide +kernel, rfl⟩
abbrev mX1_fraction : MI := (RX1, yX1_fraction, prog_3_method_6_code, 3, (some .int), [])
abbrev rX1_fraction : Room := { frames := 2, cells := 0, slots := 0, locals := 41 }
theorem mk_X1_fraction : MK mX1_fraction 0 := ⟨ko_X1_fraction, by decide +kernel, by decide +kernel, rfl⟩
abbrev mX1_clear : MI := (RX1, yX1_clear, prog_3_method_3_code, 1, none, [])
abbrev rX1_clear : Room := { frames := 0, cells := 0, slots := 0, locals := 0 }
theorem mk_X1_clear : MK mX1_clear 0 := ⟨ko_X1_clear, by decide +kernel, by decide +kernel, rfl⟩
abbrev mL_text : MI := (RL, yL_text, method_17_code, 5, (some .int), [(0, 10, 13, 13), (0, 10, 17, 15)])
abbrev rL_text : Room := { frames := 8, cells := 2, slots := 12, locals := 134 }
theorem mk_L_text : MK mL_text 4 := ⟨ko_L_text, by decide +kernel, by decide +kernel, rfl⟩
abbrev mX6_text : MI := (RX6, yX6_text, prog_1_method_20_code, 4, (some .int), [])
abbrev rX6_text : Room := { frames := 7, cells := 2, slots := 12, locals := 111 }
theorem mk_X6_text : MK mX6_text 2 := ⟨ko_X6_text, by decide +kernel, by decide +kernel, rfl⟩
abbrev mX2_write : MI := (RX2, yX2_write, prog_4_method_3_code, 2, none, [])
abbrev rX2_write : Room := { frames := 2, cells := 0, slots := 0, locals := 48 }
theorem mk_X2_write : MK mX2_write 1 := ⟨ko_X2_write, by decide +kernel, by decide +kernel, rfl⟩
abbrev mX2_append : MI := (RX2, yX2_append, prog_4_method_5_code, 2, none, [])
abbrev rX2_append : Room := { frames := 0, cells := 0, slots := 0, locals := 0 }
theorem mk_X2_append : MK mX2_append 1 := ⟨ko_X2_append, by decide +kernel, by decide +kernel, rfl⟩
abbrev mJ9_abs_0f7a4 : MI := (RJ9, yJ9_abs_0f7a4, prog_16_method_59_code, 1, (some .int), [])
abbrev rJ9_abs_0f7a4 : Room := { frames := 0, cells := 0, slots := 0, locals := 0 }
theorem mk_J9_abs_0f7a4 : MK mJ9_abs_0f7a4 1 := ⟨ko_J9_abs_0f7a4, by decide +kernel, by decide +kernel, rfl⟩
abbrev mX2_appendDigits : MI := (RX2, yX2_appendDigits, prog_4_method_6_code, 7, none, [])
abbrev rX2_appendDigits : Room := { frames := 0, cells := 0, slots := 0, locals := 0 }
theorem mk_X2_appendDigits : MK mX2_appendDigits 2 := ⟨ko_X2_appendDigits, by decide +kernel, by decide +kernel, rfl⟩
abbrev mX2_appendFraction : MI := (RX2, yX2_appendFraction, prog_4_method_4_code, 3, none, [])
abbrev rX2_appendFraction : Room := { frames := 1, cells := 0, slots := 0, locals := 26 }
theorem mk_X2_appendFraction : MK mX2_appendFraction 1 := ⟨ko_X2_appendFraction, by decide +kernel, by decide +kernel, rfl⟩
abbrev mX2_characterAt : MI := (RX2, yX2_characterAt, prog_4_method_2_code, 2, (some .int), [])
abbrev rX2_characterAt : Room := { frames := 0, cells := 0, slots := 0, locals := 0 }
theorem mk_X2_characterAt : MK mX2_characterAt 1 := ⟨ko_X2_characterAt, by decide +kernel, by decide +kernel, rfl⟩
abbrev mX7_init : MI := (RX7, yX7_init, prog_9_method_1_code, 1, none, [])
abbrev rX7_init : Room := { frames := 1, cells := 10, slots := 202, locals := 20 }
theorem mk_X7_init : MK mX7_init 0 := ⟨ko_X7_init, by decide +kernel, by decide +kernel, rfl⟩
abbrev mX7_thrown : MI := (RX7, yX7_thrown, prog_9_method_2_code, 1, (some .int), [])
abbrev rX7_thrown : Room := { frames := 0, cells := 0, slots := 0, locals := 0 }
theorem mk_X7_thrown : MK mX7_thrown 0 := ⟨ko_X7_thrown, by decide +kernel, by decide +kernel, rfl⟩
abbrev mX7_date : MI := (RX7, yX7_date, prog_9_method_17_code, 5, none, [])
abbrev rX7_date : Room := { frames := 4, cells := 0, slots := 0, locals := 89 }
theorem mk_X7_date : MK mX7_date 4 := ⟨ko_X7_date, by decide +kernel, by decide +kernel, rfl⟩
abbrev mX7_isSlot : MI := (RX7, yX7_isSlot, prog_9_method_15_code, 2, (some .boolean), [])
abbrev rX7_isSlot : Room := { frames := 1, cells := 0, slots := 0, locals := 25 }
theorem mk_X7_isSlot : MK mX7_isSlot 1 := ⟨ko_X7_isSlot, by decide +kernel, by decide +kernel, rfl⟩
abbrev mX7_in : MI := (RX7, yX7_in, prog_9_method_3_code, 6, (some .boolean), [])
abbrev rX7_in : Room := { frames := 0, cells := 0, slots := 0, locals := 0 }
theorem mk_X7_in : MK mX7_in 3 := ⟨ko_X7_in, by decide +kernel, by decide +kernel, rfl⟩
abbrev mX7_isDate : MI := (RX7, yX7_isDate, prog_9_method_16_code, 4, (some .boolean), [])
abbrev rX7_isDate : Room := { frames := 3, cells := 0, slots := 0, locals := 66 }
theorem mk_X7_isDate : MK mX7_isDate 3 := ⟨ko_X7_isDate, by decide +kernel, by decide +kernel, rfl⟩
abbrev mX7_length : MI := (RX7, yX7_length, prog_9_method_7_code, 3, (some .int), [])
abbrev rX7_length : Room := { frames := 2, cells := 0, slots := 0, locals := 44 }
theorem mk_X7_length : MK mX7_length 2 := ⟨ko_X7_length, by decide +kernel, by decide +kernel, rfl⟩
abbrev mX7_leap : MI := (RX7, yX7_leap, prog_9_method_6_code, 2, (some .boolean), [])
abbrev rX7_leap : Room := { frames := 1, cells := 0, slots := 0, locals := 23 }
theorem mk_X7_leap : MK mX7_leap 1 := ⟨ko_X7_leap, by decide +kernel, by decide +kernel, rfl⟩
abbrev mX7_rest : MI := (RX7, yX7_rest, prog_9_method_5_code, 4, (some .long), [])
abbrev rX7_rest : Room := { frames := 0, cells := 0, slots := 0, locals := 0 }
theorem mk_X7_rest : MK mX7_rest 2 := ⟨ko_X7_rest, by decide +kernel, by decide +kernel, rfl⟩
abbrev mX7_dayOf : MI := (RX7, yX7_dayOf, prog_9_method_8_code, 12, (some .long), [])
abbrev rX7_dayOf : Room := { frames := 1, cells := 0, slots := 0, locals := 23 }
theorem mk_X7_dayOf : MK mX7_dayOf 3 := ⟨ko_X7_dayOf, by decide +kernel, by decide +kernel, rfl⟩
abbrev mX7_floor : MI := (RX7, yX7_floor, prog_9_method_4_code, 4, (some .long), [])
abbrev rX7_floor : Room := { frames := 0, cells := 0, slots := 0, locals := 0 }
theorem mk_X7_floor : MK mX7_floor 2 := ⟨ko_X7_floor, by decide +kernel, by decide +kernel, rfl⟩
abbrev mX7_time : MI := (RX7, yX7_time, prog_9_method_18_code, 7, none, [])
abbrev rX7_time : Room := { frames := 2, cells := 0, slots := 0, locals := 46 }
theorem mk_X7_time : MK mX7_time 5 := ⟨ko_X7_time, by decide +kernel, by decide +kernel, rfl⟩
abbrev mX7_get : MI := (RX7, yX7_get, prog_9_method_19_code, 7, (some .long), [])
abbrev rX7_get : Room := { frames := 2, cells := 0, slots := 0, locals := 56 }
theorem mk_X7_get : MK mX7_get 2 := ⟨ko_X7_get, by decide +kernel, by decide +kernel, rfl⟩
abbrev mX7_weekOf : MI := (RX7, yX7_weekOf, prog_9_method_10_code, 2, (some .int), [])
abbrev rX7_weekOf : Room := { frames := 1, cells := 0, slots := 0, locals := 23 }
theorem mk_X7_weekOf : MK mX7_weekOf 1 := ⟨ko_X7_weekOf, by decide +kernel, by decide +kernel, rfl⟩
abbrev mX7_timed : MI := (RX7, yX7_timed, prog_9_method_20_code, 3, (some .long), [])
abbrev rX7_timed : Room := { frames := 0, cells := 0, slots := 0, locals := 0 }
theorem mk_X7_timed : MK mX7_timed 2 := ⟨ko_X7_timed, by decide +kernel, by decide +kernel, rfl⟩
abbrev mX7_tell : MI := (RX7, yX7_tell, prog_9_method_9_code, 14, none, [])
abbrev rX7_tell : Room := { frames := 1, cells := 0, slots := 0, locals := 23 }
theorem mk_X7_tell : MK mX7_tell 1 := ⟨ko_X7_tell, by decide +kernel, by decide +kernel, rfl⟩
abbrev mX7_with : MI := (RX7, yX7_with, prog_9_method_21_code, 12, none, [])
abbrev rX7_with : Room := { frames := 4, cells := 0, slots := 0, locals := 94 }
theorem mk_X7_with : MK mX7_with 3 := ⟨ko_X7_with, by decide +kernel, by decide +kernel, rfl⟩
abbrev mX7_withTime : MI := (RX7, yX7_withTime, prog_9_method_22_code, 9, none, [])
abbrev rX7_withTime : Room := { frames := 1, cells := 0, slots := 0, locals := 25 }
theorem mk_X7_withTime : MK mX7_withTime 3 := ⟨ko_X7_withTime, by decide +kernel, by decide +kernel, rfl⟩
abbrev mX7_monthWithin : MI := (RX7, yX7_monthWithin, prog_9_method_14_code, 2, (some .boolean), [])
abbrev rX7_monthWithin : Room := { frames := 1, cells := 0, slots := 0, locals := 25 }
theorem mk_X7_monthWithin : MK mX7_monthWithin 1 := ⟨ko_X7_monthWithin, by decide +kernel, by decide +kernel, rfl⟩
abbrev mX7_monthly : MI := (RX7, yX7_monthly, prog_9_method_13_code, 9, (some .long), [])
abbrev rX7_monthly : Room := { frames := 3, cells := 0, slots := 0, locals := 66 }
theorem mk_X7_monthly : MK mX7_monthly 2 := ⟨ko_X7_monthly, by decide +kernel, by decide +kernel, rfl⟩
abbrev mX7_within : MI := (RX7, yX7_within, prog_9_method_11_code, 2, (some .boolean), [])
abbrev rX7_within : Room := { frames := 2, cells := 0, slots := 0, locals := 54 }
theorem mk_X7_within : MK mX7_within 1 := ⟨ko_X7_within, by decide +kernel, by decide +kernel, rfl⟩
abbrev mX7_plus : MI := (RX7, yX7_plus, prog_9_method_25_code, 13, none, [])
abbrev rX7_plus : Room := { frames := 4, cells := 0, slots := 0, locals := 94 }
theorem mk_X7_plus : MK mX7_plus 3 := ⟨ko_X7_plus, by decide +kernel, by decide +kernel, rfl⟩
abbrev mX7_monthsOf : MI := (RX7, yX7_monthsOf, prog_9_method_12_code, 3, (some .long), [])
abbrev rX7_monthsOf : Room := { frames := 2, cells := 0, slots := 0, locals := 56 }
theorem mk_X7_monthsOf : MK mX7_monthsOf 1 := ⟨ko_X7_monthsOf, by decide +kernel, by decide +kernel, rfl⟩
abbrev mX7_monthsOfUnit : MI := (RX7, yX7_monthsOfUnit, prog_9_method_24_code, 1, (some .long), [])
abbrev rX7_monthsOfUnit : Room := { frames := 0, cells := 0, slots := 0, locals := 0 }
theorem mk_X7_monthsOfUnit : MK mX7_monthsOfUnit 1 := ⟨ko_X7_monthsOfUnit, by decide +kernel, by decide +kernel, rfl⟩
abbrev mX7_nanosOf : MI := (RX7, yX7_nanosOf, prog_9_method_23_code, 1, (some .long), [])
abbrev rX7_nanosOf : Room := { frames := 0, cells := 0, slots := 0, locals := 0 }
theorem mk_X7_nanosOf : MK mX7_nanosOf 1 := ⟨ko_X7_nanosOf, by decide +kernel, by decide +kernel, rfl⟩
abbrev mX7_until : MI := (RX7, yX7_until, prog_9_method_27_code, 13, (some .long), [])
abbrev rX7_until : Room := { frames := 4, cells := 0, slots := 0, locals := 113 }
theorem mk_X7_until : MK mX7_until 3 := ⟨ko_X7_until, by decide +kernel, by decide +kernel, rfl⟩
abbrev mX7_monthsTo : MI := (RX7, yX7_monthsTo, prog_9_method_26_code, 16, (some .long), [])
abbrev rX7_monthsTo : Room := { frames := 3, cells := 0, slots := 0, locals := 78 }
theorem mk_X7_monthsTo : MK mX7_monthsTo 4 := ⟨ko_X7_monthsTo, by decide +kernel, by decide +kernel, rfl⟩
abbrev mX7_span : MI := (RX7, yX7_span, prog_9_method_28_code, 6, (some .int), [])
abbrev rX7_span : Room := { frames := 4, cells := 0, slots := 0, locals := 113 }
theorem mk_X7_span : MK mX7_span 3 := ⟨ko_X7_span, by decide +kernel, by decide +kernel, rfl⟩
abbrev mX7_adjust : MI := (RX7, yX7_adjust, prog_9_method_29_code, 7, none, [])
abbrev rX7_adjust : Room := { frames := 3, cells := 0, slots := 0, locals := 75 }
theorem mk_X7_adjust : MK mX7_adjust 3 := ⟨ko_X7_adjust, by decide +kernel, by decide +kernel, rfl⟩
abbrev mX7_copy : MI := (RX7, yX7_copy, prog_9_method_30_code, 5, (some .int), [])
abbrev rX7_copy : Room := { frames := 2, cells := 0, slots := 0, locals := 46 }
theorem mk_X7_copy : MK mX7_copy 2 := ⟨ko_X7_copy, by decide +kernel, by decide +kernel, rfl⟩
abbrev mX7_zone : MI := (RX7, yX7_zone, prog_9_method_32_code, 3, (some .boolean), [])
abbrev rX7_zone : Room := { frames := 1, cells := 0, slots := 0, locals := 25 }
theorem mk_X7_zone : MK mX7_zone 2 := ⟨ko_X7_zone, by decide +kernel, by decide +kernel, rfl⟩
abbrev mX7_change : MI := (RX7, yX7_change, prog_9_method_34_code, 5, (some .boolean), [])
abbrev rX7_change : Room := { frames := 2, cells := 0, slots := 0, locals := 46 }
theorem mk_X7_change : MK mX7_change 3 := ⟨ko_X7_change, by decide +kernel, by decide +kernel, rfl⟩
abbrev mX7_isMoment : MI := (RX7, yX7_isMoment, prog_9_method_31_code, 2, (some .boolean), [])
abbrev rX7_isMoment : Room := { frames := 1, cells := 0, slots := 0, locals := 25 }
theorem mk_X7_isMoment : MK mX7_isMoment 1 := ⟨ko_X7_isMoment, by decide +kernel, by decide +kernel, rfl⟩
abbrev mX7_lastOf : MI := (RX7, yX7_lastOf, prog_9_method_33_code, 2, (some .long), [])
abbrev rX7_lastOf : Room := { frames := 0, cells := 0, slots := 0, locals := 0 }
theorem mk_X7_lastOf : MK mX7_lastOf 1 := ⟨ko_X7_lastOf, by decide +kernel, by decide +kernel, rfl⟩
abbrev mX7_rule : MI := (RX7, yX7_rule, prog_9_method_35_code, 9, (some .boolean), [])
abbrev rX7_rule : Room := { frames := 1, cells := 0, slots := 0, locals := 25 }
theorem mk_X7_rule : MK mX7_rule 6 := ⟨ko_X7_rule, by decide +kernel, by decide +kernel, rfl⟩
abbrev mX7_offset : MI := (RX7, yX7_offset, prog_9_method_39_code, 4, (some .int), [])
abbrev rX7_offset : Room := { frames := 5, cells := 0, slots := 0, locals := 129 }
theorem mk_X7_offset : MK mX7_offset 2 := ⟨ko_X7_offset, by decide +kernel, by decide +kernel, rfl⟩
abbrev mX7_offsetAt : MI := (RX7, yX7_offsetAt, prog_9_method_38_code, 14, (some .int), [])
abbrev rX7_offsetAt : Room := { frames := 4, cells := 0, slots := 0, locals := 96 }
theorem mk_X7_offsetAt : MK mX7_offsetAt 2 := ⟨ko_X7_offsetAt, by decide +kernel, by decide +kernel, rfl⟩
abbrev mX7_yearOf : MI := (RX7, yX7_yearOf, prog_9_method_37_code, 3, (some .long), [])
abbrev rX7_yearOf : Room := { frames := 2, cells := 0, slots := 0, locals := 56 }
theorem mk_X7_yearOf : MK mX7_yearOf 1 := ⟨ko_X7_yearOf, by decide +kernel, by decide +kernel, rfl⟩
abbrev mX7_ruled : MI := (RX7, yX7_ruled, prog_9_method_36_code, 11, (some .long), [])
abbrev rX7_ruled : Room := { frames := 3, cells := 0, slots := 0, locals := 66 }
theorem mk_X7_ruled : MK mX7_ruled 3 := ⟨ko_X7_ruled, by decide +kernel, by decide +kernel, rfl⟩
abbrev mX7_moment : MI := (RX7, yX7_moment, prog_9_method_42_code, 17, (some .long), [])
abbrev rX7_moment : Room := { frames := 6, cells := 0, slots := 0, locals := 157 }
theorem mk_X7_moment : MK mX7_moment 3 := ⟨ko_X7_moment, by decide +kernel, by decide +kernel, rfl⟩
abbrev mX7_possible : MI := (RX7, yX7_possible, prog_9_method_40_code, 3, (some .int), [])
abbrev rX7_possible : Room := { frames := 0, cells := 0, slots := 0, locals := 0 }
theorem mk_X7_possible : MK mX7_possible 2 := ⟨ko_X7_possible, by decide +kernel, by decide +kernel, rfl⟩
abbrev mX7_opened : MI := (RX7, yX7_opened, prog_9_method_41_code, 9, (some .long), [])
abbrev rX7_opened : Room := { frames := 5, cells := 0, slots := 0, locals := 129 }
theorem mk_X7_opened : MK mX7_opened 4 := ⟨ko_X7_opened, by decide +kernel, by decide +kernel, rfl⟩
abbrev mX7_show : MI := (RX7, yX7_show, prog_9_method_43_code, 9, none, [])
abbrev rX7_show : Room := { frames := 5, cells := 0, slots := 0, locals := 129 }
theorem mk_X7_show : MK mX7_show 3 := ⟨ko_X7_show, by decide +kernel, by decide +kernel, rfl⟩
abbrev mX7_julian : MI := (RX7, yX7_julian, prog_9_method_44_code, 2, (some .double), [])
abbrev rX7_julian : Room := { frames := 2, cells := 0, slots := 0, locals := 46 }
theorem mk_X7_julian : MK mX7_julian 1 := ⟨ko_X7_julian, by decide +kernel, by decide +kernel, rfl⟩
abbrev mX7_type : MI := (RX7, yX7_type, prog_9_method_45_code, 2, (some .boolean), [])
abbrev rX7_type : Room := { frames := 0, cells := 0, slots := 0, locals := 0 }
theorem mk_X7_type : MK mX7_type 1 := ⟨ko_X7_type, by decide +kernel, by decide +kernel, rfl⟩
abbrev mX7_parse : MI := (RX7, yX7_parse, prog_9_method_49_code, 8, none, [])
abbrev rX7_parse : Room := { frames := 4, cells := 0, slots := 0, locals := 89 }
theorem mk_X7_parse : MK mX7_parse 1 := ⟨ko_X7_parse, by decide +kernel, by decide +kernel, rfl⟩
abbrev mX7_eat : MI := (RX7, yX7_eat, prog_9_method_46_code, 3, (some .boolean), [])
abbrev rX7_eat : Room := { frames := 0, cells := 0, slots := 0, locals := 0 }
theorem mk_X7_eat : MK mX7_eat 1 := ⟨ko_X7_eat, by decide +kernel, by decide +kernel, rfl⟩
abbrev mX7_digits : MI := (RX7, yX7_digits, prog_9_method_48_code, 5, (some .int), [])
abbrev rX7_digits : Room := { frames := 1, cells := 0, slots := 0, locals := 25 }
theorem mk_X7_digits : MK mX7_digits 1 := ⟨ko_X7_digits, by decide +kernel, by decide +kernel, rfl⟩
abbrev mX7_want : MI := (RX7, yX7_want, prog_9_method_47_code, 2, none, [])
abbrev rX7_want : Room := { frames := 1, cells := 0, slots := 0, locals := 22 }
theorem mk_X7_want : MK mX7_want 1 := ⟨ko_X7_want, by decide +kernel, by decide +kernel, rfl⟩
abbrev mX7_timeIn : MI := (RX7, yX7_timeIn, prog_9_method_50_code, 8, (some .long), [])
abbrev rX7_timeIn : Room := { frames := 2, cells := 0, slots := 0, locals := 49 }
theorem mk_X7_timeIn : MK mX7_timeIn 0 := ⟨ko_X7_timeIn, by decide +kernel, by decide +kernel, rfl⟩
abbrev mX7_text : MI := (RX7, yX7_text, prog_9_method_53_code, 8, (some .int), [])
abbrev rX7_text : Room := { frames := 2, cells := 0, slots := 0, locals := 56 }
theorem mk_X7_text : MK mX7_text 2 := ⟨ko_X7_text, by decide +kernel, by decide +kernel, rfl⟩
abbrev mX7_put : MI := (RX7, yX7_put, prog_9_method_51_code, 2, none, [])
abbrev rX7_put : Room := { frames := 0, cells := 0, slots := 0, locals := 0 }
theorem mk_X7_put : MK mX7_put 1 := ⟨ko_X7_put, by decide +kernel, by decide +kernel, rfl⟩
abbrev mX7_number : MI := (RX7, yX7_number, prog_9_method_52_code, 8, none, [])
abbrev rX7_number : Room := { frames := 1, cells := 0, slots := 0, locals := 21 }
theorem mk_X7_number : MK mX7_number 2 := ⟨ko_X7_number, by decide +kernel, by decide +kernel, rfl⟩
theorem ck_X1 : CK 0 RX1 TX1 tyX1 3 := ⟨rfl, fun c hc => ⟨(by decide +kernel : ∀ c ∈ u_ws RX1 TX1 3, c ∈ lw_tbl) c hc, (by decide +kernel : ∀ c ∈ u_ws RX1 TX1 3, okW c = true) c hc⟩, tyX1_ok, nmX1⟩
theorem ck_X2 : CK 1 RX2 TX2 tyX2 2 := ⟨rfl, fun c hc => ⟨(by decide +kernel : ∀ c ∈ u_ws RX2 TX2 2, c ∈ lw_tbl) c hc, (by decide +kernel : ∀ c ∈ u_ws RX2 TX2 2, okW c = true) c hc⟩, tyX2_ok, nmX2⟩
theorem ck_X3 : CK 2 RX3 TX3 tyX3 5 := ⟨rfl, fun c hc => ⟨(by decide +kernel : ∀ c ∈ u_ws RX3 TX3 5, c ∈ lw_tbl) c hc, (by decide +kernel : ∀ c ∈ u_ws RX3 TX3 5, okW c = true) c hc⟩, tyX3_ok, nmX3⟩
theorem ck_X4 : CK 3 RX4 TX4 tyX4 4 := ⟨rfl, fun c hc => ⟨(by decide +kernel : ∀ c ∈ u_ws RX4 TX4 4, c ∈ lw_tbl) c hc, (by decide +kernel : ∀ c ∈ u_ws RX4 TX4 4, okW c = true) c hc⟩, tyX4_ok, nmX4⟩
theorem ck_X5 : CK 4 RX5 TX5 tyX5 6 := ⟨rfl, fun c hc => ⟨(by decide +kernel : ∀ c ∈ u_ws RX5 TX5 6, c ∈ lw_tbl) c hc, (by decide +kernel : ∀ c ∈ u_ws RX5 TX5 6, okW c = true) c hc⟩, tyX5_ok, nmX5⟩
theorem ck_X6 : CK 5 RX6 TX6 tyX6 4 := ⟨rfl, fun c hc => ⟨(by decide +kernel : ∀ c ∈ u_ws RX6 TX6 4, c ∈ lw_tbl) c hc, (by decide +kernel : ∀ c ∈ u_ws RX6 TX6 4, okW c = true) c hc⟩, tyX6_ok, nmX6⟩
theorem ck_X7 : CK 6 RX7 TX7 tyX7 18 := ⟨rfl, fun c hc => ⟨(by decide +kernel : ∀ c ∈ u_ws RX7 TX7 18, c ∈ lw_tbl) c hc, (by decide +kernel : ∀ c ∈ u_ws RX7 TX7 18, okW c = true) c hc⟩, tyX7_ok, nmX7⟩
theorem f_X4_9 : FL RX4 9 3 0 .int false := ⟨RX4, TX4, tyX4, 4, ck_X4, by decide, rfl, rfl, rfl, kf_X4_9⟩
theorem f_X2_19 : FN RX2 19 3 0 := ⟨RX4, TX4, tyX4, 4, _, ck_X4, by decide, rfl, kf_X2_19⟩
theorem f_X6_186 : FN RX6 186 3 0 := ⟨RX4, TX4, tyX4, 4, _, ck_X4, by decide, rfl, kf_X6_186⟩
theorem f_X4_15 : FL RX4 15 3 1 .int false := ⟨RX4, TX4, tyX4, 4, ck_X4, by decide, rfl, rfl, rfl, kf_X4_15⟩
theorem f_X2_38 : FN RX2 38 3 1 := ⟨RX4, TX4, tyX4, 4, _, ck_X4, by decide, rfl, kf_X2_38⟩
theorem f_X6_189 : FN RX6 189 3 1 := ⟨RX4, TX4, tyX4, 4, _, ck_X4, by decide, rfl, kf_X6_189⟩
theorem f_X4_18 : FL RX4 18 3 2 .int false := ⟨RX4, TX4, tyX4, 4, ck_X4, by decide, rfl, rfl, rfl, kf_X4_18⟩
theorem f_X2_41 : FN RX2 41 3 2 := ⟨RX4, TX4, tyX4, 4, _, ck_X4, by decide, rfl, kf_X2_41⟩
theorem f_X6_161 : FN RX6 161 3 2 := ⟨RX4, TX4, tyX4, 4, _, ck_X4, by decide, rfl, kf_X6_161⟩
theorem f_X4_21 : FL RX4 21 3 3 .long false := ⟨RX4, TX4, tyX4, 4, ck_X4, by decide, rfl, rfl, rfl, kf_X4_21⟩
theorem f_X2_48 : FN RX2 48 3 3 := ⟨RX4, TX4, tyX4, 4, _, ck_X4, by decide, rfl, kf_X2_48⟩
theorem f_X6_115 : FN RX6 115 3 3 := ⟨RX4, TX4, tyX4, 4, _, ck_X4, by decide, rfl, kf_X6_115⟩
theorem f_X3_9 : FL RX3 9 2 0 .int false := ⟨RX3, TX3, tyX3, 5, ck_X3, by decide, rfl, rfl, rfl, kf_X3_9⟩
theorem f_X3_15 : FL RX3 15 2 1 .int false := ⟨RX3, TX3, tyX3, 5, ck_X3, by decide, rfl, rfl, rfl, kf_X3_15⟩
theorem f_X3_18 : FL RX3 18 2 2 .int false := ⟨RX3, TX3, tyX3, 5, ck_X3, by decide, rfl, rfl, rfl, kf_X3_18⟩
theorem f_X3_21 : FL RX3 21 2 3 .int false := ⟨RX3, TX3, tyX3, 5, ck_X3, by decide, rfl, rfl, rfl, kf_X3_21⟩
theorem f_X3_24 : FL RX3 24 2 4 .int false := ⟨RX3, TX3, tyX3, 5, ck_X3, by decide, rfl, rfl, rfl, kf_X3_24⟩
theorem f_X5_74 : FN RX5 74 2 4 := ⟨RX3, TX3, tyX3, 5, _, ck_X3, by decide, rfl, kf_X5_74⟩
theorem f_X5_26 : FL RX5 26 4 0 .int false := ⟨RX5, TX5, tyX5, 6, ck_X5, by decide, rfl, rfl, rfl, kf_X5_26⟩
theorem f_X5_9 : FL RX5 9 4 1 (.array .long) true := ⟨RX5, TX5, tyX5, 6, ck_X5, by decide, rfl, rfl, rfl, kf_X5_9⟩
theorem f_X5_15 : FL RX5 15 4 2 (.array .int) true := ⟨RX5, TX5, tyX5, 6, ck_X5, by decide, rfl, rfl, rfl, kf_X5_15⟩
theorem f_X5_30 : FL RX5 30 4 3 .int false := ⟨RX5, TX5, tyX5, 6, ck_X5, by decide, rfl, rfl, rfl, kf_X5_30⟩
theorem f_X5_21 : FL RX5 21 4 4 (.array (.object "TimeDesk$Rule")) true := ⟨RX5, TX5, tyX5, 6, ck_X5, by decide, rfl, rfl, rfl, kf_X5_21⟩
theorem f_X5_33 : FL RX5 33 4 5 .int false := ⟨RX5, TX5, tyX5, 6, ck_X5, by decide, rfl, rfl, rfl, kf_X5_33⟩
theorem f_X1_9 : FL RX1 9 0 0 (.array .char) true := ⟨RX1, TX1, tyX1, 3, ck_X1, by decide, rfl, rfl, rfl, kf_X1_9⟩
theorem f_X1_15 : FL RX1 15 0 1 .int false := ⟨RX1, TX1, tyX1, 3, ck_X1, by decide, rfl, rfl, rfl, kf_X1_15⟩
theorem f_X1_19 : FL RX1 19 0 2 .int false := ⟨RX1, TX1, tyX1, 3, ck_X1, by decide, rfl, rfl, rfl, kf_X1_19⟩
theorem f_X2_9 : FL RX2 9 1 0 (.array .char) true := ⟨RX2, TX2, tyX2, 2, ck_X2, by decide, rfl, rfl, rfl, kf_X2_9⟩
theorem f_X2_15 : FL RX2 15 1 1 .int false := ⟨RX2, TX2, tyX2, 2, ck_X2, by decide, rfl, rfl, rfl, kf_X2_15⟩
theorem f_X6_13 : FL RX6 13 5 0 (.array (.object "TimeDesk$Stamp")) true := ⟨RX6, TX6, tyX6, 4, ck_X6, by decide, rfl, rfl, rfl, kf_X6_13⟩
theorem f_X6_20 : FL RX6 20 5 1 (.array (.object "TimeDesk$Zone")) true := ⟨RX6, TX6, tyX6, 4, ck_X6, by decide, rfl, rfl, rfl, kf_X6_20⟩
theorem f_X6_28 : FL RX6 28 5 2 (.object "TimeDesk$Line") true := ⟨RX6, TX6, tyX6, 4, ck_X6, by decide, rfl, rfl, rfl, kf_X6_28⟩
theorem f_X6_35 : FL RX6 35 5 3 (.object "TimeDesk$Page") true := ⟨RX6, TX6, tyX6, 4, ck_X6, by decide, rfl, rfl, rfl, kf_X6_35⟩
theorem f_X7_41 : FL RX7 41 6 0 .int false := ⟨RX7, TX7, tyX7, 18, ck_X7, by decide, rfl, rfl, rfl, kf_X7_41⟩
theorem f_X7_7 : FL RX7 7 6 1 (.array .long) true := ⟨RX7, TX7, tyX7, 18, ck_X7, by decide, rfl, rfl, rfl, kf_X7_7⟩
theorem f_X7_13 : FL RX7 13 6 2 (.array .long) true := ⟨RX7, TX7, tyX7, 18, ck_X7, by decide, rfl, rfl, rfl, kf_X7_13⟩
theorem f_X7_86 : FL RX7 86 6 3 .long false := ⟨RX7, TX7, tyX7, 18, ck_X7, by decide, rfl, rfl, rfl, kf_X7_86⟩
theorem f_X7_83 : FL RX7 83 6 4 .int false := ⟨RX7, TX7, tyX7, 18, ck_X7, by decide, rfl, rfl, rfl, kf_X7_83⟩
theorem f_X7_80 : FL RX7 80 6 5 .int false := ⟨RX7, TX7, tyX7, 18, ck_X7, by decide, rfl, rfl, rfl, kf_X7_80⟩
theorem f_X7_16 : FL RX7 16 6 6 (.array .int) true := ⟨RX7, TX7, tyX7, 18, ck_X7, by decide, rfl, rfl, rfl, kf_X7_16⟩
theorem f_X7_20 : FL RX7 20 6 7 (.array .int) true := ⟨RX7, TX7, tyX7, 18, ck_X7, by decide, rfl, rfl, rfl, kf_X7_20⟩
theorem f_X7_23 : FL RX7 23 6 8 (.array .long) true := ⟨RX7, TX7, tyX7, 18, ck_X7, by decide, rfl, rfl, rfl, kf_X7_23⟩
theorem f_X7_26 : FL RX7 26 6 9 (.array .int) true := ⟨RX7, TX7, tyX7, 18, ck_X7, by decide, rfl, rfl, rfl, kf_X7_26⟩
theorem f_X7_29 : FL RX7 29 6 10 (.array .int) true := ⟨RX7, TX7, tyX7, 18, ck_X7, by decide, rfl, rfl, rfl, kf_X7_29⟩
theorem f_X7_32 : FL RX7 32 6 11 (.array .int) true := ⟨RX7, TX7, tyX7, 18, ck_X7, by decide, rfl, rfl, rfl, kf_X7_32⟩
theorem f_X7_35 : FL RX7 35 6 12 (.array .int) true := ⟨RX7, TX7, tyX7, 18, ck_X7, by decide, rfl, rfl, rfl, kf_X7_35⟩
theorem f_X7_251 : FL RX7 251 6 13 .int false := ⟨RX7, TX7, tyX7, 18, ck_X7, by decide, rfl, rfl, rfl, kf_X7_251⟩
theorem f_X7_254 : FL RX7 254 6 14 .int false := ⟨RX7, TX7, tyX7, 18, ck_X7, by decide, rfl, rfl, rfl, kf_X7_254⟩
theorem f_X7_260 : FL RX7 260 6 15 .boolean false := ⟨RX7, TX7, tyX7, 18, ck_X7, by decide, rfl, rfl, rfl, kf_X7_260⟩
theorem f_X7_38 : FL RX7 38 6 16 (.array .int) true := ⟨RX7, TX7, tyX7, 18, ck_X7, by decide, rfl, rfl, rfl, kf_X7_38⟩
theorem f_X7_284 : FL RX7 284 6 17 .int false := ⟨RX7, TX7, tyX7, 18, ck_X7, by decide, rfl, rfl, rfl, kf_X7_284⟩
