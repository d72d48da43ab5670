def TC : u_T := fun k => match k with
  | 0 => ("RoomHours$Course", "house", "LRoomHours$House;", true)
  | 1 => ("RoomHours$Course", "over", "I", false)
  | 2 => ("RoomHours$Course", "heat", "[J", true)
  | 3 => ("RoomHours$Course", "warmth", "[J", true)
  | 4 => ("RoomHours$Course", "given", "[J", true)
  | 5 => ("RoomHours$Course", "taken", "[J", true)
  | 6 => ("RoomHours$Course", "greatest", "[J", true)
  | 7 => ("RoomHours$Course", "uneasy", "[I", true)
  | 8 => ("RoomHours$Course", "begun", "J", false)
  | 9 => ("RoomHours$Course", "fromSun", "J", false)
  | 10 => ("RoomHours$Course", "fromPersons", "J", false)
  | 11 => ("RoomHours$Course", "goneOut", "J", false)
  | 12 => ("RoomHours$Course", "setRoom", "I", false)
  | 13 => ("RoomHours$Course", "setTried", "I", false)
  | 14 => ("RoomHours$Course", "setFrom", "I", false)
  | 15 => ("RoomHours$Course", "mostRoom", "I", false)
  | 16 => ("RoomHours$Course", "mostTried", "I", false)
  | _ => ("RoomHours$Course", "fellShort", "Z", false)
def tyC : Nat → FieldType := fun k => match k with
  | 0 => .object "RoomHours$House"
  | 1 => .int
  | 2 => .array .long
  | 3 => .array .long
  | 4 => .array .long
  | 5 => .array .long
  | 6 => .array .long
  | 7 => .array .int
  | 8 => .long
  | 9 => .long
  | 10 => .long
  | 11 => .long
  | 12 => .int
  | 13 => .int
  | 14 => .int
  | 15 => .int
  | 16 => .int
  | _ => .boolean
theorem nC : ∀ a, a < 18 → ∀ b, b < 18 → a ≠ b → (TC a).2.1 ≠ (TC b).2.1 := by decide +kernel
theorem tC_ok : ∀ k, k < 18 → parseFieldDescriptor (TC k).2.2.1 = some (tyC k) := by decide +kernel
def TH : u_T := fun k => match k with
  | 0 => ("RoomHours$House", "rooms", "I", false)
  | 1 => ("RoomHours$House", "stores", "[I", true)
  | 2 => ("RoomHours$House", "leadsAt", "[I", true)
  | 3 => ("RoomHours$House", "mosts", "[[I", true)
  | 4 => ("RoomHours$House", "plans", "[[I", true)
  | 5 => ("RoomHours$House", "walls", "I", false)
  | 6 => ("RoomHours$House", "wallFrom", "[I", true)
  | 7 => ("RoomHours$House", "wallTo", "[I", true)
  | 8 => ("RoomHours$House", "wallLeads", "[I", true)
  | 9 => ("RoomHours$House", "windows", "I", false)
  | 10 => ("RoomHours$House", "windowRoom", "[I", true)
  | 11 => ("RoomHours$House", "windowSide", "[I", true)
  | 12 => ("RoomHours$House", "windowArea", "[I", true)
  | 13 => ("RoomHours$House", "windowLimit", "[I", true)
  | 14 => ("RoomHours$House", "outsides", "[I", true)
  | 15 => ("RoomHours$House", "suns", "[[I", true)
  | 16 => ("RoomHours$House", "low", "I", false)
  | _ => ("RoomHours$House", "high", "I", false)
def tyH : Nat → FieldType := fun k => match k with
  | 0 => .int
  | 1 => .array .int
  | 2 => .array .int
  | 3 => .array (.array .int)
  | 4 => .array (.array .int)
  | 5 => .int
  | 6 => .array .int
  | 7 => .array .int
  | 8 => .array .int
  | 9 => .int
  | 10 => .array .int
  | 11 => .array .int
  | 12 => .array .int
  | 13 => .array .int
  | 14 => .array .int
  | 15 => .array (.array .int)
  | 16 => .int
  | _ => .int
theorem nH : ∀ a, a < 18 → ∀ b, b < 18 → a ≠ b → (TH a).2.1 ≠ (TH b).2.1 := by decide +kernel
theorem tH_ok : ∀ k, k < 18 → parseFieldDescriptor (TH k).2.2.1 = some (tyH k) := by decide +kernel
def TR : u_T := fun k => match k with
  | 0 => ("RoomHours", "house", "LRoomHours$House;", true)
  | 1 => ("RoomHours", "now", "LRoomHours$Course;", true)
  | _ => ("RoomHours", "trial", "LRoomHours$Course;", true)
def tyR : Nat → FieldType := fun k => match k with
  | 0 => .object "RoomHours$House"
  | 1 => .object "RoomHours$Course"
  | _ => .object "RoomHours$Course"
theorem nR : ∀ a, a < 3 → ∀ b, b < 3 → a ≠ b → (TR a).2.1 ≠ (TR b).2.1 := by decide +kernel
theorem tR_ok : ∀ k, k < 3 → parseFieldDescriptor (TR k).2.2.1 = some (tyR k) := by decide +kernel
def TM : u_T := fun k => match k with
  | 0 => ("RoomHoursModel", "thrown", "I", false)
  | 1 => ("RoomHoursModel", "rooms", "I", false)
  | 2 => ("RoomHoursModel", "store", "[I", true)
  | 3 => ("RoomHoursModel", "heat", "[J", true)
  | 4 => ("RoomHoursModel", "uneasy", "[I", true)
  | 5 => ("RoomHoursModel", "gave", "[J", true)
  | 6 => ("RoomHoursModel", "taken", "[J", true)
  | 7 => ("RoomHoursModel", "greatest", "[J", true)
  | 8 => ("RoomHoursModel", "mostHeating", "[I", true)
  | 9 => ("RoomHoursModel", "mostCooling", "[I", true)
  | 10 => ("RoomHoursModel", "began", "J", false)
  | 11 => ("RoomHoursModel", "walls", "I", false)
  | 12 => ("RoomHoursModel", "wallRoom", "[I", true)
  | 13 => ("RoomHoursModel", "wallOther", "[I", true)
  | 14 => ("RoomHoursModel", "leads", "[I", true)
  | 15 => ("RoomHoursModel", "windows", "I", false)
  | 16 => ("RoomHoursModel", "windowRoom", "[I", true)
  | 17 => ("RoomHoursModel", "windowSide", "[I", true)
  | 18 => ("RoomHoursModel", "windowArea", "[I", true)
  | 19 => ("RoomHoursModel", "windowLimit", "[I", true)
  | 20 => ("RoomHoursModel", "outside", "[I", true)
  | 21 => ("RoomHoursModel", "sun", "[I", true)
  | 22 => ("RoomHoursModel", "persons", "[I", true)
  | 23 => ("RoomHoursModel", "set", "[I", true)
  | 24 => ("RoomHoursModel", "cool", "[I", true)
  | 25 => ("RoomHoursModel", "low", "I", false)
  | 26 => ("RoomHoursModel", "high", "I", false)
  | 27 => ("RoomHoursModel", "now", "I", false)
  | 28 => ("RoomHoursModel", "bySun", "J", false)
  | 29 => ("RoomHoursModel", "byPersons", "J", false)
  | 30 => ("RoomHoursModel", "out", "J", false)
  | 31 => ("RoomHoursModel", "warmth", "[J", true)
  | 32 => ("RoomHoursModel", "triedRoom", "I", false)
  | 33 => ("RoomHoursModel", "triedWarmth", "I", false)
  | 34 => ("RoomHoursModel", "triedFrom", "I", false)
  | 35 => ("RoomHoursModel", "wasLow", "Z", false)
  | _ => ("RoomHoursModel", "kept", "[J", true)
def tyM : Nat → FieldType := fun k => match k with
  | 0 => .int
  | 1 => .int
  | 2 => .array .int
  | 3 => .array .long
  | 4 => .array .int
  | 5 => .array .long
  | 6 => .array .long
  | 7 => .array .long
  | 8 => .array .int
  | 9 => .array .int
  | 10 => .long
  | 11 => .int
  | 12 => .array .int
  | 13 => .array .int
  | 14 => .array .int
  | 15 => .int
  | 16 => .array .int
  | 17 => .array .int
  | 18 => .array .int
  | 19 => .array .int
  | 20 => .array .int
  | 21 => .array .int
  | 22 => .array .int
  | 23 => .array .int
  | 24 => .array .int
  | 25 => .int
  | 26 => .int
  | 27 => .int
  | 28 => .long
  | 29 => .long
  | 30 => .long
  | 31 => .array .long
  | 32 => .int
  | 33 => .int
  | 34 => .int
  | 35 => .boolean
  | _ => .array .long
theorem nM : ∀ a, a < 37 → ∀ b, b < 37 → a ≠ b → (TM a).2.1 ≠ (TM b).2.1 := by decide +kernel
theorem tM_ok : ∀ k, k < 37 → parseFieldDescriptor (TM k).2.2.1 = some (tyM k) := by decide +kernel
abbrev kcl : List vw_C := [("RoomHours$Course", TC, 18), ("RoomHours$House", TH, 18), ("RoomHours", TR, 3), ("RoomHoursModel", TM, 37)]
abbrev bR_init : ByteArray := prog_1_method_1_code
def yR_init : MethodName := ⟨"RoomHours", "<init>", "()V"⟩
abbrev bR_room : ByteArray := prog_1_method_2_code
def yR_room : MethodName := ⟨"RoomHours", "room", "(II)I"⟩
abbrev bR_wall : ByteArray := prog_1_method_3_code
def yR_wall : MethodName := ⟨"RoomHours", "wall", "(III)I"⟩
abbrev bR_leads : ByteArray := prog_1_method_4_code
def yR_leads : MethodName := ⟨"RoomHours", "leads", "(II)I"⟩
abbrev bR_window : ByteArray := prog_1_method_5_code
def yR_window : MethodName := ⟨"RoomHours", "window", "(IIII)I"⟩
abbrev bR_outside : ByteArray := prog_1_method_6_code
def yR_outside : MethodName := ⟨"RoomHours", "outside", "(II)I"⟩
abbrev bR_sun : ByteArray := prog_1_method_7_code
def yR_sun : MethodName := ⟨"RoomHours", "sun", "(III)I"⟩
abbrev bR_plan : ByteArray := prog_1_method_8_code
def yR_plan : MethodName := ⟨"RoomHours", "plan", "(IIII)I"⟩
abbrev bR_most : ByteArray := prog_1_method_9_code
def yR_most : MethodName := ⟨"RoomHours", "most", "(III)I"⟩
abbrev bR_ease : ByteArray := prog_1_method_10_code
def yR_ease : MethodName := ⟨"RoomHours", "ease", "(II)V"⟩
abbrev bR_run : ByteArray := prog_1_method_11_code
def yR_run : MethodName := ⟨"RoomHours", "run", "(I)I"⟩
abbrev bR_told : ByteArray := prog_1_method_12_code
def yR_told : MethodName := ⟨"RoomHours", "told", "(II)J"⟩
abbrev bR_balance : ByteArray := prog_1_method_13_code
def yR_balance : MethodName := ⟨"RoomHours", "balance", "(I)J"⟩
abbrev bR_early : ByteArray := prog_1_method_14_code
def yR_early : MethodName := ⟨"RoomHours", "early", "(III)I"⟩
abbrev bR_strong : ByteArray := prog_1_method_15_code
def yR_strong : MethodName := ⟨"RoomHours", "strong", "(II)I"⟩
abbrev bR_isWithin : ByteArray := prog_1_method_16_code
def yR_isWithin : MethodName := ⟨"RoomHours", "isWithin", "(III)Z"⟩
abbrev bR_isWarmth : ByteArray := prog_1_method_17_code
def yR_isWarmth : MethodName := ⟨"RoomHours", "isWarmth", "(I)Z"⟩
abbrev bR_isHour : ByteArray := prog_1_method_18_code
def yR_isHour : MethodName := ⟨"RoomHours", "isHour", "(I)Z"⟩
abbrev bR_isSide : ByteArray := prog_1_method_19_code
def yR_isSide : MethodName := ⟨"RoomHours", "isSide", "(I)Z"⟩
abbrev bR_isPlan : ByteArray := prog_1_method_20_code
def yR_isPlan : MethodName := ⟨"RoomHours", "isPlan", "(II)Z"⟩
abbrev bM_init : ByteArray := prog_5_method_1_code
def yM_init : MethodName := ⟨"RoomHoursModel", "<init>", "()V"⟩
abbrev bM_thrown : ByteArray := prog_5_method_2_code
def yM_thrown : MethodName := ⟨"RoomHoursModel", "thrown", "()I"⟩
abbrev bM_in : ByteArray := prog_5_method_3_code
def yM_in : MethodName := ⟨"RoomHoursModel", "in", "(III)Z"⟩
abbrev bM_isWarmth : ByteArray := prog_5_method_4_code
def yM_isWarmth : MethodName := ⟨"RoomHoursModel", "isWarmth", "(I)Z"⟩
abbrev bM_isRoom : ByteArray := prog_5_method_5_code
def yM_isRoom : MethodName := ⟨"RoomHoursModel", "isRoom", "(I)Z"⟩
abbrev bM_floor : ByteArray := prog_5_method_6_code
def yM_floor : MethodName := ⟨"RoomHoursModel", "floor", "(JI)J"⟩
abbrev bM_room : ByteArray := prog_5_method_7_code
def yM_room : MethodName := ⟨"RoomHoursModel", "room", "(II)I"⟩
abbrev bM_isTooMuch : ByteArray := prog_5_method_8_code
def yM_isTooMuch : MethodName := ⟨"RoomHoursModel", "isTooMuch", "(II)Z"⟩
abbrev bM_wall : ByteArray := prog_5_method_9_code
def yM_wall : MethodName := ⟨"RoomHoursModel", "wall", "(III)I"⟩
abbrev bM_leads : ByteArray := prog_5_method_10_code
def yM_leads : MethodName := ⟨"RoomHoursModel", "leads", "(II)I"⟩
abbrev bM_window : ByteArray := prog_5_method_11_code
def yM_window : MethodName := ⟨"RoomHoursModel", "window", "(IIII)I"⟩
abbrev bM_outside : ByteArray := prog_5_method_12_code
def yM_outside : MethodName := ⟨"RoomHoursModel", "outside", "(II)I"⟩
abbrev bM_sun : ByteArray := prog_5_method_13_code
def yM_sun : MethodName := ⟨"RoomHoursModel", "sun", "(III)I"⟩
abbrev bM_plan : ByteArray := prog_5_method_14_code
def yM_plan : MethodName := ⟨"RoomHoursModel", "plan", "(IIII)I"⟩
abbrev bM_most : ByteArray := prog_5_method_15_code
def yM_most : MethodName := ⟨"RoomHoursModel", "most", "(III)I"⟩
abbrev bM_ease : ByteArray := prog_5_method_16_code
def yM_ease : MethodName := ⟨"RoomHoursModel", "ease", "(II)V"⟩
abbrev bM_warmthOf : ByteArray := prog_5_method_17_code
def yM_warmthOf : MethodName := ⟨"RoomHoursModel", "warmthOf", "(I)J"⟩
abbrev bM_flows : ByteArray := prog_5_method_18_code
def yM_flows : MethodName := ⟨"RoomHoursModel", "flows", "(I)V"⟩
abbrev bM_step : ByteArray := prog_5_method_19_code
def yM_step : MethodName := ⟨"RoomHoursModel", "step", "()V"⟩
abbrev bM_run : ByteArray := prog_5_method_20_code
def yM_run : MethodName := ⟨"RoomHoursModel", "run", "(I)I"⟩
abbrev bM_told : ByteArray := prog_5_method_21_code
def yM_told : MethodName := ⟨"RoomHoursModel", "told", "(II)J"⟩
abbrev bM_balance : ByteArray := prog_5_method_22_code
def yM_balance : MethodName := ⟨"RoomHoursModel", "balance", "(I)J"⟩
abbrev bM_keep : ByteArray := prog_5_method_23_code
def yM_keep : MethodName := ⟨"RoomHoursModel", "keep", "()V"⟩
abbrev bM_putBack : ByteArray := prog_5_method_24_code
def yM_putBack : MethodName := ⟨"RoomHoursModel", "putBack", "()V"⟩
abbrev bM_early : ByteArray := prog_5_method_25_code
def yM_early : MethodName := ⟨"RoomHoursModel", "early", "(III)I"⟩
abbrev bM_strong : ByteArray := prog_5_method_26_code
def yM_strong : MethodName := ⟨"RoomHoursModel", "strong", "(II)I"⟩
abbrev bC_init : ByteArray := prog_2_method_1_code
def yC_init : MethodName := ⟨"RoomHours$Course", "<init>", "(LRoomHours$House;)V"⟩
abbrev bC_beginRoom : ByteArray := prog_2_method_2_code
def yC_beginRoom : MethodName := ⟨"RoomHours$Course", "beginRoom", "(IJ)V"⟩
abbrev bC_copyOf : ByteArray := prog_2_method_3_code
def yC_copyOf : MethodName := ⟨"RoomHours$Course", "copyOf", "(LRoomHours$Course;)V"⟩
abbrev bC_trySet : ByteArray := prog_2_method_4_code
def yC_trySet : MethodName := ⟨"RoomHours$Course", "trySet", "(III)V"⟩
abbrev bC_tryMost : ByteArray := prog_2_method_5_code
def yC_tryMost : MethodName := ⟨"RoomHours$Course", "tryMost", "(II)V"⟩
abbrev bC_warmthOf : ByteArray := prog_2_method_6_code
def yC_warmthOf : MethodName := ⟨"RoomHours$Course", "warmthOf", "(I)J"⟩
abbrev bC_sumOf : ByteArray := prog_2_method_7_code
def yC_sumOf : MethodName := ⟨"RoomHours$Course", "sumOf", "([J)J"⟩
abbrev bC_nextBeginning : ByteArray := prog_2_method_8_code
def yC_nextBeginning : MethodName := ⟨"RoomHours$Course", "nextBeginning", "(I)I"⟩
abbrev bC_staysUp : ByteArray := prog_2_method_9_code
def yC_staysUp : MethodName := ⟨"RoomHours$Course", "staysUp", "(II)Z"⟩
abbrev bC_step : ByteArray := prog_2_method_10_code
def yC_step : MethodName := ⟨"RoomHours$Course", "step", "()V"⟩
abbrev bC_hourOfDay : ByteArray := prog_2_method_11_code
def yC_hourOfDay : MethodName := ⟨"RoomHours$Course", "hourOfDay", "()I"⟩
abbrev bC_hourEnds : ByteArray := prog_2_method_12_code
def yC_hourEnds : MethodName := ⟨"RoomHours$Course", "hourEnds", "()Z"⟩
abbrev bC_planned : ByteArray := prog_2_method_13_code
def yC_planned : MethodName := ⟨"RoomHours$Course", "planned", "(III)I"⟩
abbrev bC_hasPersons : ByteArray := prog_2_method_14_code
def yC_hasPersons : MethodName := ⟨"RoomHours$Course", "hasPersons", "(II)Z"⟩
abbrev bC_passWalls : ByteArray := prog_2_method_15_code
def yC_passWalls : MethodName := ⟨"RoomHours$Course", "passWalls", "(I)V"⟩
abbrev bC_passWindows : ByteArray := prog_2_method_16_code
def yC_passWindows : MethodName := ⟨"RoomHours$Course", "passWindows", "(I)V"⟩
abbrev bC_bringPersons : ByteArray := prog_2_method_17_code
def yC_bringPersons : MethodName := ⟨"RoomHours$Course", "bringPersons", "(II)V"⟩
abbrev bC_heatUp : ByteArray := prog_2_method_18_code
def yC_heatUp : MethodName := ⟨"RoomHours$Course", "heatUp", "(II)V"⟩
abbrev bC_setOf : ByteArray := prog_2_method_19_code
def yC_setOf : MethodName := ⟨"RoomHours$Course", "setOf", "(II)I"⟩
abbrev bC_heatingOf : ByteArray := prog_2_method_20_code
def yC_heatingOf : MethodName := ⟨"RoomHours$Course", "heatingOf", "(I)I"⟩
abbrev bC_coolDown : ByteArray := prog_2_method_21_code
def yC_coolDown : MethodName := ⟨"RoomHours$Course", "coolDown", "(II)V"⟩
abbrev bC_countUneasy : ByteArray := prog_2_method_22_code
def yC_countUneasy : MethodName := ⟨"RoomHours$Course", "countUneasy", "(I)V"⟩
abbrev bH_init : ByteArray := prog_3_method_1_code
def yH_init : MethodName := ⟨"RoomHours$House", "<init>", "()V"⟩
abbrev bH_hasRoom : ByteArray := prog_3_method_2_code
def yH_hasRoom : MethodName := ⟨"RoomHours$House", "hasRoom", "(I)Z"⟩
abbrev bH_bears : ByteArray := prog_3_method_3_code
def yH_bears : MethodName := ⟨"RoomHours$House", "bears", "(II)Z"⟩
abbrev bH_addRoom : ByteArray := prog_3_method_4_code
def yH_addRoom : MethodName := ⟨"RoomHours$House", "addRoom", "(I)I"⟩
abbrev bH_addWall : ByteArray := prog_3_method_5_code
def yH_addWall : MethodName := ⟨"RoomHours$House", "addWall", "(III)I"⟩
abbrev bH_addLeads : ByteArray := prog_3_method_6_code
def yH_addLeads : MethodName := ⟨"RoomHours$House", "addLeads", "(II)V"⟩
abbrev bH_addWindow : ByteArray := prog_3_method_7_code
def yH_addWindow : MethodName := ⟨"RoomHours$House", "addWindow", "(IIII)I"⟩
abbrev bL_room : ByteArray := method_3_code
def yL_room : MethodName := ⟨"RoomHoursLaw", "room", "(LRoomHours;II[J)I"⟩
abbrev bL_wall : ByteArray := method_4_code
def yL_wall : MethodName := ⟨"RoomHoursLaw", "wall", "(LRoomHours;III[J)I"⟩
abbrev bL_leads : ByteArray := method_5_code
def yL_leads : MethodName := ⟨"RoomHoursLaw", "leads", "(LRoomHours;II[J)I"⟩
abbrev bL_window : ByteArray := method_6_code
def yL_window : MethodName := ⟨"RoomHoursLaw", "window", "(LRoomHours;IIII[J)I"⟩
abbrev bL_outside : ByteArray := method_7_code
def yL_outside : MethodName := ⟨"RoomHoursLaw", "outside", "(LRoomHours;II[J)I"⟩
abbrev bL_sun : ByteArray := method_8_code
def yL_sun : MethodName := ⟨"RoomHoursLaw", "sun", "(LRoomHours;III[J)I"⟩
abbrev bL_plan : ByteArray := method_9_code
def yL_plan : MethodName := ⟨"RoomHoursLaw", "plan", "(LRoomHours;IIII[J)I"⟩
abbrev bL_most : ByteArray := method_10_code
def yL_most : MethodName := ⟨"RoomHoursLaw", "most", "(LRoomHours;III[J)I"⟩
abbrev bL_ease : ByteArray := method_11_code
def yL_ease : MethodName := ⟨"RoomHoursLaw", "ease", "(LRoomHours;II)I"⟩
abbrev bL_run : ByteArray := method_12_code
def yL_run : MethodName := ⟨"RoomHoursLaw", "run", "(LRoomHours;I[J)I"⟩
abbrev bL_told : ByteArray := method_13_code
def yL_told : MethodName := ⟨"RoomHoursLaw", "told", "(LRoomHours;II[J)I"⟩
abbrev bL_balance : ByteArray := method_14_code
def yL_balance : MethodName := ⟨"RoomHoursLaw", "balance", "(LRoomHours;I[J)I"⟩
abbrev bL_early : ByteArray := method_15_code
def yL_early : MethodName := ⟨"RoomHoursLaw", "early", "(LRoomHours;III[J)I"⟩
abbrev bL_strong : ByteArray := method_16_code
def yL_strong : MethodName := ⟨"RoomHoursLaw", "strong", "(LRoomHours;II[J)I"⟩
abbrev bJ_floorDiv : ByteArray := prog_9_method_49_code
def yJ_floorDiv : MethodName := ⟨"java/lang/Math", "floorDiv", "(JJ)J"⟩
abbrev bJ_floorMod : ByteArray := prog_9_method_50_code
def yJ_floorMod : MethodName := ⟨"java/lang/Math", "floorMod", "(II)I"⟩
abbrev bA_fill : ByteArray := prog_14_method_103_code
def yA_fill : MethodName := ⟨"java/util/Arrays", "fill", "([II)V"⟩
def kT : List Cond := lw_tbl.filter goodWord
theorem kT_in {w : Cond} (h : w ∈ lw_tbl) (g : goodWord w = true) : w ∈ kT := List.mem_filter.mpr ⟨h, g⟩
theorem kT_good : GoodIn kT kT := goodIn_sub (fun _ h => h) (List.all_eq_true.mpr (fun w hw => (List.mem_filter.mp hw).2))
theorem kt_0 : Cond.initialized "RoomHoursLaw" ∈ kT := kT_in (List.mem_append_right _ (List.mem_append_left _ (List.mem_of_getElem? (l := tables_1_1) (i := 0) rfl))) rfl
theorem kt_1 : Cond.initialized "RoomHours" ∈ kT := kT_in (List.mem_append_right _ (List.mem_append_left _ (List.mem_of_getElem? (l := tables_1_1) (i := 1) rfl))) rfl
theorem kt_2 : Cond.initialized "RoomHours$House" ∈ kT := kT_in (List.mem_append_right _ (List.mem_append_left _ (List.mem_of_getElem? (l := tables_1_1) (i := 2) rfl))) rfl
theorem kt_3 : Cond.initialized "java/util/Arrays" ∈ kT := kT_in (List.mem_append_right _ (List.mem_append_left _ (List.mem_of_getElem? (l := tables_1_1) (i := 3) rfl))) rfl
theorem kt_4 : Cond.initialized "RoomHours$Course" ∈ kT := kT_in (List.mem_append_right _ (List.mem_append_left _ (List.mem_of_getElem? (l := tables_1_1) (i := 4) rfl))) rfl
theorem kt_5 : Cond.initialized "RoomHoursModel" ∈ kT := kT_in (List.mem_append_right _ (List.mem_append_left _ (List.mem_of_getElem? (l := tables_1_1) (i := 5) rfl))) rfl
theorem kt_6 : Cond.initialized "java/lang/Throwable" ∈ kT := kT_in (List.mem_append_right _ (List.mem_append_left _ (List.mem_of_getElem? (l := tables_1_1) (i := 6) rfl))) rfl
theorem kt_7 : Cond.initialized "java/lang/Exception" ∈ kT := kT_in (List.mem_append_right _ (List.mem_append_left _ (List.mem_of_getElem? (l := tables_1_1) (i := 7) rfl))) rfl
theorem kt_8 : Cond.initialized "java/lang/RuntimeException" ∈ kT := kT_in (List.mem_append_right _ (List.mem_append_left _ (List.mem_of_getElem? (l := tables_1_1) (i := 8) rfl))) rfl
theorem kt_9 : Cond.initialized "java/lang/IllegalArgumentException" ∈ kT := kT_in (List.mem_append_right _ (List.mem_append_left _ (List.mem_of_getElem? (l := tables_1_1) (i := 9) rfl))) rfl
theorem kt_10 : Cond.initialized "java/lang/IllegalStateException" ∈ kT := kT_in (List.mem_append_right _ (List.mem_append_left _ (List.mem_of_getElem? (l := tables_1_1) (i := 10) rfl))) rfl
theorem kt_11 : Cond.initialized "java/lang/Math" ∈ kT := kT_in (List.mem_append_right _ (List.mem_append_left _ (List.mem_of_getElem? (l := tables_1_1) (i := 11) rfl))) rfl
theorem kt_12 : Cond.initialized "java/lang/System" ∈ kT := kT_in (List.mem_append_right _ (List.mem_append_left _ (List.mem_of_getElem? (l := tables_1_1) (i := 12) rfl))) rfl
theorem kt_13 : Cond.classLink "RoomHoursLaw" 8 "RoomHours" ∈ kT := kT_in (List.mem_append_right _ (List.mem_append_left _ (List.mem_of_getElem? (l := tables_1_1) (i := 13) rfl))) rfl
theorem kt_14 : Cond.instantiable "RoomHours" 3 ∈ kT := kT_in (List.mem_append_right _ (List.mem_append_left _ (List.mem_of_getElem? (l := tables_1_1) (i := 14) rfl))) rfl
theorem kt_15 : Cond.methodLink "RoomHoursLaw" 62 yR_init ∈ kT := kT_in (List.mem_append_right _ (List.mem_append_left _ (List.mem_of_getElem? (l := tables_1_1) (i := 15) rfl))) rfl
theorem kt_16 : Cond.instanceMethod yR_init ∈ kT := kT_in (List.mem_append_right _ (List.mem_append_left _ (List.mem_of_getElem? (l := tables_1_1) (i := 16) rfl))) rfl
theorem kt_17 : Cond.code yR_init prog_1_method_1_code 1 (Option.none : Option Jvm.ClassFile.FieldType) ∈ kT := kT_in (List.mem_append_right _ (List.mem_append_left _ (List.mem_of_getElem? (l := tables_1_1) (i := 17) rfl))) rfl
theorem kt_18 : Cond.methodLink "RoomHours" 3 ⟨"java/lang/Object", "<init>", "()V"⟩ ∈ kT := kT_in (List.mem_append_right _ (List.mem_append_left _ (List.mem_of_getElem? (l := tables_1_1) (i := 18) rfl))) rfl
theorem kt_19 : Cond.instanceMethod ⟨"java/lang/Object", "<init>", "()V"⟩ ∈ kT := kT_in (List.mem_append_right _ (List.mem_append_left _ (List.mem_of_getElem? (l := tables_1_1) (i := 19) rfl))) rfl
theorem kt_20 : Cond.code ⟨"java/lang/Object", "<init>", "()V"⟩ object_method_1_code 1 (Option.none : Option Jvm.ClassFile.FieldType) ∈ kT := kT_in (List.mem_append_right _ (List.mem_append_left _ (List.mem_of_getElem? (l := tables_1_1) (i := 20) rfl))) rfl
theorem kt_21 : Cond.classLink "RoomHours" 9 "RoomHours$House" ∈ kT := kT_in (List.mem_append_right _ (List.mem_append_left _ (List.mem_of_getElem? (l := tables_1_1) (i := 21) rfl))) rfl
theorem kt_22 : Cond.instantiable "RoomHours$House" 18 ∈ kT := kT_in (List.mem_append_right _ (List.mem_append_left _ (List.mem_of_getElem? (l := tables_1_1) (i := 22) rfl))) rfl
theorem kt_23 : Cond.methodLink "RoomHours" 11 yH_init ∈ kT := kT_in (List.mem_append_right _ (List.mem_append_left _ (List.mem_of_getElem? (l := tables_1_1) (i := 23) rfl))) rfl
theorem kt_24 : Cond.instanceMethod yH_init ∈ kT := kT_in (List.mem_append_right _ (List.mem_append_left _ (List.mem_of_getElem? (l := tables_1_1) (i := 24) rfl))) rfl
theorem kt_25 : Cond.code yH_init prog_3_method_1_code 1 (Option.none : Option Jvm.ClassFile.FieldType) ∈ kT := kT_in (List.mem_append_right _ (List.mem_append_left _ (List.mem_of_getElem? (l := tables_1_1) (i := 25) rfl))) rfl
theorem kt_26 : Cond.methodLink "RoomHours$House" 3 ⟨"java/lang/Object", "<init>", "()V"⟩ ∈ kT := kT_in (List.mem_append_right _ (List.mem_append_left _ (List.mem_of_getElem? (l := tables_1_1) (i := 26) rfl))) rfl
theorem kt_27 : Cond.classLink "RoomHours$House" 18 "[[I" ∈ kT := kT_in (List.mem_append_right _ (List.mem_append_left _ (List.mem_of_getElem? (l := tables_1_1) (i := 27) rfl))) rfl
theorem kt_29 : Cond.constant "RoomHours$House" 53 (-1000000) ∈ kT := kT_in (List.mem_append_right _ (List.mem_append_left _ (List.mem_of_getElem? (l := tables_1_1) (i := 29) rfl))) rfl
theorem kt_30 : Cond.methodLink "RoomHours$House" 54 yA_fill ∈ kT := kT_in (List.mem_append_right _ (List.mem_append_left _ (List.mem_of_getElem? (l := tables_1_1) (i := 30) rfl))) rfl
theorem kt_31 : Cond.static yA_fill ∈ kT := kT_in (List.mem_append_right _ (List.mem_append_left _ (List.mem_of_getElem? (l := tables_1_1) (i := 31) rfl))) rfl
theorem kt_32 : Cond.code yA_fill prog_14_method_103_code 4 (Option.none : Option Jvm.ClassFile.FieldType) ∈ kT := kT_in (List.mem_append_right _ (List.mem_append_left _ (List.mem_of_getElem? (l := tables_1_1) (i := 32) rfl))) rfl
theorem kt_33 : Cond.fieldLink "RoomHours$House" 60 "RoomHours$House" "rooms" "I" ∈ kT := kT_in (List.mem_append_right _ (List.mem_append_left _ (List.mem_of_getElem? (l := tables_1_1) (i := 33) rfl))) rfl
theorem kt_34 : Cond.fieldLink "RoomHours" 43 "RoomHours$House" "rooms" "I" ∈ kT := kT_in (List.mem_append_right _ (List.mem_append_left _ (List.mem_of_getElem? (l := tables_1_1) (i := 34) rfl))) rfl
theorem kt_35 : Cond.fieldLink "RoomHours$Course" 79 "RoomHours$House" "rooms" "I" ∈ kT := kT_in (List.mem_append_right _ (List.mem_append_left _ (List.mem_of_getElem? (l := tables_1_1) (i := 35) rfl))) rfl
theorem kt_36 : Cond.fieldLink "RoomHours$House" 9 "RoomHours$House" "stores" "[I" ∈ kT := kT_in (List.mem_append_right _ (List.mem_append_left _ (List.mem_of_getElem? (l := tables_1_1) (i := 36) rfl))) rfl
theorem kt_37 : Cond.fieldLink "RoomHours$Course" 68 "RoomHours$House" "stores" "[I" ∈ kT := kT_in (List.mem_append_right _ (List.mem_append_left _ (List.mem_of_getElem? (l := tables_1_1) (i := 37) rfl))) rfl
theorem kt_38 : Cond.fieldLink "RoomHours$House" 15 "RoomHours$House" "leadsAt" "[I" ∈ kT := kT_in (List.mem_append_right _ (List.mem_append_left _ (List.mem_of_getElem? (l := tables_1_1) (i := 38) rfl))) rfl
theorem kt_39 : Cond.fieldLink "RoomHours$House" 20 "RoomHours$House" "mosts" "[[I" ∈ kT := kT_in (List.mem_append_right _ (List.mem_append_left _ (List.mem_of_getElem? (l := tables_1_1) (i := 39) rfl))) rfl
theorem kt_40 : Cond.fieldLink "RoomHours" 141 "RoomHours$House" "mosts" "[[I" ∈ kT := kT_in (List.mem_append_right _ (List.mem_append_left _ (List.mem_of_getElem? (l := tables_1_1) (i := 40) rfl))) rfl
theorem kt_41 : Cond.fieldLink "RoomHours$Course" 194 "RoomHours$House" "mosts" "[[I" ∈ kT := kT_in (List.mem_append_right _ (List.mem_append_left _ (List.mem_of_getElem? (l := tables_1_1) (i := 41) rfl))) rfl
theorem kt_42 : Cond.fieldLink "RoomHours$House" 23 "RoomHours$House" "plans" "[[I" ∈ kT := kT_in (List.mem_append_right _ (List.mem_append_left _ (List.mem_of_getElem? (l := tables_1_1) (i := 42) rfl))) rfl
theorem kt_43 : Cond.fieldLink "RoomHours" 135 "RoomHours$House" "plans" "[[I" ∈ kT := kT_in (List.mem_append_right _ (List.mem_append_left _ (List.mem_of_getElem? (l := tables_1_1) (i := 43) rfl))) rfl
theorem kt_44 : Cond.fieldLink "RoomHours$Course" 128 "RoomHours$House" "plans" "[[I" ∈ kT := kT_in (List.mem_append_right _ (List.mem_append_left _ (List.mem_of_getElem? (l := tables_1_1) (i := 44) rfl))) rfl
theorem kt_45 : Cond.fieldLink "RoomHours" 67 "RoomHours$House" "walls" "I" ∈ kT := kT_in (List.mem_append_right _ (List.mem_append_left _ (List.mem_of_getElem? (l := tables_1_1) (i := 45) rfl))) rfl
theorem kt_46 : Cond.fieldLink "RoomHours$House" 68 "RoomHours$House" "walls" "I" ∈ kT := kT_in (List.mem_append_right _ (List.mem_append_left _ (List.mem_of_getElem? (l := tables_1_1) (i := 46) rfl))) rfl
theorem kt_47 : Cond.fieldLink "RoomHours$Course" 136 "RoomHours$House" "walls" "I" ∈ kT := kT_in (List.mem_append_right _ (List.mem_append_left _ (List.mem_of_getElem? (l := tables_1_1) (i := 47) rfl))) rfl
theorem kt_48 : Cond.fieldLink "RoomHours$House" 26 "RoomHours$House" "wallFrom" "[I" ∈ kT := kT_in (List.mem_append_right _ (List.mem_append_left _ (List.mem_of_getElem? (l := tables_1_1) (i := 48) rfl))) rfl
theorem kt_49 : Cond.fieldLink "RoomHours" 86 "RoomHours$House" "wallFrom" "[I" ∈ kT := kT_in (List.mem_append_right _ (List.mem_append_left _ (List.mem_of_getElem? (l := tables_1_1) (i := 49) rfl))) rfl
theorem kt_50 : Cond.fieldLink "RoomHours$Course" 139 "RoomHours$House" "wallFrom" "[I" ∈ kT := kT_in (List.mem_append_right _ (List.mem_append_left _ (List.mem_of_getElem? (l := tables_1_1) (i := 50) rfl))) rfl
theorem kt_51 : Cond.fieldLink "RoomHours$House" 29 "RoomHours$House" "wallTo" "[I" ∈ kT := kT_in (List.mem_append_right _ (List.mem_append_left _ (List.mem_of_getElem? (l := tables_1_1) (i := 51) rfl))) rfl
theorem kt_52 : Cond.fieldLink "RoomHours" 89 "RoomHours$House" "wallTo" "[I" ∈ kT := kT_in (List.mem_append_right _ (List.mem_append_left _ (List.mem_of_getElem? (l := tables_1_1) (i := 52) rfl))) rfl
theorem kt_53 : Cond.fieldLink "RoomHours$Course" 142 "RoomHours$House" "wallTo" "[I" ∈ kT := kT_in (List.mem_append_right _ (List.mem_append_left _ (List.mem_of_getElem? (l := tables_1_1) (i := 53) rfl))) rfl
theorem kt_54 : Cond.fieldLink "RoomHours$House" 32 "RoomHours$House" "wallLeads" "[I" ∈ kT := kT_in (List.mem_append_right _ (List.mem_append_left _ (List.mem_of_getElem? (l := tables_1_1) (i := 54) rfl))) rfl
theorem kt_55 : Cond.fieldLink "RoomHours" 82 "RoomHours$House" "wallLeads" "[I" ∈ kT := kT_in (List.mem_append_right _ (List.mem_append_left _ (List.mem_of_getElem? (l := tables_1_1) (i := 55) rfl))) rfl
theorem kt_56 : Cond.fieldLink "RoomHours$Course" 148 "RoomHours$House" "wallLeads" "[I" ∈ kT := kT_in (List.mem_append_right _ (List.mem_append_left _ (List.mem_of_getElem? (l := tables_1_1) (i := 56) rfl))) rfl
theorem kt_57 : Cond.fieldLink "RoomHours" 105 "RoomHours$House" "windows" "I" ∈ kT := kT_in (List.mem_append_right _ (List.mem_append_left _ (List.mem_of_getElem? (l := tables_1_1) (i := 57) rfl))) rfl
theorem kt_58 : Cond.fieldLink "RoomHours$House" 75 "RoomHours$House" "windows" "I" ∈ kT := kT_in (List.mem_append_right _ (List.mem_append_left _ (List.mem_of_getElem? (l := tables_1_1) (i := 58) rfl))) rfl
theorem kt_59 : Cond.fieldLink "RoomHours$Course" 156 "RoomHours$House" "windows" "I" ∈ kT := kT_in (List.mem_append_right _ (List.mem_append_left _ (List.mem_of_getElem? (l := tables_1_1) (i := 59) rfl))) rfl
theorem kt_60 : Cond.fieldLink "RoomHours$House" 35 "RoomHours$House" "windowRoom" "[I" ∈ kT := kT_in (List.mem_append_right _ (List.mem_append_left _ (List.mem_of_getElem? (l := tables_1_1) (i := 60) rfl))) rfl
theorem kt_61 : Cond.fieldLink "RoomHours$Course" 159 "RoomHours$House" "windowRoom" "[I" ∈ kT := kT_in (List.mem_append_right _ (List.mem_append_left _ (List.mem_of_getElem? (l := tables_1_1) (i := 61) rfl))) rfl
theorem kt_62 : Cond.fieldLink "RoomHours$House" 38 "RoomHours$House" "windowSide" "[I" ∈ kT := kT_in (List.mem_append_right _ (List.mem_append_left _ (List.mem_of_getElem? (l := tables_1_1) (i := 62) rfl))) rfl
theorem kt_63 : Cond.fieldLink "RoomHours$Course" 168 "RoomHours$House" "windowSide" "[I" ∈ kT := kT_in (List.mem_append_right _ (List.mem_append_left _ (List.mem_of_getElem? (l := tables_1_1) (i := 63) rfl))) rfl
theorem kt_64 : Cond.fieldLink "RoomHours$House" 41 "RoomHours$House" "windowArea" "[I" ∈ kT := kT_in (List.mem_append_right _ (List.mem_append_left _ (List.mem_of_getElem? (l := tables_1_1) (i := 64) rfl))) rfl
theorem kt_65 : Cond.fieldLink "RoomHours$Course" 162 "RoomHours$House" "windowArea" "[I" ∈ kT := kT_in (List.mem_append_right _ (List.mem_append_left _ (List.mem_of_getElem? (l := tables_1_1) (i := 65) rfl))) rfl
theorem kt_66 : Cond.fieldLink "RoomHours$House" 44 "RoomHours$House" "windowLimit" "[I" ∈ kT := kT_in (List.mem_append_right _ (List.mem_append_left _ (List.mem_of_getElem? (l := tables_1_1) (i := 66) rfl))) rfl
theorem kt_67 : Cond.fieldLink "RoomHours$Course" 171 "RoomHours$House" "windowLimit" "[I" ∈ kT := kT_in (List.mem_append_right _ (List.mem_append_left _ (List.mem_of_getElem? (l := tables_1_1) (i := 67) rfl))) rfl
theorem kt_68 : Cond.fieldLink "RoomHours$House" 47 "RoomHours$House" "outsides" "[I" ∈ kT := kT_in (List.mem_append_right _ (List.mem_append_left _ (List.mem_of_getElem? (l := tables_1_1) (i := 68) rfl))) rfl
theorem kt_69 : Cond.fieldLink "RoomHours" 119 "RoomHours$House" "outsides" "[I" ∈ kT := kT_in (List.mem_append_right _ (List.mem_append_left _ (List.mem_of_getElem? (l := tables_1_1) (i := 69) rfl))) rfl
theorem kt_70 : Cond.fieldLink "RoomHours$Course" 145 "RoomHours$House" "outsides" "[I" ∈ kT := kT_in (List.mem_append_right _ (List.mem_append_left _ (List.mem_of_getElem? (l := tables_1_1) (i := 70) rfl))) rfl
theorem kt_71 : Cond.fieldLink "RoomHours$House" 50 "RoomHours$House" "suns" "[[I" ∈ kT := kT_in (List.mem_append_right _ (List.mem_append_left _ (List.mem_of_getElem? (l := tables_1_1) (i := 71) rfl))) rfl
theorem kt_72 : Cond.fieldLink "RoomHours" 124 "RoomHours$House" "suns" "[[I" ∈ kT := kT_in (List.mem_append_right _ (List.mem_append_left _ (List.mem_of_getElem? (l := tables_1_1) (i := 72) rfl))) rfl
theorem kt_73 : Cond.fieldLink "RoomHours$Course" 165 "RoomHours$House" "suns" "[[I" ∈ kT := kT_in (List.mem_append_right _ (List.mem_append_left _ (List.mem_of_getElem? (l := tables_1_1) (i := 73) rfl))) rfl
theorem kt_74 : Cond.fieldLink "RoomHours$Course" 105 "RoomHours$House" "low" "I" ∈ kT := kT_in (List.mem_append_right _ (List.mem_append_left _ (List.mem_of_getElem? (l := tables_1_1) (i := 74) rfl))) rfl
theorem kt_75 : Cond.fieldLink "RoomHours" 146 "RoomHours$House" "low" "I" ∈ kT := kT_in (List.mem_append_right _ (List.mem_append_left _ (List.mem_of_getElem? (l := tables_1_1) (i := 75) rfl))) rfl
theorem kt_76 : Cond.fieldLink "RoomHours" 149 "RoomHours$House" "high" "I" ∈ kT := kT_in (List.mem_append_right _ (List.mem_append_left _ (List.mem_of_getElem? (l := tables_1_1) (i := 76) rfl))) rfl
theorem kt_77 : Cond.fieldLink "RoomHours$Course" 197 "RoomHours$House" "high" "I" ∈ kT := kT_in (List.mem_append_right _ (List.mem_append_left _ (List.mem_of_getElem? (l := tables_1_1) (i := 77) rfl))) rfl
theorem kt_115 : Cond.arrayClass Jvm.ClassFile.FieldType.int ∈ kT := kT_in (List.mem_append_right _ (List.mem_append_left _ (List.mem_of_getElem? (l := tables_1_1) (i := 115) rfl))) rfl
theorem kt_116 : Cond.classLink "RoomHours" 16 "RoomHours$Course" ∈ kT := kT_in (List.mem_append_right _ (List.mem_append_left _ (List.mem_of_getElem? (l := tables_1_1) (i := 116) rfl))) rfl
theorem kt_117 : Cond.instantiable "RoomHours$Course" 18 ∈ kT := kT_in (List.mem_append_right _ (List.mem_append_left _ (List.mem_of_getElem? (l := tables_1_1) (i := 117) rfl))) rfl
theorem kt_118 : Cond.methodLink "RoomHours" 18 yC_init ∈ kT := kT_in (List.mem_append_right _ (List.mem_append_left _ (List.mem_of_getElem? (l := tables_1_1) (i := 118) rfl))) rfl
theorem kt_119 : Cond.instanceMethod yC_init ∈ kT := kT_in (List.mem_append_right _ (List.mem_append_left _ (List.mem_of_getElem? (l := tables_1_1) (i := 119) rfl))) rfl
theorem kt_120 : Cond.code yC_init prog_2_method_1_code 2 (Option.none : Option Jvm.ClassFile.FieldType) ∈ kT := kT_in (List.mem_append_right _ (List.mem_append_left _ (List.mem_of_getElem? (l := tables_1_1) (i := 120) rfl))) rfl
theorem kt_121 : Cond.methodLink "RoomHours$Course" 3 ⟨"java/lang/Object", "<init>", "()V"⟩ ∈ kT := kT_in (List.mem_append_right _ (List.mem_append_left _ (List.mem_of_getElem? (l := tables_1_1) (i := 121) rfl))) rfl
theorem kt_122 : Cond.fieldLink "RoomHours$Course" 38 "RoomHours$Course" "house" "LRoomHours$House;" ∈ kT := kT_in (List.mem_append_right _ (List.mem_append_left _ (List.mem_of_getElem? (l := tables_1_1) (i := 122) rfl))) rfl
theorem kt_123 : Cond.fieldLink "RoomHours$Course" 46 "RoomHours$Course" "over" "I" ∈ kT := kT_in (List.mem_append_right _ (List.mem_append_left _ (List.mem_of_getElem? (l := tables_1_1) (i := 123) rfl))) rfl
theorem kt_124 : Cond.fieldLink "RoomHours" 154 "RoomHours$Course" "over" "I" ∈ kT := kT_in (List.mem_append_right _ (List.mem_append_left _ (List.mem_of_getElem? (l := tables_1_1) (i := 124) rfl))) rfl
theorem kt_125 : Cond.fieldLink "RoomHours$Course" 9 "RoomHours$Course" "heat" "[J" ∈ kT := kT_in (List.mem_append_right _ (List.mem_append_left _ (List.mem_of_getElem? (l := tables_1_1) (i := 125) rfl))) rfl
theorem kt_126 : Cond.fieldLink "RoomHours" 169 "RoomHours$Course" "heat" "[J" ∈ kT := kT_in (List.mem_append_right _ (List.mem_append_left _ (List.mem_of_getElem? (l := tables_1_1) (i := 126) rfl))) rfl
theorem kt_127 : Cond.fieldLink "RoomHours$Course" 15 "RoomHours$Course" "warmth" "[J" ∈ kT := kT_in (List.mem_append_right _ (List.mem_append_left _ (List.mem_of_getElem? (l := tables_1_1) (i := 127) rfl))) rfl
theorem kt_128 : Cond.fieldLink "RoomHours$Course" 18 "RoomHours$Course" "given" "[J" ∈ kT := kT_in (List.mem_append_right _ (List.mem_append_left _ (List.mem_of_getElem? (l := tables_1_1) (i := 128) rfl))) rfl
theorem kt_129 : Cond.fieldLink "RoomHours" 176 "RoomHours$Course" "given" "[J" ∈ kT := kT_in (List.mem_append_right _ (List.mem_append_left _ (List.mem_of_getElem? (l := tables_1_1) (i := 129) rfl))) rfl
theorem kt_130 : Cond.fieldLink "RoomHours$Course" 21 "RoomHours$Course" "taken" "[J" ∈ kT := kT_in (List.mem_append_right _ (List.mem_append_left _ (List.mem_of_getElem? (l := tables_1_1) (i := 130) rfl))) rfl
theorem kt_131 : Cond.fieldLink "RoomHours" 179 "RoomHours$Course" "taken" "[J" ∈ kT := kT_in (List.mem_append_right _ (List.mem_append_left _ (List.mem_of_getElem? (l := tables_1_1) (i := 131) rfl))) rfl
theorem kt_132 : Cond.fieldLink "RoomHours$Course" 24 "RoomHours$Course" "greatest" "[J" ∈ kT := kT_in (List.mem_append_right _ (List.mem_append_left _ (List.mem_of_getElem? (l := tables_1_1) (i := 132) rfl))) rfl
theorem kt_133 : Cond.fieldLink "RoomHours" 182 "RoomHours$Course" "greatest" "[J" ∈ kT := kT_in (List.mem_append_right _ (List.mem_append_left _ (List.mem_of_getElem? (l := tables_1_1) (i := 133) rfl))) rfl
theorem kt_134 : Cond.fieldLink "RoomHours$Course" 27 "RoomHours$Course" "uneasy" "[I" ∈ kT := kT_in (List.mem_append_right _ (List.mem_append_left _ (List.mem_of_getElem? (l := tables_1_1) (i := 134) rfl))) rfl
theorem kt_135 : Cond.fieldLink "RoomHours" 173 "RoomHours$Course" "uneasy" "[I" ∈ kT := kT_in (List.mem_append_right _ (List.mem_append_left _ (List.mem_of_getElem? (l := tables_1_1) (i := 135) rfl))) rfl
theorem kt_136 : Cond.fieldLink "RoomHours$Course" 42 "RoomHours$Course" "begun" "J" ∈ kT := kT_in (List.mem_append_right _ (List.mem_append_left _ (List.mem_of_getElem? (l := tables_1_1) (i := 136) rfl))) rfl
theorem kt_137 : Cond.fieldLink "RoomHours" 191 "RoomHours$Course" "begun" "J" ∈ kT := kT_in (List.mem_append_right _ (List.mem_append_left _ (List.mem_of_getElem? (l := tables_1_1) (i := 137) rfl))) rfl
theorem kt_138 : Cond.fieldLink "RoomHours" 195 "RoomHours$Course" "fromSun" "J" ∈ kT := kT_in (List.mem_append_right _ (List.mem_append_left _ (List.mem_of_getElem? (l := tables_1_1) (i := 138) rfl))) rfl
theorem kt_139 : Cond.fieldLink "RoomHours$Course" 174 "RoomHours$Course" "fromSun" "J" ∈ kT := kT_in (List.mem_append_right _ (List.mem_append_left _ (List.mem_of_getElem? (l := tables_1_1) (i := 139) rfl))) rfl
theorem kt_140 : Cond.fieldLink "RoomHours" 198 "RoomHours$Course" "fromPersons" "J" ∈ kT := kT_in (List.mem_append_right _ (List.mem_append_left _ (List.mem_of_getElem? (l := tables_1_1) (i := 140) rfl))) rfl
theorem kt_141 : Cond.fieldLink "RoomHours$Course" 177 "RoomHours$Course" "fromPersons" "J" ∈ kT := kT_in (List.mem_append_right _ (List.mem_append_left _ (List.mem_of_getElem? (l := tables_1_1) (i := 141) rfl))) rfl
theorem kt_142 : Cond.fieldLink "RoomHours" 201 "RoomHours$Course" "goneOut" "J" ∈ kT := kT_in (List.mem_append_right _ (List.mem_append_left _ (List.mem_of_getElem? (l := tables_1_1) (i := 142) rfl))) rfl
theorem kt_143 : Cond.fieldLink "RoomHours$Course" 153 "RoomHours$Course" "goneOut" "J" ∈ kT := kT_in (List.mem_append_right _ (List.mem_append_left _ (List.mem_of_getElem? (l := tables_1_1) (i := 143) rfl))) rfl
theorem kt_144 : Cond.fieldLink "RoomHours$Course" 31 "RoomHours$Course" "setRoom" "I" ∈ kT := kT_in (List.mem_append_right _ (List.mem_append_left _ (List.mem_of_getElem? (l := tables_1_1) (i := 144) rfl))) rfl
theorem kt_145 : Cond.fieldLink "RoomHours$Course" 59 "RoomHours$Course" "setTried" "I" ∈ kT := kT_in (List.mem_append_right _ (List.mem_append_left _ (List.mem_of_getElem? (l := tables_1_1) (i := 145) rfl))) rfl
theorem kt_146 : Cond.fieldLink "RoomHours$Course" 62 "RoomHours$Course" "setFrom" "I" ∈ kT := kT_in (List.mem_append_right _ (List.mem_append_left _ (List.mem_of_getElem? (l := tables_1_1) (i := 146) rfl))) rfl
theorem kt_147 : Cond.fieldLink "RoomHours$Course" 35 "RoomHours$Course" "mostRoom" "I" ∈ kT := kT_in (List.mem_append_right _ (List.mem_append_left _ (List.mem_of_getElem? (l := tables_1_1) (i := 147) rfl))) rfl
theorem kt_148 : Cond.fieldLink "RoomHours$Course" 65 "RoomHours$Course" "mostTried" "I" ∈ kT := kT_in (List.mem_append_right _ (List.mem_append_left _ (List.mem_of_getElem? (l := tables_1_1) (i := 148) rfl))) rfl
theorem kt_149 : Cond.fieldLink "RoomHours$Course" 55 "RoomHours$Course" "fellShort" "Z" ∈ kT := kT_in (List.mem_append_right _ (List.mem_append_left _ (List.mem_of_getElem? (l := tables_1_1) (i := 149) rfl))) rfl
theorem kt_150 : Cond.fieldLink "RoomHours" 226 "RoomHours$Course" "fellShort" "Z" ∈ kT := kT_in (List.mem_append_right _ (List.mem_append_left _ (List.mem_of_getElem? (l := tables_1_1) (i := 150) rfl))) rfl
theorem kt_188 : Cond.arrayClass Jvm.ClassFile.FieldType.long ∈ kT := kT_in (List.mem_append_right _ (List.mem_append_left _ (List.mem_of_getElem? (l := tables_1_1) (i := 188) rfl))) rfl
theorem kt_189 : Cond.fieldLink "RoomHours" 12 "RoomHours" "house" "LRoomHours$House;" ∈ kT := kT_in (List.mem_append_right _ (List.mem_append_left _ (List.mem_of_getElem? (l := tables_1_1) (i := 189) rfl))) rfl
theorem kt_190 : Cond.fieldLink "RoomHours" 21 "RoomHours" "now" "LRoomHours$Course;" ∈ kT := kT_in (List.mem_append_right _ (List.mem_append_left _ (List.mem_of_getElem? (l := tables_1_1) (i := 190) rfl))) rfl
theorem kt_191 : Cond.fieldLink "RoomHours" 25 "RoomHours" "trial" "LRoomHours$Course;" ∈ kT := kT_in (List.mem_append_right _ (List.mem_append_left _ (List.mem_of_getElem? (l := tables_1_1) (i := 191) rfl))) rfl
theorem kt_199 : Cond.methodLink "RoomHoursLaw" 66 yL_room ∈ kT := kT_in (List.mem_append_right _ (List.mem_append_left _ (List.mem_of_getElem? (l := tables_1_1) (i := 199) rfl))) rfl
theorem kt_200 : Cond.static yL_room ∈ kT := kT_in (List.mem_append_right _ (List.mem_append_left _ (List.mem_of_getElem? (l := tables_1_1) (i := 200) rfl))) rfl
theorem kt_201 : Cond.codeWith yL_room method_3_code 5 (Option.some Jvm.ClassFile.FieldType.int) [(0, 10, 13, 13), (0, 10, 17, 15)] ∈ kT := kT_in (List.mem_append_right _ (List.mem_append_left _ (List.mem_of_getElem? (l := tables_1_1) (i := 201) rfl))) rfl
theorem kt_202 : Cond.classLink "RoomHoursLaw" 13 "java/lang/IllegalArgumentException" ∈ kT := kT_in (List.mem_append_right _ (List.mem_append_left _ (List.mem_of_getElem? (l := tables_1_1) (i := 202) rfl))) rfl
theorem kt_203 : Cond.classLink "RoomHoursLaw" 15 "java/lang/IllegalStateException" ∈ kT := kT_in (List.mem_append_right _ (List.mem_append_left _ (List.mem_of_getElem? (l := tables_1_1) (i := 203) rfl))) rfl
theorem kt_204 : Cond.methodLink "RoomHoursLaw" 7 yR_room ∈ kT := kT_in (List.mem_append_right _ (List.mem_append_left _ (List.mem_of_getElem? (l := tables_1_1) (i := 204) rfl))) rfl
theorem kt_205 : Cond.instanceMethod yR_room ∈ kT := kT_in (List.mem_append_right _ (List.mem_append_left _ (List.mem_of_getElem? (l := tables_1_1) (i := 205) rfl))) rfl
theorem kt_206 : Cond.selects "RoomHours" yR_room yR_room ∈ kT := kT_in (List.mem_append_right _ (List.mem_append_left _ (List.mem_of_getElem? (l := tables_1_1) (i := 206) rfl))) rfl
theorem kt_207 : Cond.code yR_room prog_1_method_2_code 4 (Option.some Jvm.ClassFile.FieldType.int) ∈ kT := kT_in (List.mem_append_right _ (List.mem_append_left _ (List.mem_of_getElem? (l := tables_1_1) (i := 207) rfl))) rfl
theorem kt_208 : Cond.methodLink "RoomHours" 28 yR_isWithin ∈ kT := kT_in (List.mem_append_right _ (List.mem_append_left _ (List.mem_of_getElem? (l := tables_1_1) (i := 208) rfl))) rfl
theorem kt_209 : Cond.static yR_isWithin ∈ kT := kT_in (List.mem_append_right _ (List.mem_append_left _ (List.mem_of_getElem? (l := tables_1_1) (i := 209) rfl))) rfl
theorem kt_210 : Cond.code yR_isWithin prog_1_method_16_code 3 (Option.some Jvm.ClassFile.FieldType.boolean) ∈ kT := kT_in (List.mem_append_right _ (List.mem_append_left _ (List.mem_of_getElem? (l := tables_1_1) (i := 210) rfl))) rfl
theorem kt_211 : Cond.methodLink "RoomHours" 32 yR_isWarmth ∈ kT := kT_in (List.mem_append_right _ (List.mem_append_left _ (List.mem_of_getElem? (l := tables_1_1) (i := 211) rfl))) rfl
theorem kt_212 : Cond.static yR_isWarmth ∈ kT := kT_in (List.mem_append_right _ (List.mem_append_left _ (List.mem_of_getElem? (l := tables_1_1) (i := 212) rfl))) rfl
theorem kt_213 : Cond.code yR_isWarmth prog_1_method_17_code 1 (Option.some Jvm.ClassFile.FieldType.boolean) ∈ kT := kT_in (List.mem_append_right _ (List.mem_append_left _ (List.mem_of_getElem? (l := tables_1_1) (i := 213) rfl))) rfl
theorem kt_214 : Cond.classLink "RoomHours" 36 "java/lang/IllegalArgumentException" ∈ kT := kT_in (List.mem_append_right _ (List.mem_append_left _ (List.mem_of_getElem? (l := tables_1_1) (i := 214) rfl))) rfl
theorem kt_215 : Cond.instantiable "java/lang/IllegalArgumentException" 6 ∈ kT := kT_in (List.mem_append_right _ (List.mem_append_left _ (List.mem_of_getElem? (l := tables_1_1) (i := 215) rfl))) rfl
theorem kt_223 : Cond.selects "java/lang/IllegalArgumentException" ⟨"java/lang/Throwable", "fillInStackTrace", "(I)Ljava/lang/Throwable;"⟩ ⟨"java/lang/Throwable", "fillInStackTrace", "(I)Ljava/lang/Throwable;"⟩ ∈ kT := kT_in (List.mem_append_right _ (List.mem_append_left _ (List.mem_of_getElem? (l := tables_1_1) (i := 223) rfl))) rfl
theorem kt_224 : Cond.selects "java/lang/IllegalArgumentException" ⟨"java/lang/Throwable", "fillInStackTrace", "()Ljava/lang/Throwable;"⟩ ⟨"java/lang/Throwable", "fillInStackTrace", "()Ljava/lang/Throwable;"⟩ ∈ kT := kT_in (List.mem_append_right _ (List.mem_append_left _ (List.mem_of_getElem? (l := tables_1_1) (i := 224) rfl))) rfl
theorem kt_235 : Cond.fieldLink "java/lang/Throwable" 198 "java/lang/Throwable" "backtrace" "Ljava/lang/Object;" ∈ kT := kT_in (List.mem_append_right _ (List.mem_append_left _ (List.mem_of_getElem? (l := tables_1_1) (i := 235) rfl))) rfl
theorem kt_237 : Cond.instanceMethod ⟨"java/lang/Throwable", "<init>", "()V"⟩ ∈ kT := kT_in (List.mem_append_right _ (List.mem_append_left _ (List.mem_of_getElem? (l := tables_1_1) (i := 237) rfl))) rfl
theorem kt_238 : Cond.code ⟨"java/lang/Throwable", "<init>", "()V"⟩ prog_13_method_1_code 1 (Option.none : Option Jvm.ClassFile.FieldType) ∈ kT := kT_in (List.mem_append_right _ (List.mem_append_left _ (List.mem_of_getElem? (l := tables_1_1) (i := 238) rfl))) rfl
theorem kt_239 : Cond.methodLink "java/lang/Throwable" 1 ⟨"java/lang/Object", "<init>", "()V"⟩ ∈ kT := kT_in (List.mem_append_right _ (List.mem_append_left _ (List.mem_of_getElem? (l := tables_1_1) (i := 239) rfl))) rfl
theorem kt_240 : Cond.fieldLink "java/lang/Throwable" 13 "java/lang/Throwable" "UNASSIGNED_STACK" "[Ljava/lang/StackTraceElement;" ∈ kT := kT_in (List.mem_append_right _ (List.mem_append_right _ (List.mem_append_left _ (List.mem_of_getElem? (l := tables_1_2) (i := 0) rfl)))) rfl
theorem kt_242 : Cond.fieldLink "java/lang/Throwable" 20 "java/lang/Throwable" "SUPPRESSED_SENTINEL" "Ljava/util/List;" ∈ kT := kT_in (List.mem_append_right _ (List.mem_append_right _ (List.mem_append_left _ (List.mem_of_getElem? (l := tables_1_2) (i := 2) rfl)))) rfl
theorem kt_244 : Cond.methodLink "java/lang/Throwable" 27 ⟨"java/lang/Throwable", "fillInStackTrace", "()Ljava/lang/Throwable;"⟩ ∈ kT := kT_in (List.mem_append_right _ (List.mem_append_right _ (List.mem_append_left _ (List.mem_of_getElem? (l := tables_1_2) (i := 4) rfl)))) rfl
theorem kt_245 : Cond.instanceMethod ⟨"java/lang/Throwable", "fillInStackTrace", "()Ljava/lang/Throwable;"⟩ ∈ kT := kT_in (List.mem_append_right _ (List.mem_append_right _ (List.mem_append_left _ (List.mem_of_getElem? (l := tables_1_2) (i := 5) rfl)))) rfl
theorem kt_246 : Cond.sameMethod "java/lang/Throwable" "java/lang/Throwable" "fillInStackTrace" "()Ljava/lang/Throwable;" ∈ kT := kT_in (List.mem_append_right _ (List.mem_append_right _ (List.mem_append_left _ (List.mem_of_getElem? (l := tables_1_2) (i := 6) rfl)))) rfl
theorem kt_247 : Cond.selects "java/lang/IllegalStateException" ⟨"java/lang/Throwable", "fillInStackTrace", "()Ljava/lang/Throwable;"⟩ ⟨"java/lang/Throwable", "fillInStackTrace", "()Ljava/lang/Throwable;"⟩ ∈ kT := kT_in (List.mem_append_right _ (List.mem_append_right _ (List.mem_append_left _ (List.mem_of_getElem? (l := tables_1_2) (i := 7) rfl)))) rfl
theorem kt_249 : Cond.methodLink "java/lang/Throwable" 202 ⟨"java/lang/Throwable", "fillInStackTrace", "(I)Ljava/lang/Throwable;"⟩ ∈ kT := kT_in (List.mem_append_right _ (List.mem_append_right _ (List.mem_append_left _ (List.mem_of_getElem? (l := tables_1_2) (i := 9) rfl)))) rfl
theorem kt_251 : Cond.instanceMethod ⟨"java/lang/Throwable", "fillInStackTrace", "(I)Ljava/lang/Throwable;"⟩ ∈ kT := kT_in (List.mem_append_right _ (List.mem_append_right _ (List.mem_append_left _ (List.mem_of_getElem? (l := tables_1_2) (i := 11) rfl)))) rfl
theorem kt_252 : Cond.instantiable "java/lang/Throwable" 6 ∈ kT := kT_in (List.mem_append_right _ (List.mem_append_right _ (List.mem_append_left _ (List.mem_of_getElem? (l := tables_1_2) (i := 12) rfl)))) rfl
theorem kt_253 : Cond.native ⟨"java/lang/Throwable", "fillInStackTrace", "(I)Ljava/lang/Throwable;"⟩ ∈ kT := kT_in (List.mem_append_right _ (List.mem_append_right _ (List.mem_append_left _ (List.mem_of_getElem? (l := tables_1_2) (i := 13) rfl)))) rfl
theorem kt_255 : Cond.methodLink "RoomHours" 40 ⟨"java/lang/IllegalArgumentException", "<init>", "(Ljava/lang/String;)V"⟩ ∈ kT := kT_in (List.mem_append_right _ (List.mem_append_right _ (List.mem_append_left _ (List.mem_of_getElem? (l := tables_1_2) (i := 15) rfl)))) rfl
theorem kt_256 : Cond.instanceMethod ⟨"java/lang/IllegalArgumentException", "<init>", "(Ljava/lang/String;)V"⟩ ∈ kT := kT_in (List.mem_append_right _ (List.mem_append_right _ (List.mem_append_left _ (List.mem_of_getElem? (l := tables_1_2) (i := 16) rfl)))) rfl
theorem kt_257 : Cond.code ⟨"java/lang/IllegalArgumentException", "<init>", "(Ljava/lang/String;)V"⟩ prog_7_method_2_code 2 (Option.none : Option Jvm.ClassFile.FieldType) ∈ kT := kT_in (List.mem_append_right _ (List.mem_append_right _ (List.mem_append_left _ (List.mem_of_getElem? (l := tables_1_2) (i := 17) rfl)))) rfl
theorem kt_258 : Cond.methodLink "java/lang/IllegalArgumentException" 7 ⟨"java/lang/RuntimeException", "<init>", "(Ljava/lang/String;)V"⟩ ∈ kT := kT_in (List.mem_append_right _ (List.mem_append_right _ (List.mem_append_left _ (List.mem_of_getElem? (l := tables_1_2) (i := 18) rfl)))) rfl
theorem kt_259 : Cond.instanceMethod ⟨"java/lang/RuntimeException", "<init>", "(Ljava/lang/String;)V"⟩ ∈ kT := kT_in (List.mem_append_right _ (List.mem_append_right _ (List.mem_append_left _ (List.mem_of_getElem? (l := tables_1_2) (i := 19) rfl)))) rfl
theorem kt_260 : Cond.code ⟨"java/lang/RuntimeException", "<init>", "(Ljava/lang/String;)V"⟩ prog_10_method_2_code 2 (Option.none : Option Jvm.ClassFile.FieldType) ∈ kT := kT_in (List.mem_append_right _ (List.mem_append_right _ (List.mem_append_left _ (List.mem_of_getElem? (l := tables_1_2) (i := 20) rfl)))) rfl
theorem kt_261 : Cond.methodLink "java/lang/RuntimeException" 7 ⟨"java/lang/Exception", "<init>", "(Ljava/lang/String;)V"⟩ ∈ kT := kT_in (List.mem_append_right _ (List.mem_append_right _ (List.mem_append_left _ (List.mem_of_getElem? (l := tables_1_2) (i := 21) rfl)))) rfl
theorem kt_262 : Cond.instanceMethod ⟨"java/lang/Exception", "<init>", "(Ljava/lang/String;)V"⟩ ∈ kT := kT_in (List.mem_append_right _ (List.mem_append_right _ (List.mem_append_left _ (List.mem_of_getElem? (l := tables_1_2) (i := 22) rfl)))) rfl
theorem kt_263 : Cond.code ⟨"java/lang/Exception", "<init>", "(Ljava/lang/String;)V"⟩ prog_6_method_2_code 2 (Option.none : Option Jvm.ClassFile.FieldType) ∈ kT := kT_in (List.mem_append_right _ (List.mem_append_right _ (List.mem_append_left _ (List.mem_of_getElem? (l := tables_1_2) (i := 23) rfl)))) rfl
theorem kt_264 : Cond.methodLink "java/lang/Exception" 7 ⟨"java/lang/Throwable", "<init>", "(Ljava/lang/String;)V"⟩ ∈ kT := kT_in (List.mem_append_right _ (List.mem_append_right _ (List.mem_append_left _ (List.mem_of_getElem? (l := tables_1_2) (i := 24) rfl)))) rfl
theorem kt_265 : Cond.instanceMethod ⟨"java/lang/Throwable", "<init>", "(Ljava/lang/String;)V"⟩ ∈ kT := kT_in (List.mem_append_right _ (List.mem_append_right _ (List.mem_append_left _ (List.mem_of_getElem? (l := tables_1_2) (i := 25) rfl)))) rfl
theorem kt_266 : Cond.code ⟨"java/lang/Throwable", "<init>", "(Ljava/lang/String;)V"⟩ prog_13_method_2_code 2 (Option.none : Option Jvm.ClassFile.FieldType) ∈ kT := kT_in (List.mem_append_right _ (List.mem_append_right _ (List.mem_append_left _ (List.mem_of_getElem? (l := tables_1_2) (i := 26) rfl)))) rfl
theorem kt_267 : Cond.fieldLink "java/lang/Throwable" 198 "java/lang/Throwable" "backtrace" "Ljava/lang/Object;" ∈ kT := kT_in (List.mem_append_right _ (List.mem_append_right _ (List.mem_append_left _ (List.mem_of_getElem? (l := tables_1_2) (i := 27) rfl)))) rfl
theorem kt_268 : Cond.fieldLink "java/lang/Throwable" 31 "java/lang/Throwable" "detailMessage" "Ljava/lang/String;" ∈ kT := kT_in (List.mem_append_right _ (List.mem_append_right _ (List.mem_append_left _ (List.mem_of_getElem? (l := tables_1_2) (i := 28) rfl)))) rfl
theorem kt_269 : Cond.fieldLink "java/lang/Throwable" 7 "java/lang/Throwable" "cause" "Ljava/lang/Throwable;" ∈ kT := kT_in (List.mem_append_right _ (List.mem_append_right _ (List.mem_append_left _ (List.mem_of_getElem? (l := tables_1_2) (i := 29) rfl)))) rfl
theorem kt_270 : Cond.fieldLink "java/lang/Throwable" 17 "java/lang/Throwable" "stackTrace" "[Ljava/lang/StackTraceElement;" ∈ kT := kT_in (List.mem_append_right _ (List.mem_append_right _ (List.mem_append_left _ (List.mem_of_getElem? (l := tables_1_2) (i := 30) rfl)))) rfl
theorem kt_271 : Cond.fieldLink "java/lang/Throwable" 24 "java/lang/Throwable" "suppressedExceptions" "Ljava/util/List;" ∈ kT := kT_in (List.mem_append_right _ (List.mem_append_right _ (List.mem_append_left _ (List.mem_of_getElem? (l := tables_1_2) (i := 31) rfl)))) rfl
theorem kt_280 : Cond.arrayClass Jvm.ClassFile.FieldType.byte ∈ kT := kT_in (List.mem_append_right _ (List.mem_append_right _ (List.mem_append_left _ (List.mem_of_getElem? (l := tables_1_2) (i := 40) rfl)))) rfl
theorem kt_281 : Cond.classLink "RoomHours" 47 "java/lang/IllegalStateException" ∈ kT := kT_in (List.mem_append_right _ (List.mem_append_right _ (List.mem_append_left _ (List.mem_of_getElem? (l := tables_1_2) (i := 41) rfl)))) rfl
theorem kt_282 : Cond.instantiable "java/lang/IllegalStateException" 6 ∈ kT := kT_in (List.mem_append_right _ (List.mem_append_right _ (List.mem_append_left _ (List.mem_of_getElem? (l := tables_1_2) (i := 42) rfl)))) rfl
theorem kt_284 : Cond.selects "java/lang/IllegalStateException" ⟨"java/lang/Throwable", "fillInStackTrace", "(I)Ljava/lang/Throwable;"⟩ ⟨"java/lang/Throwable", "fillInStackTrace", "(I)Ljava/lang/Throwable;"⟩ ∈ kT := kT_in (List.mem_append_right _ (List.mem_append_right _ (List.mem_append_left _ (List.mem_of_getElem? (l := tables_1_2) (i := 44) rfl)))) rfl
theorem kt_291 : Cond.methodLink "RoomHours" 51 ⟨"java/lang/IllegalStateException", "<init>", "(Ljava/lang/String;)V"⟩ ∈ kT := kT_in (List.mem_append_right _ (List.mem_append_right _ (List.mem_append_left _ (List.mem_of_getElem? (l := tables_1_2) (i := 51) rfl)))) rfl
theorem kt_292 : Cond.instanceMethod ⟨"java/lang/IllegalStateException", "<init>", "(Ljava/lang/String;)V"⟩ ∈ kT := kT_in (List.mem_append_right _ (List.mem_append_right _ (List.mem_append_left _ (List.mem_of_getElem? (l := tables_1_2) (i := 52) rfl)))) rfl
theorem kt_293 : Cond.code ⟨"java/lang/IllegalStateException", "<init>", "(Ljava/lang/String;)V"⟩ prog_8_method_2_code 2 (Option.none : Option Jvm.ClassFile.FieldType) ∈ kT := kT_in (List.mem_append_right _ (List.mem_append_right _ (List.mem_append_left _ (List.mem_of_getElem? (l := tables_1_2) (i := 53) rfl)))) rfl
theorem kt_294 : Cond.methodLink "java/lang/IllegalStateException" 7 ⟨"java/lang/RuntimeException", "<init>", "(Ljava/lang/String;)V"⟩ ∈ kT := kT_in (List.mem_append_right _ (List.mem_append_right _ (List.mem_append_left _ (List.mem_of_getElem? (l := tables_1_2) (i := 54) rfl)))) rfl
theorem kt_297 : Cond.methodLink "RoomHours" 52 yH_addRoom ∈ kT := kT_in (List.mem_append_right _ (List.mem_append_right _ (List.mem_append_left _ (List.mem_of_getElem? (l := tables_1_2) (i := 57) rfl)))) rfl
theorem kt_298 : Cond.instanceMethod yH_addRoom ∈ kT := kT_in (List.mem_append_right _ (List.mem_append_right _ (List.mem_append_left _ (List.mem_of_getElem? (l := tables_1_2) (i := 58) rfl)))) rfl
theorem kt_299 : Cond.selects "RoomHours$House" yH_addRoom yH_addRoom ∈ kT := kT_in (List.mem_append_right _ (List.mem_append_right _ (List.mem_append_left _ (List.mem_of_getElem? (l := tables_1_2) (i := 59) rfl)))) rfl
theorem kt_300 : Cond.code yH_addRoom prog_3_method_4_code 3 (Option.some Jvm.ClassFile.FieldType.int) ∈ kT := kT_in (List.mem_append_right _ (List.mem_append_right _ (List.mem_append_left _ (List.mem_of_getElem? (l := tables_1_2) (i := 60) rfl)))) rfl
theorem kt_301 : Cond.methodLink "RoomHours" 56 yC_beginRoom ∈ kT := kT_in (List.mem_append_right _ (List.mem_append_right _ (List.mem_append_left _ (List.mem_of_getElem? (l := tables_1_2) (i := 61) rfl)))) rfl
theorem kt_302 : Cond.instanceMethod yC_beginRoom ∈ kT := kT_in (List.mem_append_right _ (List.mem_append_right _ (List.mem_append_left _ (List.mem_of_getElem? (l := tables_1_2) (i := 62) rfl)))) rfl
theorem kt_303 : Cond.selects "RoomHours$Course" yC_beginRoom yC_beginRoom ∈ kT := kT_in (List.mem_append_right _ (List.mem_append_right _ (List.mem_append_left _ (List.mem_of_getElem? (l := tables_1_2) (i := 63) rfl)))) rfl
theorem kt_304 : Cond.code yC_beginRoom prog_2_method_2_code 4 (Option.none : Option Jvm.ClassFile.FieldType) ∈ kT := kT_in (List.mem_append_right _ (List.mem_append_right _ (List.mem_append_left _ (List.mem_of_getElem? (l := tables_1_2) (i := 64) rfl)))) rfl
theorem kt_305 : Cond.methodLink "RoomHoursLaw" 76 yL_wall ∈ kT := kT_in (List.mem_append_right _ (List.mem_append_right _ (List.mem_append_left _ (List.mem_of_getElem? (l := tables_1_2) (i := 65) rfl)))) rfl
theorem kt_306 : Cond.static yL_wall ∈ kT := kT_in (List.mem_append_right _ (List.mem_append_right _ (List.mem_append_left _ (List.mem_of_getElem? (l := tables_1_2) (i := 66) rfl)))) rfl
theorem kt_307 : Cond.codeWith yL_wall method_4_code 6 (Option.some Jvm.ClassFile.FieldType.int) [(0, 12, 15, 13), (0, 12, 19, 15)] ∈ kT := kT_in (List.mem_append_right _ (List.mem_append_right _ (List.mem_append_left _ (List.mem_of_getElem? (l := tables_1_2) (i := 67) rfl)))) rfl
theorem kt_308 : Cond.methodLink "RoomHoursLaw" 17 yR_wall ∈ kT := kT_in (List.mem_append_right _ (List.mem_append_right _ (List.mem_append_left _ (List.mem_of_getElem? (l := tables_1_2) (i := 68) rfl)))) rfl
theorem kt_309 : Cond.instanceMethod yR_wall ∈ kT := kT_in (List.mem_append_right _ (List.mem_append_right _ (List.mem_append_left _ (List.mem_of_getElem? (l := tables_1_2) (i := 69) rfl)))) rfl
theorem kt_310 : Cond.selects "RoomHours" yR_wall yR_wall ∈ kT := kT_in (List.mem_append_right _ (List.mem_append_right _ (List.mem_append_left _ (List.mem_of_getElem? (l := tables_1_2) (i := 70) rfl)))) rfl
theorem kt_311 : Cond.code yR_wall prog_1_method_3_code 4 (Option.some Jvm.ClassFile.FieldType.int) ∈ kT := kT_in (List.mem_append_right _ (List.mem_append_right _ (List.mem_append_left _ (List.mem_of_getElem? (l := tables_1_2) (i := 71) rfl)))) rfl
theorem kt_312 : Cond.methodLink "RoomHours" 60 yH_hasRoom ∈ kT := kT_in (List.mem_append_right _ (List.mem_append_right _ (List.mem_append_left _ (List.mem_of_getElem? (l := tables_1_2) (i := 72) rfl)))) rfl
theorem kt_313 : Cond.instanceMethod yH_hasRoom ∈ kT := kT_in (List.mem_append_right _ (List.mem_append_right _ (List.mem_append_left _ (List.mem_of_getElem? (l := tables_1_2) (i := 73) rfl)))) rfl
theorem kt_314 : Cond.selects "RoomHours$House" yH_hasRoom yH_hasRoom ∈ kT := kT_in (List.mem_append_right _ (List.mem_append_right _ (List.mem_append_left _ (List.mem_of_getElem? (l := tables_1_2) (i := 74) rfl)))) rfl
theorem kt_315 : Cond.code yH_hasRoom prog_3_method_2_code 2 (Option.some Jvm.ClassFile.FieldType.boolean) ∈ kT := kT_in (List.mem_append_right _ (List.mem_append_right _ (List.mem_append_left _ (List.mem_of_getElem? (l := tables_1_2) (i := 75) rfl)))) rfl
theorem kt_318 : Cond.methodLink "RoomHours" 70 yH_bears ∈ kT := kT_in (List.mem_append_right _ (List.mem_append_right _ (List.mem_append_left _ (List.mem_of_getElem? (l := tables_1_2) (i := 78) rfl)))) rfl
theorem kt_319 : Cond.instanceMethod yH_bears ∈ kT := kT_in (List.mem_append_right _ (List.mem_append_right _ (List.mem_append_left _ (List.mem_of_getElem? (l := tables_1_2) (i := 79) rfl)))) rfl
theorem kt_320 : Cond.selects "RoomHours$House" yH_bears yH_bears ∈ kT := kT_in (List.mem_append_right _ (List.mem_append_right _ (List.mem_append_left _ (List.mem_of_getElem? (l := tables_1_2) (i := 80) rfl)))) rfl
theorem kt_321 : Cond.code yH_bears prog_3_method_3_code 3 (Option.some Jvm.ClassFile.FieldType.boolean) ∈ kT := kT_in (List.mem_append_right _ (List.mem_append_right _ (List.mem_append_left _ (List.mem_of_getElem? (l := tables_1_2) (i := 81) rfl)))) rfl
theorem kt_322 : Cond.methodLink "RoomHours$House" 64 yH_hasRoom ∈ kT := kT_in (List.mem_append_right _ (List.mem_append_right _ (List.mem_append_left _ (List.mem_of_getElem? (l := tables_1_2) (i := 82) rfl)))) rfl
theorem kt_324 : Cond.methodLink "RoomHours" 76 yH_addWall ∈ kT := kT_in (List.mem_append_right _ (List.mem_append_right _ (List.mem_append_left _ (List.mem_of_getElem? (l := tables_1_2) (i := 84) rfl)))) rfl
theorem kt_325 : Cond.instanceMethod yH_addWall ∈ kT := kT_in (List.mem_append_right _ (List.mem_append_right _ (List.mem_append_left _ (List.mem_of_getElem? (l := tables_1_2) (i := 85) rfl)))) rfl
theorem kt_326 : Cond.selects "RoomHours$House" yH_addWall yH_addWall ∈ kT := kT_in (List.mem_append_right _ (List.mem_append_right _ (List.mem_append_left _ (List.mem_of_getElem? (l := tables_1_2) (i := 86) rfl)))) rfl
theorem kt_327 : Cond.code yH_addWall prog_3_method_5_code 5 (Option.some Jvm.ClassFile.FieldType.int) ∈ kT := kT_in (List.mem_append_right _ (List.mem_append_right _ (List.mem_append_left _ (List.mem_of_getElem? (l := tables_1_2) (i := 87) rfl)))) rfl
theorem kt_328 : Cond.methodLink "RoomHours$House" 71 yH_addLeads ∈ kT := kT_in (List.mem_append_right _ (List.mem_append_right _ (List.mem_append_left _ (List.mem_of_getElem? (l := tables_1_2) (i := 88) rfl)))) rfl
theorem kt_329 : Cond.instanceMethod yH_addLeads ∈ kT := kT_in (List.mem_append_right _ (List.mem_append_right _ (List.mem_append_left _ (List.mem_of_getElem? (l := tables_1_2) (i := 89) rfl)))) rfl
theorem kt_330 : Cond.selects "RoomHours$House" yH_addLeads yH_addLeads ∈ kT := kT_in (List.mem_append_right _ (List.mem_append_right _ (List.mem_append_left _ (List.mem_of_getElem? (l := tables_1_2) (i := 90) rfl)))) rfl
theorem kt_331 : Cond.code yH_addLeads prog_3_method_6_code 3 (Option.none : Option Jvm.ClassFile.FieldType) ∈ kT := kT_in (List.mem_append_right _ (List.mem_append_right _ (List.mem_append_left _ (List.mem_of_getElem? (l := tables_1_2) (i := 91) rfl)))) rfl
theorem kt_332 : Cond.methodLink "RoomHoursLaw" 80 yL_leads ∈ kT := kT_in (List.mem_append_right _ (List.mem_append_right _ (List.mem_append_left _ (List.mem_of_getElem? (l := tables_1_2) (i := 92) rfl)))) rfl
theorem kt_333 : Cond.static yL_leads ∈ kT := kT_in (List.mem_append_right _ (List.mem_append_right _ (List.mem_append_left _ (List.mem_of_getElem? (l := tables_1_2) (i := 93) rfl)))) rfl
theorem kt_334 : Cond.codeWith yL_leads method_5_code 5 (Option.some Jvm.ClassFile.FieldType.int) [(0, 10, 13, 13), (0, 10, 17, 15)] ∈ kT := kT_in (List.mem_append_right _ (List.mem_append_right _ (List.mem_append_left _ (List.mem_of_getElem? (l := tables_1_2) (i := 94) rfl)))) rfl
theorem kt_335 : Cond.methodLink "RoomHoursLaw" 21 yR_leads ∈ kT := kT_in (List.mem_append_right _ (List.mem_append_right _ (List.mem_append_left _ (List.mem_of_getElem? (l := tables_1_2) (i := 95) rfl)))) rfl
theorem kt_336 : Cond.instanceMethod yR_leads ∈ kT := kT_in (List.mem_append_right _ (List.mem_append_right _ (List.mem_append_left _ (List.mem_of_getElem? (l := tables_1_2) (i := 96) rfl)))) rfl
theorem kt_337 : Cond.selects "RoomHours" yR_leads yR_leads ∈ kT := kT_in (List.mem_append_right _ (List.mem_append_right _ (List.mem_append_left _ (List.mem_of_getElem? (l := tables_1_2) (i := 97) rfl)))) rfl
theorem kt_338 : Cond.code yR_leads prog_1_method_4_code 5 (Option.some Jvm.ClassFile.FieldType.int) ∈ kT := kT_in (List.mem_append_right _ (List.mem_append_right _ (List.mem_append_left _ (List.mem_of_getElem? (l := tables_1_2) (i := 98) rfl)))) rfl
theorem kt_341 : Cond.methodLink "RoomHours" 94 yH_addLeads ∈ kT := kT_in (List.mem_append_right _ (List.mem_append_right _ (List.mem_append_left _ (List.mem_of_getElem? (l := tables_1_2) (i := 101) rfl)))) rfl
theorem kt_342 : Cond.methodLink "RoomHoursLaw" 83 yL_window ∈ kT := kT_in (List.mem_append_right _ (List.mem_append_right _ (List.mem_append_left _ (List.mem_of_getElem? (l := tables_1_2) (i := 102) rfl)))) rfl
theorem kt_343 : Cond.static yL_window ∈ kT := kT_in (List.mem_append_right _ (List.mem_append_right _ (List.mem_append_left _ (List.mem_of_getElem? (l := tables_1_2) (i := 103) rfl)))) rfl
theorem kt_344 : Cond.codeWith yL_window method_6_code 7 (Option.some Jvm.ClassFile.FieldType.int) [(0, 14, 17, 13), (0, 14, 21, 15)] ∈ kT := kT_in (List.mem_append_right _ (List.mem_append_right _ (List.mem_append_left _ (List.mem_of_getElem? (l := tables_1_2) (i := 104) rfl)))) rfl
theorem kt_345 : Cond.methodLink "RoomHoursLaw" 24 yR_window ∈ kT := kT_in (List.mem_append_right _ (List.mem_append_right _ (List.mem_append_left _ (List.mem_of_getElem? (l := tables_1_2) (i := 105) rfl)))) rfl
theorem kt_346 : Cond.instanceMethod yR_window ∈ kT := kT_in (List.mem_append_right _ (List.mem_append_right _ (List.mem_append_left _ (List.mem_of_getElem? (l := tables_1_2) (i := 106) rfl)))) rfl
theorem kt_347 : Cond.selects "RoomHours" yR_window yR_window ∈ kT := kT_in (List.mem_append_right _ (List.mem_append_right _ (List.mem_append_left _ (List.mem_of_getElem? (l := tables_1_2) (i := 107) rfl)))) rfl
theorem kt_348 : Cond.code yR_window prog_1_method_5_code 5 (Option.some Jvm.ClassFile.FieldType.int) ∈ kT := kT_in (List.mem_append_right _ (List.mem_append_right _ (List.mem_append_left _ (List.mem_of_getElem? (l := tables_1_2) (i := 108) rfl)))) rfl
theorem kt_349 : Cond.methodLink "RoomHours" 98 yR_isSide ∈ kT := kT_in (List.mem_append_right _ (List.mem_append_right _ (List.mem_append_left _ (List.mem_of_getElem? (l := tables_1_2) (i := 109) rfl)))) rfl
theorem kt_350 : Cond.static yR_isSide ∈ kT := kT_in (List.mem_append_right _ (List.mem_append_right _ (List.mem_append_left _ (List.mem_of_getElem? (l := tables_1_2) (i := 110) rfl)))) rfl
theorem kt_351 : Cond.code yR_isSide prog_1_method_19_code 1 (Option.some Jvm.ClassFile.FieldType.boolean) ∈ kT := kT_in (List.mem_append_right _ (List.mem_append_right _ (List.mem_append_left _ (List.mem_of_getElem? (l := tables_1_2) (i := 111) rfl)))) rfl
theorem kt_355 : Cond.methodLink "RoomHours" 110 yH_addWindow ∈ kT := kT_in (List.mem_append_right _ (List.mem_append_right _ (List.mem_append_left _ (List.mem_of_getElem? (l := tables_1_2) (i := 115) rfl)))) rfl
theorem kt_356 : Cond.instanceMethod yH_addWindow ∈ kT := kT_in (List.mem_append_right _ (List.mem_append_right _ (List.mem_append_left _ (List.mem_of_getElem? (l := tables_1_2) (i := 116) rfl)))) rfl
theorem kt_357 : Cond.selects "RoomHours$House" yH_addWindow yH_addWindow ∈ kT := kT_in (List.mem_append_right _ (List.mem_append_right _ (List.mem_append_left _ (List.mem_of_getElem? (l := tables_1_2) (i := 117) rfl)))) rfl
theorem kt_358 : Cond.code yH_addWindow prog_3_method_7_code 6 (Option.some Jvm.ClassFile.FieldType.int) ∈ kT := kT_in (List.mem_append_right _ (List.mem_append_right _ (List.mem_append_left _ (List.mem_of_getElem? (l := tables_1_2) (i := 118) rfl)))) rfl
theorem kt_359 : Cond.methodLink "RoomHoursLaw" 87 yL_outside ∈ kT := kT_in (List.mem_append_right _ (List.mem_append_right _ (List.mem_append_left _ (List.mem_of_getElem? (l := tables_1_2) (i := 119) rfl)))) rfl
theorem kt_360 : Cond.static yL_outside ∈ kT := kT_in (List.mem_append_right _ (List.mem_append_right _ (List.mem_append_left _ (List.mem_of_getElem? (l := tables_1_2) (i := 120) rfl)))) rfl
theorem kt_361 : Cond.codeWith yL_outside method_7_code 5 (Option.some Jvm.ClassFile.FieldType.int) [(0, 10, 13, 13)] ∈ kT := kT_in (List.mem_append_right _ (List.mem_append_right _ (List.mem_append_left _ (List.mem_of_getElem? (l := tables_1_2) (i := 121) rfl)))) rfl
theorem kt_362 : Cond.methodLink "RoomHoursLaw" 28 yR_outside ∈ kT := kT_in (List.mem_append_right _ (List.mem_append_right _ (List.mem_append_left _ (List.mem_of_getElem? (l := tables_1_2) (i := 122) rfl)))) rfl
theorem kt_363 : Cond.instanceMethod yR_outside ∈ kT := kT_in (List.mem_append_right _ (List.mem_append_right _ (List.mem_append_left _ (List.mem_of_getElem? (l := tables_1_2) (i := 123) rfl)))) rfl
theorem kt_364 : Cond.selects "RoomHours" yR_outside yR_outside ∈ kT := kT_in (List.mem_append_right _ (List.mem_append_right _ (List.mem_append_left _ (List.mem_of_getElem? (l := tables_1_2) (i := 124) rfl)))) rfl
theorem kt_365 : Cond.code yR_outside prog_1_method_6_code 4 (Option.some Jvm.ClassFile.FieldType.int) ∈ kT := kT_in (List.mem_append_right _ (List.mem_append_right _ (List.mem_append_left _ (List.mem_of_getElem? (l := tables_1_2) (i := 125) rfl)))) rfl
theorem kt_366 : Cond.methodLink "RoomHours" 114 yR_isHour ∈ kT := kT_in (List.mem_append_right _ (List.mem_append_right _ (List.mem_append_left _ (List.mem_of_getElem? (l := tables_1_2) (i := 126) rfl)))) rfl
theorem kt_367 : Cond.static yR_isHour ∈ kT := kT_in (List.mem_append_right _ (List.mem_append_right _ (List.mem_append_left _ (List.mem_of_getElem? (l := tables_1_2) (i := 127) rfl)))) rfl
theorem kt_368 : Cond.code yR_isHour prog_1_method_18_code 1 (Option.some Jvm.ClassFile.FieldType.boolean) ∈ kT := kT_in (List.mem_append_right _ (List.mem_append_right _ (List.mem_append_left _ (List.mem_of_getElem? (l := tables_1_2) (i := 128) rfl)))) rfl
theorem kt_370 : Cond.methodLink "RoomHoursLaw" 90 yL_sun ∈ kT := kT_in (List.mem_append_right _ (List.mem_append_right _ (List.mem_append_left _ (List.mem_of_getElem? (l := tables_1_2) (i := 130) rfl)))) rfl
theorem kt_371 : Cond.static yL_sun ∈ kT := kT_in (List.mem_append_right _ (List.mem_append_right _ (List.mem_append_left _ (List.mem_of_getElem? (l := tables_1_2) (i := 131) rfl)))) rfl
theorem kt_372 : Cond.codeWith yL_sun method_8_code 6 (Option.some Jvm.ClassFile.FieldType.int) [(0, 12, 15, 13)] ∈ kT := kT_in (List.mem_append_right _ (List.mem_append_right _ (List.mem_append_left _ (List.mem_of_getElem? (l := tables_1_2) (i := 132) rfl)))) rfl
theorem kt_373 : Cond.methodLink "RoomHoursLaw" 31 yR_sun ∈ kT := kT_in (List.mem_append_right _ (List.mem_append_right _ (List.mem_append_left _ (List.mem_of_getElem? (l := tables_1_2) (i := 133) rfl)))) rfl
theorem kt_374 : Cond.instanceMethod yR_sun ∈ kT := kT_in (List.mem_append_right _ (List.mem_append_right _ (List.mem_append_left _ (List.mem_of_getElem? (l := tables_1_2) (i := 134) rfl)))) rfl
theorem kt_375 : Cond.selects "RoomHours" yR_sun yR_sun ∈ kT := kT_in (List.mem_append_right _ (List.mem_append_right _ (List.mem_append_left _ (List.mem_of_getElem? (l := tables_1_2) (i := 135) rfl)))) rfl
theorem kt_376 : Cond.code yR_sun prog_1_method_7_code 5 (Option.some Jvm.ClassFile.FieldType.int) ∈ kT := kT_in (List.mem_append_right _ (List.mem_append_right _ (List.mem_append_left _ (List.mem_of_getElem? (l := tables_1_2) (i := 136) rfl)))) rfl
theorem kt_378 : Cond.methodLink "RoomHoursLaw" 93 yL_plan ∈ kT := kT_in (List.mem_append_right _ (List.mem_append_right _ (List.mem_append_left _ (List.mem_of_getElem? (l := tables_1_2) (i := 138) rfl)))) rfl
theorem kt_379 : Cond.static yL_plan ∈ kT := kT_in (List.mem_append_right _ (List.mem_append_right _ (List.mem_append_left _ (List.mem_of_getElem? (l := tables_1_2) (i := 139) rfl)))) rfl
theorem kt_380 : Cond.codeWith yL_plan method_9_code 7 (Option.some Jvm.ClassFile.FieldType.int) [(0, 14, 17, 13)] ∈ kT := kT_in (List.mem_append_right _ (List.mem_append_right _ (List.mem_append_left _ (List.mem_of_getElem? (l := tables_1_2) (i := 140) rfl)))) rfl
theorem kt_381 : Cond.methodLink "RoomHoursLaw" 34 yR_plan ∈ kT := kT_in (List.mem_append_right _ (List.mem_append_right _ (List.mem_append_left _ (List.mem_of_getElem? (l := tables_1_2) (i := 141) rfl)))) rfl
theorem kt_382 : Cond.instanceMethod yR_plan ∈ kT := kT_in (List.mem_append_right _ (List.mem_append_right _ (List.mem_append_left _ (List.mem_of_getElem? (l := tables_1_2) (i := 142) rfl)))) rfl
theorem kt_383 : Cond.selects "RoomHours" yR_plan yR_plan ∈ kT := kT_in (List.mem_append_right _ (List.mem_append_right _ (List.mem_append_left _ (List.mem_of_getElem? (l := tables_1_2) (i := 143) rfl)))) rfl
theorem kt_384 : Cond.code yR_plan prog_1_method_8_code 7 (Option.some Jvm.ClassFile.FieldType.int) ∈ kT := kT_in (List.mem_append_right _ (List.mem_append_right _ (List.mem_append_left _ (List.mem_of_getElem? (l := tables_1_2) (i := 144) rfl)))) rfl
theorem kt_386 : Cond.methodLink "RoomHours" 130 yR_isPlan ∈ kT := kT_in (List.mem_append_right _ (List.mem_append_right _ (List.mem_append_left _ (List.mem_of_getElem? (l := tables_1_2) (i := 146) rfl)))) rfl
theorem kt_387 : Cond.static yR_isPlan ∈ kT := kT_in (List.mem_append_right _ (List.mem_append_right _ (List.mem_append_left _ (List.mem_of_getElem? (l := tables_1_2) (i := 147) rfl)))) rfl
theorem kt_388 : Cond.code yR_isPlan prog_1_method_20_code 2 (Option.some Jvm.ClassFile.FieldType.boolean) ∈ kT := kT_in (List.mem_append_right _ (List.mem_append_right _ (List.mem_append_left _ (List.mem_of_getElem? (l := tables_1_2) (i := 148) rfl)))) rfl
theorem kt_389 : Cond.constant "RoomHours" 217 (-1000000) ∈ kT := kT_in (List.mem_append_right _ (List.mem_append_right _ (List.mem_append_left _ (List.mem_of_getElem? (l := tables_1_2) (i := 149) rfl)))) rfl
theorem kt_391 : Cond.methodLink "RoomHoursLaw" 96 yL_most ∈ kT := kT_in (List.mem_append_right _ (List.mem_append_right _ (List.mem_append_left _ (List.mem_of_getElem? (l := tables_1_2) (i := 151) rfl)))) rfl
theorem kt_392 : Cond.static yL_most ∈ kT := kT_in (List.mem_append_right _ (List.mem_append_right _ (List.mem_append_left _ (List.mem_of_getElem? (l := tables_1_2) (i := 152) rfl)))) rfl
theorem kt_393 : Cond.codeWith yL_most method_10_code 6 (Option.some Jvm.ClassFile.FieldType.int) [(0, 12, 15, 13)] ∈ kT := kT_in (List.mem_append_right _ (List.mem_append_right _ (List.mem_append_left _ (List.mem_of_getElem? (l := tables_1_2) (i := 153) rfl)))) rfl
theorem kt_394 : Cond.methodLink "RoomHoursLaw" 37 yR_most ∈ kT := kT_in (List.mem_append_right _ (List.mem_append_right _ (List.mem_append_left _ (List.mem_of_getElem? (l := tables_1_2) (i := 154) rfl)))) rfl
theorem kt_395 : Cond.instanceMethod yR_most ∈ kT := kT_in (List.mem_append_right _ (List.mem_append_right _ (List.mem_append_left _ (List.mem_of_getElem? (l := tables_1_2) (i := 155) rfl)))) rfl
theorem kt_396 : Cond.selects "RoomHours" yR_most yR_most ∈ kT := kT_in (List.mem_append_right _ (List.mem_append_right _ (List.mem_append_left _ (List.mem_of_getElem? (l := tables_1_2) (i := 156) rfl)))) rfl
theorem kt_397 : Cond.code yR_most prog_1_method_9_code 5 (Option.some Jvm.ClassFile.FieldType.int) ∈ kT := kT_in (List.mem_append_right _ (List.mem_append_right _ (List.mem_append_left _ (List.mem_of_getElem? (l := tables_1_2) (i := 157) rfl)))) rfl
theorem kt_398 : Cond.constant "RoomHours" 138 (1000000) ∈ kT := kT_in (List.mem_append_right _ (List.mem_append_right _ (List.mem_append_left _ (List.mem_of_getElem? (l := tables_1_2) (i := 158) rfl)))) rfl
theorem kt_400 : Cond.methodLink "RoomHoursLaw" 99 yL_ease ∈ kT := kT_in (List.mem_append_right _ (List.mem_append_right _ (List.mem_append_left _ (List.mem_of_getElem? (l := tables_1_2) (i := 160) rfl)))) rfl
theorem kt_401 : Cond.static yL_ease ∈ kT := kT_in (List.mem_append_right _ (List.mem_append_right _ (List.mem_append_left _ (List.mem_of_getElem? (l := tables_1_2) (i := 161) rfl)))) rfl
theorem kt_402 : Cond.codeWith yL_ease method_11_code 4 (Option.some Jvm.ClassFile.FieldType.int) [(0, 6, 9, 13)] ∈ kT := kT_in (List.mem_append_right _ (List.mem_append_right _ (List.mem_append_left _ (List.mem_of_getElem? (l := tables_1_2) (i := 162) rfl)))) rfl
theorem kt_403 : Cond.methodLink "RoomHoursLaw" 40 yR_ease ∈ kT := kT_in (List.mem_append_right _ (List.mem_append_right _ (List.mem_append_left _ (List.mem_of_getElem? (l := tables_1_2) (i := 163) rfl)))) rfl
theorem kt_404 : Cond.instanceMethod yR_ease ∈ kT := kT_in (List.mem_append_right _ (List.mem_append_right _ (List.mem_append_left _ (List.mem_of_getElem? (l := tables_1_2) (i := 164) rfl)))) rfl
theorem kt_405 : Cond.selects "RoomHours" yR_ease yR_ease ∈ kT := kT_in (List.mem_append_right _ (List.mem_append_right _ (List.mem_append_left _ (List.mem_of_getElem? (l := tables_1_2) (i := 165) rfl)))) rfl
theorem kt_406 : Cond.code yR_ease prog_1_method_10_code 3 (Option.none : Option Jvm.ClassFile.FieldType) ∈ kT := kT_in (List.mem_append_right _ (List.mem_append_right _ (List.mem_append_left _ (List.mem_of_getElem? (l := tables_1_2) (i := 166) rfl)))) rfl
theorem kt_408 : Cond.methodLink "RoomHoursLaw" 103 yL_run ∈ kT := kT_in (List.mem_append_right _ (List.mem_append_right _ (List.mem_append_left _ (List.mem_of_getElem? (l := tables_1_2) (i := 168) rfl)))) rfl
theorem kt_409 : Cond.static yL_run ∈ kT := kT_in (List.mem_append_right _ (List.mem_append_right _ (List.mem_append_left _ (List.mem_of_getElem? (l := tables_1_2) (i := 169) rfl)))) rfl
theorem kt_410 : Cond.codeWith yL_run method_12_code 4 (Option.some Jvm.ClassFile.FieldType.int) [(0, 9, 12, 13), (0, 9, 15, 15)] ∈ kT := kT_in (List.mem_append_right _ (List.mem_append_right _ (List.mem_append_left _ (List.mem_of_getElem? (l := tables_1_2) (i := 170) rfl)))) rfl
theorem kt_411 : Cond.methodLink "RoomHoursLaw" 44 yR_run ∈ kT := kT_in (List.mem_append_right _ (List.mem_append_right _ (List.mem_append_left _ (List.mem_of_getElem? (l := tables_1_2) (i := 171) rfl)))) rfl
theorem kt_412 : Cond.instanceMethod yR_run ∈ kT := kT_in (List.mem_append_right _ (List.mem_append_right _ (List.mem_append_left _ (List.mem_of_getElem? (l := tables_1_2) (i := 172) rfl)))) rfl
theorem kt_413 : Cond.selects "RoomHours" yR_run yR_run ∈ kT := kT_in (List.mem_append_right _ (List.mem_append_right _ (List.mem_append_left _ (List.mem_of_getElem? (l := tables_1_2) (i := 173) rfl)))) rfl
theorem kt_414 : Cond.code yR_run prog_1_method_11_code 3 (Option.some Jvm.ClassFile.FieldType.int) ∈ kT := kT_in (List.mem_append_right _ (List.mem_append_right _ (List.mem_append_left _ (List.mem_of_getElem? (l := tables_1_2) (i := 174) rfl)))) rfl
theorem kt_416 : Cond.constant "RoomHours" 157 (100000) ∈ kT := kT_in (List.mem_append_right _ (List.mem_append_right _ (List.mem_append_left _ (List.mem_of_getElem? (l := tables_1_2) (i := 176) rfl)))) rfl
theorem kt_418 : Cond.methodLink "RoomHours" 160 yC_step ∈ kT := kT_in (List.mem_append_right _ (List.mem_append_right _ (List.mem_append_left _ (List.mem_of_getElem? (l := tables_1_2) (i := 178) rfl)))) rfl
theorem kt_419 : Cond.instanceMethod yC_step ∈ kT := kT_in (List.mem_append_right _ (List.mem_append_right _ (List.mem_append_left _ (List.mem_of_getElem? (l := tables_1_2) (i := 179) rfl)))) rfl
theorem kt_420 : Cond.selects "RoomHours$Course" yC_step yC_step ∈ kT := kT_in (List.mem_append_right _ (List.mem_append_right _ (List.mem_append_left _ (List.mem_of_getElem? (l := tables_1_2) (i := 180) rfl)))) rfl
theorem kt_421 : Cond.code yC_step prog_2_method_10_code 3 (Option.none : Option Jvm.ClassFile.FieldType) ∈ kT := kT_in (List.mem_append_right _ (List.mem_append_right _ (List.mem_append_left _ (List.mem_of_getElem? (l := tables_1_2) (i := 181) rfl)))) rfl
theorem kt_422 : Cond.methodLink "RoomHours$Course" 86 yC_hourOfDay ∈ kT := kT_in (List.mem_append_right _ (List.mem_append_right _ (List.mem_append_left _ (List.mem_of_getElem? (l := tables_1_2) (i := 182) rfl)))) rfl
theorem kt_424 : Cond.instanceMethod yC_hourOfDay ∈ kT := kT_in (List.mem_append_right _ (List.mem_append_right _ (List.mem_append_left _ (List.mem_of_getElem? (l := tables_1_2) (i := 184) rfl)))) rfl
theorem kt_425 : Cond.code yC_hourOfDay prog_2_method_11_code 1 (Option.some Jvm.ClassFile.FieldType.int) ∈ kT := kT_in (List.mem_append_right _ (List.mem_append_right _ (List.mem_append_left _ (List.mem_of_getElem? (l := tables_1_2) (i := 185) rfl)))) rfl
theorem kt_426 : Cond.methodLink "RoomHours$Course" 101 yC_warmthOf ∈ kT := kT_in (List.mem_append_right _ (List.mem_append_right _ (List.mem_append_left _ (List.mem_of_getElem? (l := tables_1_2) (i := 186) rfl)))) rfl
theorem kt_427 : Cond.instanceMethod yC_warmthOf ∈ kT := kT_in (List.mem_append_right _ (List.mem_append_right _ (List.mem_append_left _ (List.mem_of_getElem? (l := tables_1_2) (i := 187) rfl)))) rfl
theorem kt_428 : Cond.selects "RoomHours$Course" yC_warmthOf yC_warmthOf ∈ kT := kT_in (List.mem_append_right _ (List.mem_append_right _ (List.mem_append_left _ (List.mem_of_getElem? (l := tables_1_2) (i := 188) rfl)))) rfl
theorem kt_429 : Cond.code yC_warmthOf prog_2_method_6_code 4 (Option.some Jvm.ClassFile.FieldType.long) ∈ kT := kT_in (List.mem_append_right _ (List.mem_append_right _ (List.mem_append_left _ (List.mem_of_getElem? (l := tables_1_2) (i := 189) rfl)))) rfl
theorem kt_430 : Cond.methodLink "RoomHours$Course" 73 yJ_floorDiv ∈ kT := kT_in (List.mem_append_right _ (List.mem_append_right _ (List.mem_append_left _ (List.mem_of_getElem? (l := tables_1_2) (i := 190) rfl)))) rfl
theorem kt_431 : Cond.static yJ_floorDiv ∈ kT := kT_in (List.mem_append_right _ (List.mem_append_right _ (List.mem_append_left _ (List.mem_of_getElem? (l := tables_1_2) (i := 191) rfl)))) rfl
theorem kt_432 : Cond.code yJ_floorDiv prog_9_method_49_code 6 (Option.some Jvm.ClassFile.FieldType.long) ∈ kT := kT_in (List.mem_append_right _ (List.mem_append_right _ (List.mem_append_left _ (List.mem_of_getElem? (l := tables_1_2) (i := 192) rfl)))) rfl
theorem kt_433 : Cond.methodLink "RoomHours$Course" 108 yC_passWalls ∈ kT := kT_in (List.mem_append_right _ (List.mem_append_right _ (List.mem_append_left _ (List.mem_of_getElem? (l := tables_1_2) (i := 193) rfl)))) rfl
theorem kt_435 : Cond.instanceMethod yC_passWalls ∈ kT := kT_in (List.mem_append_right _ (List.mem_append_right _ (List.mem_append_left _ (List.mem_of_getElem? (l := tables_1_2) (i := 195) rfl)))) rfl
theorem kt_436 : Cond.code yC_passWalls prog_2_method_15_code 9 (Option.none : Option Jvm.ClassFile.FieldType) ∈ kT := kT_in (List.mem_append_right _ (List.mem_append_right _ (List.mem_append_left _ (List.mem_of_getElem? (l := tables_1_2) (i := 196) rfl)))) rfl
theorem kt_437 : Cond.constantLong "RoomHours$Course" 151 (100 : Int64) ∈ kT := kT_in (List.mem_append_right _ (List.mem_append_right _ (List.mem_append_left _ (List.mem_of_getElem? (l := tables_1_2) (i := 197) rfl)))) rfl
theorem kt_438 : Cond.methodLink "RoomHours$Course" 112 yC_passWindows ∈ kT := kT_in (List.mem_append_right _ (List.mem_append_right _ (List.mem_append_left _ (List.mem_of_getElem? (l := tables_1_2) (i := 198) rfl)))) rfl
theorem kt_440 : Cond.instanceMethod yC_passWindows ∈ kT := kT_in (List.mem_append_right _ (List.mem_append_right _ (List.mem_append_left _ (List.mem_of_getElem? (l := tables_1_2) (i := 200) rfl)))) rfl
theorem kt_441 : Cond.code yC_passWindows prog_2_method_16_code 5 (Option.none : Option Jvm.ClassFile.FieldType) ∈ kT := kT_in (List.mem_append_right _ (List.mem_append_right _ (List.mem_append_left _ (List.mem_of_getElem? (l := tables_1_2) (i := 201) rfl)))) rfl
theorem kt_442 : Cond.methodLink "RoomHours$Course" 115 yC_bringPersons ∈ kT := kT_in (List.mem_append_right _ (List.mem_append_right _ (List.mem_append_left _ (List.mem_of_getElem? (l := tables_1_2) (i := 202) rfl)))) rfl
theorem kt_444 : Cond.instanceMethod yC_bringPersons ∈ kT := kT_in (List.mem_append_right _ (List.mem_append_right _ (List.mem_append_left _ (List.mem_of_getElem? (l := tables_1_2) (i := 204) rfl)))) rfl
theorem kt_445 : Cond.code yC_bringPersons prog_2_method_17_code 4 (Option.none : Option Jvm.ClassFile.FieldType) ∈ kT := kT_in (List.mem_append_right _ (List.mem_append_right _ (List.mem_append_left _ (List.mem_of_getElem? (l := tables_1_2) (i := 205) rfl)))) rfl
theorem kt_446 : Cond.methodLink "RoomHours$Course" 132 yC_planned ∈ kT := kT_in (List.mem_append_right _ (List.mem_append_right _ (List.mem_append_left _ (List.mem_of_getElem? (l := tables_1_2) (i := 206) rfl)))) rfl
theorem kt_448 : Cond.instanceMethod yC_planned ∈ kT := kT_in (List.mem_append_right _ (List.mem_append_right _ (List.mem_append_left _ (List.mem_of_getElem? (l := tables_1_2) (i := 208) rfl)))) rfl
theorem kt_449 : Cond.code yC_planned prog_2_method_13_code 4 (Option.some Jvm.ClassFile.FieldType.int) ∈ kT := kT_in (List.mem_append_right _ (List.mem_append_right _ (List.mem_append_left _ (List.mem_of_getElem? (l := tables_1_2) (i := 209) rfl)))) rfl
theorem kt_450 : Cond.methodLink "RoomHours$Course" 119 yC_heatUp ∈ kT := kT_in (List.mem_append_right _ (List.mem_append_right _ (List.mem_append_left _ (List.mem_of_getElem? (l := tables_1_2) (i := 210) rfl)))) rfl
theorem kt_452 : Cond.instanceMethod yC_heatUp ∈ kT := kT_in (List.mem_append_right _ (List.mem_append_right _ (List.mem_append_left _ (List.mem_of_getElem? (l := tables_1_2) (i := 212) rfl)))) rfl
theorem kt_453 : Cond.code yC_heatUp prog_2_method_18_code 10 (Option.none : Option Jvm.ClassFile.FieldType) ∈ kT := kT_in (List.mem_append_right _ (List.mem_append_right _ (List.mem_append_left _ (List.mem_of_getElem? (l := tables_1_2) (i := 213) rfl)))) rfl
theorem kt_454 : Cond.methodLink "RoomHours$Course" 180 yC_setOf ∈ kT := kT_in (List.mem_append_right _ (List.mem_append_right _ (List.mem_append_left _ (List.mem_of_getElem? (l := tables_1_2) (i := 214) rfl)))) rfl
theorem kt_456 : Cond.instanceMethod yC_setOf ∈ kT := kT_in (List.mem_append_right _ (List.mem_append_right _ (List.mem_append_left _ (List.mem_of_getElem? (l := tables_1_2) (i := 216) rfl)))) rfl
theorem kt_457 : Cond.code yC_setOf prog_2_method_19_code 3 (Option.some Jvm.ClassFile.FieldType.int) ∈ kT := kT_in (List.mem_append_right _ (List.mem_append_right _ (List.mem_append_left _ (List.mem_of_getElem? (l := tables_1_2) (i := 217) rfl)))) rfl
theorem kt_458 : Cond.constant "RoomHours$Course" 183 (-1000000) ∈ kT := kT_in (List.mem_append_right _ (List.mem_append_right _ (List.mem_append_left _ (List.mem_of_getElem? (l := tables_1_2) (i := 218) rfl)))) rfl
theorem kt_459 : Cond.methodLink "RoomHours$Course" 184 yC_heatingOf ∈ kT := kT_in (List.mem_append_right _ (List.mem_append_right _ (List.mem_append_left _ (List.mem_of_getElem? (l := tables_1_2) (i := 219) rfl)))) rfl
theorem kt_461 : Cond.instanceMethod yC_heatingOf ∈ kT := kT_in (List.mem_append_right _ (List.mem_append_right _ (List.mem_append_left _ (List.mem_of_getElem? (l := tables_1_2) (i := 221) rfl)))) rfl
theorem kt_462 : Cond.code yC_heatingOf prog_2_method_20_code 2 (Option.some Jvm.ClassFile.FieldType.int) ∈ kT := kT_in (List.mem_append_right _ (List.mem_append_right _ (List.mem_append_left _ (List.mem_of_getElem? (l := tables_1_2) (i := 222) rfl)))) rfl
theorem kt_463 : Cond.methodLink "RoomHours$Course" 188 ⟨"java/lang/Math", "min", "(JJ)J"⟩ ∈ kT := kT_in (List.mem_append_right _ (List.mem_append_right _ (List.mem_append_left _ (List.mem_of_getElem? (l := tables_1_2) (i := 223) rfl)))) rfl
theorem kt_464 : Cond.static ⟨"java/lang/Math", "min", "(JJ)J"⟩ ∈ kT := kT_in (List.mem_append_right _ (List.mem_append_right _ (List.mem_append_left _ (List.mem_of_getElem? (l := tables_1_2) (i := 224) rfl)))) rfl
theorem kt_465 : Cond.code ⟨"java/lang/Math", "min", "(JJ)J"⟩ prog_9_method_70_code 4 (Option.some Jvm.ClassFile.FieldType.long) ∈ kT := kT_in (List.mem_append_right _ (List.mem_append_right _ (List.mem_append_left _ (List.mem_of_getElem? (l := tables_1_2) (i := 225) rfl)))) rfl
theorem kt_466 : Cond.methodLink "RoomHours$Course" 191 ⟨"java/lang/Math", "max", "(JJ)J"⟩ ∈ kT := kT_in (List.mem_append_right _ (List.mem_append_right _ (List.mem_append_left _ (List.mem_of_getElem? (l := tables_1_2) (i := 226) rfl)))) rfl
theorem kt_467 : Cond.static ⟨"java/lang/Math", "max", "(JJ)J"⟩ ∈ kT := kT_in (List.mem_append_right _ (List.mem_append_right _ (List.mem_append_left _ (List.mem_of_getElem? (l := tables_1_2) (i := 227) rfl)))) rfl
theorem kt_468 : Cond.code ⟨"java/lang/Math", "max", "(JJ)J"⟩ prog_9_method_66_code 4 (Option.some Jvm.ClassFile.FieldType.long) ∈ kT := kT_in (List.mem_append_right _ (List.mem_append_right _ (List.mem_append_left _ (List.mem_of_getElem? (l := tables_1_2) (i := 228) rfl)))) rfl
theorem kt_469 : Cond.methodLink "RoomHours$Course" 122 yC_coolDown ∈ kT := kT_in (List.mem_append_right _ (List.mem_append_right _ (List.mem_append_left _ (List.mem_of_getElem? (l := tables_1_2) (i := 229) rfl)))) rfl
theorem kt_471 : Cond.instanceMethod yC_coolDown ∈ kT := kT_in (List.mem_append_right _ (List.mem_append_right _ (List.mem_append_left _ (List.mem_of_getElem? (l := tables_1_2) (i := 231) rfl)))) rfl
theorem kt_472 : Cond.code yC_coolDown prog_2_method_21_code 8 (Option.none : Option Jvm.ClassFile.FieldType) ∈ kT := kT_in (List.mem_append_right _ (List.mem_append_right _ (List.mem_append_left _ (List.mem_of_getElem? (l := tables_1_2) (i := 232) rfl)))) rfl
theorem kt_473 : Cond.methodLink "RoomHours$Course" 93 yC_hourEnds ∈ kT := kT_in (List.mem_append_right _ (List.mem_append_right _ (List.mem_append_left _ (List.mem_of_getElem? (l := tables_1_2) (i := 233) rfl)))) rfl
theorem kt_475 : Cond.instanceMethod yC_hourEnds ∈ kT := kT_in (List.mem_append_right _ (List.mem_append_right _ (List.mem_append_left _ (List.mem_of_getElem? (l := tables_1_2) (i := 235) rfl)))) rfl
theorem kt_476 : Cond.code yC_hourEnds prog_2_method_12_code 1 (Option.some Jvm.ClassFile.FieldType.boolean) ∈ kT := kT_in (List.mem_append_right _ (List.mem_append_right _ (List.mem_append_left _ (List.mem_of_getElem? (l := tables_1_2) (i := 236) rfl)))) rfl
theorem kt_477 : Cond.methodLink "RoomHours$Course" 125 yC_countUneasy ∈ kT := kT_in (List.mem_append_right _ (List.mem_append_right _ (List.mem_append_left _ (List.mem_of_getElem? (l := tables_1_2) (i := 237) rfl)))) rfl
theorem kt_479 : Cond.instanceMethod yC_countUneasy ∈ kT := kT_in (List.mem_append_right _ (List.mem_append_right _ (List.mem_append_left _ (List.mem_of_getElem? (l := tables_1_2) (i := 239) rfl)))) rfl
theorem kt_480 : Cond.code yC_countUneasy prog_2_method_22_code 5 (Option.none : Option Jvm.ClassFile.FieldType) ∈ kT := kT_in (List.mem_append_right _ (List.mem_append_right _ (List.mem_append_right _ (List.mem_append_left _ (List.mem_of_getElem? (l := tables_1_3) (i := 0) rfl))))) rfl
theorem kt_481 : Cond.methodLink "RoomHours$Course" 97 yC_hasPersons ∈ kT := kT_in (List.mem_append_right _ (List.mem_append_right _ (List.mem_append_right _ (List.mem_append_left _ (List.mem_of_getElem? (l := tables_1_3) (i := 1) rfl))))) rfl
theorem kt_483 : Cond.instanceMethod yC_hasPersons ∈ kT := kT_in (List.mem_append_right _ (List.mem_append_right _ (List.mem_append_right _ (List.mem_append_left _ (List.mem_of_getElem? (l := tables_1_3) (i := 3) rfl))))) rfl
theorem kt_484 : Cond.code yC_hasPersons prog_2_method_14_code 3 (Option.some Jvm.ClassFile.FieldType.boolean) ∈ kT := kT_in (List.mem_append_right _ (List.mem_append_right _ (List.mem_append_right _ (List.mem_append_left _ (List.mem_of_getElem? (l := tables_1_3) (i := 4) rfl))))) rfl
theorem kt_485 : Cond.methodLink "RoomHoursLaw" 107 yL_told ∈ kT := kT_in (List.mem_append_right _ (List.mem_append_right _ (List.mem_append_right _ (List.mem_append_left _ (List.mem_of_getElem? (l := tables_1_3) (i := 5) rfl))))) rfl
theorem kt_486 : Cond.static yL_told ∈ kT := kT_in (List.mem_append_right _ (List.mem_append_right _ (List.mem_append_right _ (List.mem_append_left _ (List.mem_of_getElem? (l := tables_1_3) (i := 6) rfl))))) rfl
theorem kt_487 : Cond.codeWith yL_told method_13_code 5 (Option.some Jvm.ClassFile.FieldType.int) [(0, 9, 12, 13)] ∈ kT := kT_in (List.mem_append_right _ (List.mem_append_right _ (List.mem_append_right _ (List.mem_append_left _ (List.mem_of_getElem? (l := tables_1_3) (i := 7) rfl))))) rfl
theorem kt_488 : Cond.methodLink "RoomHoursLaw" 48 yR_told ∈ kT := kT_in (List.mem_append_right _ (List.mem_append_right _ (List.mem_append_right _ (List.mem_append_left _ (List.mem_of_getElem? (l := tables_1_3) (i := 8) rfl))))) rfl
theorem kt_489 : Cond.instanceMethod yR_told ∈ kT := kT_in (List.mem_append_right _ (List.mem_append_right _ (List.mem_append_right _ (List.mem_append_left _ (List.mem_of_getElem? (l := tables_1_3) (i := 9) rfl))))) rfl
theorem kt_490 : Cond.selects "RoomHours" yR_told yR_told ∈ kT := kT_in (List.mem_append_right _ (List.mem_append_right _ (List.mem_append_right _ (List.mem_append_left _ (List.mem_of_getElem? (l := tables_1_3) (i := 10) rfl))))) rfl
theorem kt_491 : Cond.code yR_told prog_1_method_12_code 3 (Option.some Jvm.ClassFile.FieldType.long) ∈ kT := kT_in (List.mem_append_right _ (List.mem_append_right _ (List.mem_append_right _ (List.mem_append_left _ (List.mem_of_getElem? (l := tables_1_3) (i := 11) rfl))))) rfl
theorem kt_493 : Cond.methodLink "RoomHours" 165 yC_warmthOf ∈ kT := kT_in (List.mem_append_right _ (List.mem_append_right _ (List.mem_append_right _ (List.mem_append_left _ (List.mem_of_getElem? (l := tables_1_3) (i := 13) rfl))))) rfl
theorem kt_494 : Cond.methodLink "RoomHoursLaw" 110 yL_balance ∈ kT := kT_in (List.mem_append_right _ (List.mem_append_right _ (List.mem_append_right _ (List.mem_append_left _ (List.mem_of_getElem? (l := tables_1_3) (i := 14) rfl))))) rfl
theorem kt_495 : Cond.static yL_balance ∈ kT := kT_in (List.mem_append_right _ (List.mem_append_right _ (List.mem_append_right _ (List.mem_append_left _ (List.mem_of_getElem? (l := tables_1_3) (i := 15) rfl))))) rfl
theorem kt_496 : Cond.codeWith yL_balance method_14_code 4 (Option.some Jvm.ClassFile.FieldType.int) [(0, 8, 11, 13)] ∈ kT := kT_in (List.mem_append_right _ (List.mem_append_right _ (List.mem_append_right _ (List.mem_append_left _ (List.mem_of_getElem? (l := tables_1_3) (i := 16) rfl))))) rfl
theorem kt_497 : Cond.methodLink "RoomHoursLaw" 52 yR_balance ∈ kT := kT_in (List.mem_append_right _ (List.mem_append_right _ (List.mem_append_right _ (List.mem_append_left _ (List.mem_of_getElem? (l := tables_1_3) (i := 17) rfl))))) rfl
theorem kt_498 : Cond.instanceMethod yR_balance ∈ kT := kT_in (List.mem_append_right _ (List.mem_append_right _ (List.mem_append_right _ (List.mem_append_left _ (List.mem_of_getElem? (l := tables_1_3) (i := 18) rfl))))) rfl
theorem kt_499 : Cond.selects "RoomHours" yR_balance yR_balance ∈ kT := kT_in (List.mem_append_right _ (List.mem_append_right _ (List.mem_append_right _ (List.mem_append_left _ (List.mem_of_getElem? (l := tables_1_3) (i := 19) rfl))))) rfl
theorem kt_500 : Cond.code yR_balance prog_1_method_13_code 2 (Option.some Jvm.ClassFile.FieldType.long) ∈ kT := kT_in (List.mem_append_right _ (List.mem_append_right _ (List.mem_append_right _ (List.mem_append_left _ (List.mem_of_getElem? (l := tables_1_3) (i := 20) rfl))))) rfl
theorem kt_502 : Cond.methodLink "RoomHours" 187 yC_sumOf ∈ kT := kT_in (List.mem_append_right _ (List.mem_append_right _ (List.mem_append_right _ (List.mem_append_left _ (List.mem_of_getElem? (l := tables_1_3) (i := 22) rfl))))) rfl
theorem kt_503 : Cond.instanceMethod yC_sumOf ∈ kT := kT_in (List.mem_append_right _ (List.mem_append_right _ (List.mem_append_right _ (List.mem_append_left _ (List.mem_of_getElem? (l := tables_1_3) (i := 23) rfl))))) rfl
theorem kt_504 : Cond.selects "RoomHours$Course" yC_sumOf yC_sumOf ∈ kT := kT_in (List.mem_append_right _ (List.mem_append_right _ (List.mem_append_right _ (List.mem_append_left _ (List.mem_of_getElem? (l := tables_1_3) (i := 24) rfl))))) rfl
theorem kt_505 : Cond.code yC_sumOf prog_2_method_7_code 5 (Option.some Jvm.ClassFile.FieldType.long) ∈ kT := kT_in (List.mem_append_right _ (List.mem_append_right _ (List.mem_append_right _ (List.mem_append_left _ (List.mem_of_getElem? (l := tables_1_3) (i := 25) rfl))))) rfl
theorem kt_506 : Cond.methodLink "RoomHoursLaw" 113 yL_early ∈ kT := kT_in (List.mem_append_right _ (List.mem_append_right _ (List.mem_append_right _ (List.mem_append_left _ (List.mem_of_getElem? (l := tables_1_3) (i := 26) rfl))))) rfl
theorem kt_507 : Cond.static yL_early ∈ kT := kT_in (List.mem_append_right _ (List.mem_append_right _ (List.mem_append_right _ (List.mem_append_left _ (List.mem_of_getElem? (l := tables_1_3) (i := 27) rfl))))) rfl
theorem kt_508 : Cond.codeWith yL_early method_15_code 6 (Option.some Jvm.ClassFile.FieldType.int) [(0, 12, 15, 13)] ∈ kT := kT_in (List.mem_append_right _ (List.mem_append_right _ (List.mem_append_right _ (List.mem_append_left _ (List.mem_of_getElem? (l := tables_1_3) (i := 28) rfl))))) rfl
theorem kt_509 : Cond.methodLink "RoomHoursLaw" 56 yR_early ∈ kT := kT_in (List.mem_append_right _ (List.mem_append_right _ (List.mem_append_right _ (List.mem_append_left _ (List.mem_of_getElem? (l := tables_1_3) (i := 29) rfl))))) rfl
theorem kt_510 : Cond.instanceMethod yR_early ∈ kT := kT_in (List.mem_append_right _ (List.mem_append_right _ (List.mem_append_right _ (List.mem_append_left _ (List.mem_of_getElem? (l := tables_1_3) (i := 30) rfl))))) rfl
theorem kt_511 : Cond.selects "RoomHours" yR_early yR_early ∈ kT := kT_in (List.mem_append_right _ (List.mem_append_right _ (List.mem_append_right _ (List.mem_append_left _ (List.mem_of_getElem? (l := tables_1_3) (i := 31) rfl))))) rfl
theorem kt_512 : Cond.code yR_early prog_1_method_14_code 8 (Option.some Jvm.ClassFile.FieldType.int) ∈ kT := kT_in (List.mem_append_right _ (List.mem_append_right _ (List.mem_append_right _ (List.mem_append_left _ (List.mem_of_getElem? (l := tables_1_3) (i := 32) rfl))))) rfl
theorem kt_514 : Cond.methodLink "RoomHours" 206 yC_nextBeginning ∈ kT := kT_in (List.mem_append_right _ (List.mem_append_right _ (List.mem_append_right _ (List.mem_append_left _ (List.mem_of_getElem? (l := tables_1_3) (i := 34) rfl))))) rfl
theorem kt_515 : Cond.instanceMethod yC_nextBeginning ∈ kT := kT_in (List.mem_append_right _ (List.mem_append_right _ (List.mem_append_right _ (List.mem_append_left _ (List.mem_of_getElem? (l := tables_1_3) (i := 35) rfl))))) rfl
theorem kt_516 : Cond.selects "RoomHours$Course" yC_nextBeginning yC_nextBeginning ∈ kT := kT_in (List.mem_append_right _ (List.mem_append_right _ (List.mem_append_right _ (List.mem_append_left _ (List.mem_of_getElem? (l := tables_1_3) (i := 36) rfl))))) rfl
theorem kt_517 : Cond.code yC_nextBeginning prog_2_method_8_code 3 (Option.some Jvm.ClassFile.FieldType.int) ∈ kT := kT_in (List.mem_append_right _ (List.mem_append_right _ (List.mem_append_right _ (List.mem_append_left _ (List.mem_of_getElem? (l := tables_1_3) (i := 37) rfl))))) rfl
theorem kt_518 : Cond.methodLink "RoomHours$Course" 82 yJ_floorMod ∈ kT := kT_in (List.mem_append_right _ (List.mem_append_right _ (List.mem_append_right _ (List.mem_append_left _ (List.mem_of_getElem? (l := tables_1_3) (i := 38) rfl))))) rfl
theorem kt_519 : Cond.static yJ_floorMod ∈ kT := kT_in (List.mem_append_right _ (List.mem_append_right _ (List.mem_append_right _ (List.mem_append_left _ (List.mem_of_getElem? (l := tables_1_3) (i := 39) rfl))))) rfl
theorem kt_520 : Cond.code yJ_floorMod prog_9_method_50_code 3 (Option.some Jvm.ClassFile.FieldType.int) ∈ kT := kT_in (List.mem_append_right _ (List.mem_append_right _ (List.mem_append_right _ (List.mem_append_left _ (List.mem_of_getElem? (l := tables_1_3) (i := 40) rfl))))) rfl
theorem kt_521 : Cond.methodLink "RoomHours" 209 yC_copyOf ∈ kT := kT_in (List.mem_append_right _ (List.mem_append_right _ (List.mem_append_right _ (List.mem_append_left _ (List.mem_of_getElem? (l := tables_1_3) (i := 41) rfl))))) rfl
theorem kt_522 : Cond.instanceMethod yC_copyOf ∈ kT := kT_in (List.mem_append_right _ (List.mem_append_right _ (List.mem_append_right _ (List.mem_append_left _ (List.mem_of_getElem? (l := tables_1_3) (i := 42) rfl))))) rfl
theorem kt_523 : Cond.selects "RoomHours$Course" yC_copyOf yC_copyOf ∈ kT := kT_in (List.mem_append_right _ (List.mem_append_right _ (List.mem_append_right _ (List.mem_append_left _ (List.mem_of_getElem? (l := tables_1_3) (i := 43) rfl))))) rfl
theorem kt_524 : Cond.code yC_copyOf prog_2_method_3_code 2 (Option.none : Option Jvm.ClassFile.FieldType) ∈ kT := kT_in (List.mem_append_right _ (List.mem_append_right _ (List.mem_append_right _ (List.mem_append_left _ (List.mem_of_getElem? (l := tables_1_3) (i := 44) rfl))))) rfl
theorem kt_525 : Cond.methodLink "RoomHours$Course" 49 ⟨"java/lang/System", "arraycopy", "(Ljava/lang/Object;ILjava/lang/Object;II)V"⟩ ∈ kT := kT_in (List.mem_append_right _ (List.mem_append_right _ (List.mem_append_right _ (List.mem_append_left _ (List.mem_of_getElem? (l := tables_1_3) (i := 45) rfl))))) rfl
theorem kt_526 : Cond.static ⟨"java/lang/System", "arraycopy", "(Ljava/lang/Object;ILjava/lang/Object;II)V"⟩ ∈ kT := kT_in (List.mem_append_right _ (List.mem_append_right _ (List.mem_append_right _ (List.mem_append_left _ (List.mem_of_getElem? (l := tables_1_3) (i := 46) rfl))))) rfl
theorem kt_527 : Cond.native ⟨"java/lang/System", "arraycopy", "(Ljava/lang/Object;ILjava/lang/Object;II)V"⟩ ∈ kT := kT_in (List.mem_append_right _ (List.mem_append_right _ (List.mem_append_right _ (List.mem_append_left _ (List.mem_of_getElem? (l := tables_1_3) (i := 47) rfl))))) rfl
theorem kt_528 : Cond.methodLink "RoomHours" 213 yC_trySet ∈ kT := kT_in (List.mem_append_right _ (List.mem_append_right _ (List.mem_append_right _ (List.mem_append_left _ (List.mem_of_getElem? (l := tables_1_3) (i := 48) rfl))))) rfl
theorem kt_529 : Cond.instanceMethod yC_trySet ∈ kT := kT_in (List.mem_append_right _ (List.mem_append_right _ (List.mem_append_right _ (List.mem_append_left _ (List.mem_of_getElem? (l := tables_1_3) (i := 49) rfl))))) rfl
theorem kt_530 : Cond.selects "RoomHours$Course" yC_trySet yC_trySet ∈ kT := kT_in (List.mem_append_right _ (List.mem_append_right _ (List.mem_append_right _ (List.mem_append_left _ (List.mem_of_getElem? (l := tables_1_3) (i := 50) rfl))))) rfl
theorem kt_531 : Cond.code yC_trySet prog_2_method_4_code 4 (Option.none : Option Jvm.ClassFile.FieldType) ∈ kT := kT_in (List.mem_append_right _ (List.mem_append_right _ (List.mem_append_right _ (List.mem_append_left _ (List.mem_of_getElem? (l := tables_1_3) (i := 51) rfl))))) rfl
theorem kt_532 : Cond.methodLink "RoomHoursLaw" 116 yL_strong ∈ kT := kT_in (List.mem_append_right _ (List.mem_append_right _ (List.mem_append_right _ (List.mem_append_left _ (List.mem_of_getElem? (l := tables_1_3) (i := 52) rfl))))) rfl
theorem kt_533 : Cond.static yL_strong ∈ kT := kT_in (List.mem_append_right _ (List.mem_append_right _ (List.mem_append_right _ (List.mem_append_left _ (List.mem_of_getElem? (l := tables_1_3) (i := 53) rfl))))) rfl
theorem kt_534 : Cond.codeWith yL_strong method_16_code 5 (Option.some Jvm.ClassFile.FieldType.int) [(0, 10, 13, 13)] ∈ kT := kT_in (List.mem_append_right _ (List.mem_append_right _ (List.mem_append_right _ (List.mem_append_left _ (List.mem_of_getElem? (l := tables_1_3) (i := 54) rfl))))) rfl
theorem kt_535 : Cond.methodLink "RoomHoursLaw" 59 yR_strong ∈ kT := kT_in (List.mem_append_right _ (List.mem_append_right _ (List.mem_append_right _ (List.mem_append_left _ (List.mem_of_getElem? (l := tables_1_3) (i := 55) rfl))))) rfl
theorem kt_536 : Cond.instanceMethod yR_strong ∈ kT := kT_in (List.mem_append_right _ (List.mem_append_right _ (List.mem_append_right _ (List.mem_append_left _ (List.mem_of_getElem? (l := tables_1_3) (i := 56) rfl))))) rfl
theorem kt_537 : Cond.selects "RoomHours" yR_strong yR_strong ∈ kT := kT_in (List.mem_append_right _ (List.mem_append_right _ (List.mem_append_right _ (List.mem_append_left _ (List.mem_of_getElem? (l := tables_1_3) (i := 57) rfl))))) rfl
theorem kt_538 : Cond.code yR_strong prog_1_method_15_code 4 (Option.some Jvm.ClassFile.FieldType.int) ∈ kT := kT_in (List.mem_append_right _ (List.mem_append_right _ (List.mem_append_right _ (List.mem_append_left _ (List.mem_of_getElem? (l := tables_1_3) (i := 58) rfl))))) rfl
theorem kt_540 : Cond.methodLink "RoomHours" 220 yC_tryMost ∈ kT := kT_in (List.mem_append_right _ (List.mem_append_right _ (List.mem_append_right _ (List.mem_append_left _ (List.mem_of_getElem? (l := tables_1_3) (i := 60) rfl))))) rfl
theorem kt_541 : Cond.instanceMethod yC_tryMost ∈ kT := kT_in (List.mem_append_right _ (List.mem_append_right _ (List.mem_append_right _ (List.mem_append_left _ (List.mem_of_getElem? (l := tables_1_3) (i := 61) rfl))))) rfl
theorem kt_542 : Cond.selects "RoomHours$Course" yC_tryMost yC_tryMost ∈ kT := kT_in (List.mem_append_right _ (List.mem_append_right _ (List.mem_append_right _ (List.mem_append_left _ (List.mem_of_getElem? (l := tables_1_3) (i := 62) rfl))))) rfl
theorem kt_543 : Cond.code yC_tryMost prog_2_method_5_code 3 (Option.none : Option Jvm.ClassFile.FieldType) ∈ kT := kT_in (List.mem_append_right _ (List.mem_append_right _ (List.mem_append_right _ (List.mem_append_left _ (List.mem_of_getElem? (l := tables_1_3) (i := 63) rfl))))) rfl
theorem kt_544 : Cond.methodLink "RoomHours" 223 yC_staysUp ∈ kT := kT_in (List.mem_append_right _ (List.mem_append_right _ (List.mem_append_right _ (List.mem_append_left _ (List.mem_of_getElem? (l := tables_1_3) (i := 64) rfl))))) rfl
theorem kt_545 : Cond.instanceMethod yC_staysUp ∈ kT := kT_in (List.mem_append_right _ (List.mem_append_right _ (List.mem_append_right _ (List.mem_append_left _ (List.mem_of_getElem? (l := tables_1_3) (i := 65) rfl))))) rfl
theorem kt_546 : Cond.selects "RoomHours$Course" yC_staysUp yC_staysUp ∈ kT := kT_in (List.mem_append_right _ (List.mem_append_right _ (List.mem_append_right _ (List.mem_append_left _ (List.mem_of_getElem? (l := tables_1_3) (i := 66) rfl))))) rfl
theorem kt_547 : Cond.code yC_staysUp prog_2_method_9_code 5 (Option.some Jvm.ClassFile.FieldType.boolean) ∈ kT := kT_in (List.mem_append_right _ (List.mem_append_right _ (List.mem_append_right _ (List.mem_append_left _ (List.mem_of_getElem? (l := tables_1_3) (i := 67) rfl))))) rfl
theorem kt_548 : Cond.methodLink "RoomHours$Course" 90 yC_step ∈ kT := kT_in (List.mem_append_right _ (List.mem_append_right _ (List.mem_append_right _ (List.mem_append_left _ (List.mem_of_getElem? (l := tables_1_3) (i := 68) rfl))))) rfl
theorem kt_549 : Cond.classLink "RoomHoursLaw" 63 "RoomHoursModel" ∈ kT := kT_in (List.mem_append_right _ (List.mem_append_right _ (List.mem_append_right _ (List.mem_append_left _ (List.mem_of_getElem? (l := tables_1_3) (i := 69) rfl))))) rfl
theorem kt_550 : Cond.instantiable "RoomHoursModel" 37 ∈ kT := kT_in (List.mem_append_right _ (List.mem_append_right _ (List.mem_append_right _ (List.mem_append_left _ (List.mem_of_getElem? (l := tables_1_3) (i := 70) rfl))))) rfl
theorem kt_551 : Cond.methodLink "RoomHoursLaw" 65 yM_init ∈ kT := kT_in (List.mem_append_right _ (List.mem_append_right _ (List.mem_append_right _ (List.mem_append_left _ (List.mem_of_getElem? (l := tables_1_3) (i := 71) rfl))))) rfl
theorem kt_552 : Cond.instanceMethod yM_init ∈ kT := kT_in (List.mem_append_right _ (List.mem_append_right _ (List.mem_append_right _ (List.mem_append_left _ (List.mem_of_getElem? (l := tables_1_3) (i := 72) rfl))))) rfl
theorem kt_553 : Cond.code yM_init prog_5_method_1_code 2 (Option.none : Option Jvm.ClassFile.FieldType) ∈ kT := kT_in (List.mem_append_right _ (List.mem_append_right _ (List.mem_append_right _ (List.mem_append_left _ (List.mem_of_getElem? (l := tables_1_3) (i := 73) rfl))))) rfl
theorem kt_554 : Cond.methodLink "RoomHoursModel" 1 ⟨"java/lang/Object", "<init>", "()V"⟩ ∈ kT := kT_in (List.mem_append_right _ (List.mem_append_right _ (List.mem_append_right _ (List.mem_append_left _ (List.mem_of_getElem? (l := tables_1_3) (i := 74) rfl))))) rfl
theorem kt_555 : Cond.constant "RoomHoursModel" 81 (-1000000) ∈ kT := kT_in (List.mem_append_right _ (List.mem_append_right _ (List.mem_append_right _ (List.mem_append_left _ (List.mem_of_getElem? (l := tables_1_3) (i := 75) rfl))))) rfl
theorem kt_556 : Cond.fieldLink "RoomHoursModel" 82 "RoomHoursModel" "thrown" "I" ∈ kT := kT_in (List.mem_append_right _ (List.mem_append_right _ (List.mem_append_right _ (List.mem_append_left _ (List.mem_of_getElem? (l := tables_1_3) (i := 76) rfl))))) rfl
theorem kt_557 : Cond.fieldLink "RoomHoursModel" 89 "RoomHoursModel" "rooms" "I" ∈ kT := kT_in (List.mem_append_right _ (List.mem_append_right _ (List.mem_append_right _ (List.mem_append_left _ (List.mem_of_getElem? (l := tables_1_3) (i := 77) rfl))))) rfl
theorem kt_558 : Cond.fieldLink "RoomHoursModel" 7 "RoomHoursModel" "store" "[I" ∈ kT := kT_in (List.mem_append_right _ (List.mem_append_right _ (List.mem_append_right _ (List.mem_append_left _ (List.mem_of_getElem? (l := tables_1_3) (i := 78) rfl))))) rfl
theorem kt_559 : Cond.fieldLink "RoomHoursModel" 13 "RoomHoursModel" "heat" "[J" ∈ kT := kT_in (List.mem_append_right _ (List.mem_append_right _ (List.mem_append_right _ (List.mem_append_left _ (List.mem_of_getElem? (l := tables_1_3) (i := 79) rfl))))) rfl
theorem kt_560 : Cond.fieldLink "RoomHoursModel" 17 "RoomHoursModel" "uneasy" "[I" ∈ kT := kT_in (List.mem_append_right _ (List.mem_append_right _ (List.mem_append_right _ (List.mem_append_left _ (List.mem_of_getElem? (l := tables_1_3) (i := 80) rfl))))) rfl
theorem kt_561 : Cond.fieldLink "RoomHoursModel" 20 "RoomHoursModel" "gave" "[J" ∈ kT := kT_in (List.mem_append_right _ (List.mem_append_right _ (List.mem_append_right _ (List.mem_append_left _ (List.mem_of_getElem? (l := tables_1_3) (i := 81) rfl))))) rfl
theorem kt_562 : Cond.fieldLink "RoomHoursModel" 23 "RoomHoursModel" "taken" "[J" ∈ kT := kT_in (List.mem_append_right _ (List.mem_append_right _ (List.mem_append_right _ (List.mem_append_left _ (List.mem_of_getElem? (l := tables_1_3) (i := 82) rfl))))) rfl
theorem kt_563 : Cond.fieldLink "RoomHoursModel" 26 "RoomHoursModel" "greatest" "[J" ∈ kT := kT_in (List.mem_append_right _ (List.mem_append_right _ (List.mem_append_right _ (List.mem_append_left _ (List.mem_of_getElem? (l := tables_1_3) (i := 83) rfl))))) rfl
theorem kt_564 : Cond.fieldLink "RoomHoursModel" 29 "RoomHoursModel" "mostHeating" "[I" ∈ kT := kT_in (List.mem_append_right _ (List.mem_append_right _ (List.mem_append_right _ (List.mem_append_left _ (List.mem_of_getElem? (l := tables_1_3) (i := 84) rfl))))) rfl
theorem kt_565 : Cond.fieldLink "RoomHoursModel" 32 "RoomHoursModel" "mostCooling" "[I" ∈ kT := kT_in (List.mem_append_right _ (List.mem_append_right _ (List.mem_append_right _ (List.mem_append_left _ (List.mem_of_getElem? (l := tables_1_3) (i := 85) rfl))))) rfl
theorem kt_566 : Cond.fieldLink "RoomHoursModel" 96 "RoomHoursModel" "began" "J" ∈ kT := kT_in (List.mem_append_right _ (List.mem_append_right _ (List.mem_append_right _ (List.mem_append_left _ (List.mem_of_getElem? (l := tables_1_3) (i := 86) rfl))))) rfl
theorem kt_567 : Cond.fieldLink "RoomHoursModel" 100 "RoomHoursModel" "walls" "I" ∈ kT := kT_in (List.mem_append_right _ (List.mem_append_right _ (List.mem_append_right _ (List.mem_append_left _ (List.mem_of_getElem? (l := tables_1_3) (i := 87) rfl))))) rfl
theorem kt_568 : Cond.fieldLink "RoomHoursModel" 35 "RoomHoursModel" "wallRoom" "[I" ∈ kT := kT_in (List.mem_append_right _ (List.mem_append_right _ (List.mem_append_right _ (List.mem_append_left _ (List.mem_of_getElem? (l := tables_1_3) (i := 88) rfl))))) rfl
theorem kt_569 : Cond.fieldLink "RoomHoursModel" 38 "RoomHoursModel" "wallOther" "[I" ∈ kT := kT_in (List.mem_append_right _ (List.mem_append_right _ (List.mem_append_right _ (List.mem_append_left _ (List.mem_of_getElem? (l := tables_1_3) (i := 89) rfl))))) rfl
theorem kt_570 : Cond.fieldLink "RoomHoursModel" 41 "RoomHoursModel" "leads" "[I" ∈ kT := kT_in (List.mem_append_right _ (List.mem_append_right _ (List.mem_append_right _ (List.mem_append_left _ (List.mem_of_getElem? (l := tables_1_3) (i := 90) rfl))))) rfl
theorem kt_571 : Cond.fieldLink "RoomHoursModel" 112 "RoomHoursModel" "windows" "I" ∈ kT := kT_in (List.mem_append_right _ (List.mem_append_right _ (List.mem_append_right _ (List.mem_append_left _ (List.mem_of_getElem? (l := tables_1_3) (i := 91) rfl))))) rfl
theorem kt_572 : Cond.fieldLink "RoomHoursModel" 44 "RoomHoursModel" "windowRoom" "[I" ∈ kT := kT_in (List.mem_append_right _ (List.mem_append_right _ (List.mem_append_right _ (List.mem_append_left _ (List.mem_of_getElem? (l := tables_1_3) (i := 92) rfl))))) rfl
theorem kt_573 : Cond.fieldLink "RoomHoursModel" 47 "RoomHoursModel" "windowSide" "[I" ∈ kT := kT_in (List.mem_append_right _ (List.mem_append_right _ (List.mem_append_right _ (List.mem_append_left _ (List.mem_of_getElem? (l := tables_1_3) (i := 93) rfl))))) rfl
theorem kt_574 : Cond.fieldLink "RoomHoursModel" 50 "RoomHoursModel" "windowArea" "[I" ∈ kT := kT_in (List.mem_append_right _ (List.mem_append_right _ (List.mem_append_right _ (List.mem_append_left _ (List.mem_of_getElem? (l := tables_1_3) (i := 94) rfl))))) rfl
theorem kt_575 : Cond.fieldLink "RoomHoursModel" 53 "RoomHoursModel" "windowLimit" "[I" ∈ kT := kT_in (List.mem_append_right _ (List.mem_append_right _ (List.mem_append_right _ (List.mem_append_left _ (List.mem_of_getElem? (l := tables_1_3) (i := 95) rfl))))) rfl
theorem kt_576 : Cond.fieldLink "RoomHoursModel" 56 "RoomHoursModel" "outside" "[I" ∈ kT := kT_in (List.mem_append_right _ (List.mem_append_right _ (List.mem_append_right _ (List.mem_append_left _ (List.mem_of_getElem? (l := tables_1_3) (i := 96) rfl))))) rfl
theorem kt_577 : Cond.fieldLink "RoomHoursModel" 59 "RoomHoursModel" "sun" "[I" ∈ kT := kT_in (List.mem_append_right _ (List.mem_append_right _ (List.mem_append_right _ (List.mem_append_left _ (List.mem_of_getElem? (l := tables_1_3) (i := 97) rfl))))) rfl
theorem kt_578 : Cond.fieldLink "RoomHoursModel" 62 "RoomHoursModel" "persons" "[I" ∈ kT := kT_in (List.mem_append_right _ (List.mem_append_right _ (List.mem_append_right _ (List.mem_append_left _ (List.mem_of_getElem? (l := tables_1_3) (i := 98) rfl))))) rfl
theorem kt_579 : Cond.fieldLink "RoomHoursModel" 65 "RoomHoursModel" "set" "[I" ∈ kT := kT_in (List.mem_append_right _ (List.mem_append_right _ (List.mem_append_right _ (List.mem_append_left _ (List.mem_of_getElem? (l := tables_1_3) (i := 99) rfl))))) rfl
theorem kt_580 : Cond.fieldLink "RoomHoursModel" 68 "RoomHoursModel" "cool" "[I" ∈ kT := kT_in (List.mem_append_right _ (List.mem_append_right _ (List.mem_append_right _ (List.mem_append_left _ (List.mem_of_getElem? (l := tables_1_3) (i := 100) rfl))))) rfl
theorem kt_581 : Cond.fieldLink "RoomHoursModel" 116 "RoomHoursModel" "low" "I" ∈ kT := kT_in (List.mem_append_right _ (List.mem_append_right _ (List.mem_append_right _ (List.mem_append_left _ (List.mem_of_getElem? (l := tables_1_3) (i := 101) rfl))))) rfl
theorem kt_582 : Cond.fieldLink "RoomHoursModel" 119 "RoomHoursModel" "high" "I" ∈ kT := kT_in (List.mem_append_right _ (List.mem_append_right _ (List.mem_append_right _ (List.mem_append_left _ (List.mem_of_getElem? (l := tables_1_3) (i := 102) rfl))))) rfl
theorem kt_583 : Cond.fieldLink "RoomHoursModel" 139 "RoomHoursModel" "now" "I" ∈ kT := kT_in (List.mem_append_right _ (List.mem_append_right _ (List.mem_append_right _ (List.mem_append_left _ (List.mem_of_getElem? (l := tables_1_3) (i := 103) rfl))))) rfl
theorem kt_584 : Cond.fieldLink "RoomHoursModel" 133 "RoomHoursModel" "bySun" "J" ∈ kT := kT_in (List.mem_append_right _ (List.mem_append_right _ (List.mem_append_right _ (List.mem_append_left _ (List.mem_of_getElem? (l := tables_1_3) (i := 104) rfl))))) rfl
theorem kt_585 : Cond.fieldLink "RoomHoursModel" 136 "RoomHoursModel" "byPersons" "J" ∈ kT := kT_in (List.mem_append_right _ (List.mem_append_right _ (List.mem_append_right _ (List.mem_append_left _ (List.mem_of_getElem? (l := tables_1_3) (i := 105) rfl))))) rfl
theorem kt_586 : Cond.fieldLink "RoomHoursModel" 130 "RoomHoursModel" "out" "J" ∈ kT := kT_in (List.mem_append_right _ (List.mem_append_right _ (List.mem_append_right _ (List.mem_append_left _ (List.mem_of_getElem? (l := tables_1_3) (i := 106) rfl))))) rfl
theorem kt_587 : Cond.fieldLink "RoomHoursModel" 71 "RoomHoursModel" "warmth" "[J" ∈ kT := kT_in (List.mem_append_right _ (List.mem_append_right _ (List.mem_append_right _ (List.mem_append_left _ (List.mem_of_getElem? (l := tables_1_3) (i := 107) rfl))))) rfl
theorem kt_588 : Cond.fieldLink "RoomHoursModel" 74 "RoomHoursModel" "triedRoom" "I" ∈ kT := kT_in (List.mem_append_right _ (List.mem_append_right _ (List.mem_append_right _ (List.mem_append_left _ (List.mem_of_getElem? (l := tables_1_3) (i := 108) rfl))))) rfl
theorem kt_589 : Cond.fieldLink "RoomHoursModel" 149 "RoomHoursModel" "triedWarmth" "I" ∈ kT := kT_in (List.mem_append_right _ (List.mem_append_right _ (List.mem_append_right _ (List.mem_append_left _ (List.mem_of_getElem? (l := tables_1_3) (i := 109) rfl))))) rfl
theorem kt_590 : Cond.fieldLink "RoomHoursModel" 146 "RoomHoursModel" "triedFrom" "I" ∈ kT := kT_in (List.mem_append_right _ (List.mem_append_right _ (List.mem_append_right _ (List.mem_append_left _ (List.mem_of_getElem? (l := tables_1_3) (i := 110) rfl))))) rfl
theorem kt_591 : Cond.fieldLink "RoomHoursModel" 152 "RoomHoursModel" "wasLow" "Z" ∈ kT := kT_in (List.mem_append_right _ (List.mem_append_right _ (List.mem_append_right _ (List.mem_append_left _ (List.mem_of_getElem? (l := tables_1_3) (i := 111) rfl))))) rfl
theorem kt_592 : Cond.fieldLink "RoomHoursModel" 78 "RoomHoursModel" "kept" "[J" ∈ kT := kT_in (List.mem_append_right _ (List.mem_append_right _ (List.mem_append_right _ (List.mem_append_left _ (List.mem_of_getElem? (l := tables_1_3) (i := 112) rfl))))) rfl
theorem kt_668 : Cond.methodLink "RoomHoursLaw" 72 yM_thrown ∈ kT := kT_in (List.mem_append_right _ (List.mem_append_right _ (List.mem_append_right _ (List.mem_append_left _ (List.mem_of_getElem? (l := tables_1_3) (i := 188) rfl))))) rfl
theorem kt_669 : Cond.instanceMethod yM_thrown ∈ kT := kT_in (List.mem_append_right _ (List.mem_append_right _ (List.mem_append_right _ (List.mem_append_left _ (List.mem_of_getElem? (l := tables_1_3) (i := 189) rfl))))) rfl
theorem kt_670 : Cond.selects "RoomHoursModel" yM_thrown yM_thrown ∈ kT := kT_in (List.mem_append_right _ (List.mem_append_right _ (List.mem_append_right _ (List.mem_append_left _ (List.mem_of_getElem? (l := tables_1_3) (i := 190) rfl))))) rfl
theorem kt_671 : Cond.code yM_thrown prog_5_method_2_code 1 (Option.some Jvm.ClassFile.FieldType.int) ∈ kT := kT_in (List.mem_append_right _ (List.mem_append_right _ (List.mem_append_right _ (List.mem_append_left _ (List.mem_of_getElem? (l := tables_1_3) (i := 191) rfl))))) rfl
theorem kt_672 : Cond.methodLink "RoomHoursLaw" 71 yM_room ∈ kT := kT_in (List.mem_append_right _ (List.mem_append_right _ (List.mem_append_right _ (List.mem_append_left _ (List.mem_of_getElem? (l := tables_1_3) (i := 192) rfl))))) rfl
theorem kt_673 : Cond.instanceMethod yM_room ∈ kT := kT_in (List.mem_append_right _ (List.mem_append_right _ (List.mem_append_right _ (List.mem_append_left _ (List.mem_of_getElem? (l := tables_1_3) (i := 193) rfl))))) rfl
theorem kt_674 : Cond.selects "RoomHoursModel" yM_room yM_room ∈ kT := kT_in (List.mem_append_right _ (List.mem_append_right _ (List.mem_append_right _ (List.mem_append_left _ (List.mem_of_getElem? (l := tables_1_3) (i := 194) rfl))))) rfl
theorem kt_675 : Cond.code yM_room prog_5_method_7_code 3 (Option.some Jvm.ClassFile.FieldType.int) ∈ kT := kT_in (List.mem_append_right _ (List.mem_append_right _ (List.mem_append_right _ (List.mem_append_left _ (List.mem_of_getElem? (l := tables_1_3) (i := 195) rfl))))) rfl
theorem kt_676 : Cond.methodLink "RoomHoursModel" 85 yM_in ∈ kT := kT_in (List.mem_append_right _ (List.mem_append_right _ (List.mem_append_right _ (List.mem_append_left _ (List.mem_of_getElem? (l := tables_1_3) (i := 196) rfl))))) rfl
theorem kt_677 : Cond.static yM_in ∈ kT := kT_in (List.mem_append_right _ (List.mem_append_right _ (List.mem_append_right _ (List.mem_append_left _ (List.mem_of_getElem? (l := tables_1_3) (i := 197) rfl))))) rfl
theorem kt_678 : Cond.code yM_in prog_5_method_3_code 3 (Option.some Jvm.ClassFile.FieldType.boolean) ∈ kT := kT_in (List.mem_append_right _ (List.mem_append_right _ (List.mem_append_right _ (List.mem_append_left _ (List.mem_of_getElem? (l := tables_1_3) (i := 198) rfl))))) rfl
theorem kt_679 : Cond.methodLink "RoomHoursModel" 92 yM_isWarmth ∈ kT := kT_in (List.mem_append_right _ (List.mem_append_right _ (List.mem_append_right _ (List.mem_append_left _ (List.mem_of_getElem? (l := tables_1_3) (i := 199) rfl))))) rfl
theorem kt_680 : Cond.static yM_isWarmth ∈ kT := kT_in (List.mem_append_right _ (List.mem_append_right _ (List.mem_append_right _ (List.mem_append_left _ (List.mem_of_getElem? (l := tables_1_3) (i := 200) rfl))))) rfl
theorem kt_681 : Cond.code yM_isWarmth prog_5_method_4_code 1 (Option.some Jvm.ClassFile.FieldType.boolean) ∈ kT := kT_in (List.mem_append_right _ (List.mem_append_right _ (List.mem_append_right _ (List.mem_append_left _ (List.mem_of_getElem? (l := tables_1_3) (i := 201) rfl))))) rfl
theorem kt_682 : Cond.methodLink "RoomHoursLaw" 79 yM_wall ∈ kT := kT_in (List.mem_append_right _ (List.mem_append_right _ (List.mem_append_right _ (List.mem_append_left _ (List.mem_of_getElem? (l := tables_1_3) (i := 202) rfl))))) rfl
theorem kt_683 : Cond.instanceMethod yM_wall ∈ kT := kT_in (List.mem_append_right _ (List.mem_append_right _ (List.mem_append_right _ (List.mem_append_left _ (List.mem_of_getElem? (l := tables_1_3) (i := 203) rfl))))) rfl
theorem kt_684 : Cond.selects "RoomHoursModel" yM_wall yM_wall ∈ kT := kT_in (List.mem_append_right _ (List.mem_append_right _ (List.mem_append_right _ (List.mem_append_left _ (List.mem_of_getElem? (l := tables_1_3) (i := 204) rfl))))) rfl
theorem kt_685 : Cond.code yM_wall prog_5_method_9_code 5 (Option.some Jvm.ClassFile.FieldType.int) ∈ kT := kT_in (List.mem_append_right _ (List.mem_append_right _ (List.mem_append_right _ (List.mem_append_left _ (List.mem_of_getElem? (l := tables_1_3) (i := 205) rfl))))) rfl
theorem kt_686 : Cond.methodLink "RoomHoursModel" 105 yM_isRoom ∈ kT := kT_in (List.mem_append_right _ (List.mem_append_right _ (List.mem_append_right _ (List.mem_append_left _ (List.mem_of_getElem? (l := tables_1_3) (i := 206) rfl))))) rfl
theorem kt_688 : Cond.instanceMethod yM_isRoom ∈ kT := kT_in (List.mem_append_right _ (List.mem_append_right _ (List.mem_append_right _ (List.mem_append_left _ (List.mem_of_getElem? (l := tables_1_3) (i := 208) rfl))))) rfl
theorem kt_689 : Cond.code yM_isRoom prog_5_method_5_code 2 (Option.some Jvm.ClassFile.FieldType.boolean) ∈ kT := kT_in (List.mem_append_right _ (List.mem_append_right _ (List.mem_append_right _ (List.mem_append_left _ (List.mem_of_getElem? (l := tables_1_3) (i := 209) rfl))))) rfl
theorem kt_690 : Cond.methodLink "RoomHoursModel" 108 yM_isTooMuch ∈ kT := kT_in (List.mem_append_right _ (List.mem_append_right _ (List.mem_append_right _ (List.mem_append_left _ (List.mem_of_getElem? (l := tables_1_3) (i := 210) rfl))))) rfl
theorem kt_692 : Cond.instanceMethod yM_isTooMuch ∈ kT := kT_in (List.mem_append_right _ (List.mem_append_right _ (List.mem_append_right _ (List.mem_append_left _ (List.mem_of_getElem? (l := tables_1_3) (i := 212) rfl))))) rfl
theorem kt_693 : Cond.code yM_isTooMuch prog_5_method_8_code 6 (Option.some Jvm.ClassFile.FieldType.boolean) ∈ kT := kT_in (List.mem_append_right _ (List.mem_append_right _ (List.mem_append_right _ (List.mem_append_left _ (List.mem_of_getElem? (l := tables_1_3) (i := 213) rfl))))) rfl
theorem kt_694 : Cond.constantLong "RoomHoursModel" 103 (100 : Int64) ∈ kT := kT_in (List.mem_append_right _ (List.mem_append_right _ (List.mem_append_right _ (List.mem_append_left _ (List.mem_of_getElem? (l := tables_1_3) (i := 214) rfl))))) rfl
theorem kt_695 : Cond.methodLink "RoomHoursLaw" 82 yM_leads ∈ kT := kT_in (List.mem_append_right _ (List.mem_append_right _ (List.mem_append_right _ (List.mem_append_left _ (List.mem_of_getElem? (l := tables_1_3) (i := 215) rfl))))) rfl
theorem kt_696 : Cond.instanceMethod yM_leads ∈ kT := kT_in (List.mem_append_right _ (List.mem_append_right _ (List.mem_append_right _ (List.mem_append_left _ (List.mem_of_getElem? (l := tables_1_3) (i := 216) rfl))))) rfl
theorem kt_697 : Cond.selects "RoomHoursModel" yM_leads yM_leads ∈ kT := kT_in (List.mem_append_right _ (List.mem_append_right _ (List.mem_append_right _ (List.mem_append_left _ (List.mem_of_getElem? (l := tables_1_3) (i := 217) rfl))))) rfl
theorem kt_698 : Cond.code yM_leads prog_5_method_10_code 5 (Option.some Jvm.ClassFile.FieldType.int) ∈ kT := kT_in (List.mem_append_right _ (List.mem_append_right _ (List.mem_append_right _ (List.mem_append_left _ (List.mem_of_getElem? (l := tables_1_3) (i := 218) rfl))))) rfl
theorem kt_699 : Cond.methodLink "RoomHoursLaw" 86 yM_window ∈ kT := kT_in (List.mem_append_right _ (List.mem_append_right _ (List.mem_append_right _ (List.mem_append_left _ (List.mem_of_getElem? (l := tables_1_3) (i := 219) rfl))))) rfl
theorem kt_700 : Cond.instanceMethod yM_window ∈ kT := kT_in (List.mem_append_right _ (List.mem_append_right _ (List.mem_append_right _ (List.mem_append_left _ (List.mem_of_getElem? (l := tables_1_3) (i := 220) rfl))))) rfl
theorem kt_701 : Cond.selects "RoomHoursModel" yM_window yM_window ∈ kT := kT_in (List.mem_append_right _ (List.mem_append_right _ (List.mem_append_right _ (List.mem_append_left _ (List.mem_of_getElem? (l := tables_1_3) (i := 221) rfl))))) rfl
theorem kt_702 : Cond.code yM_window prog_5_method_11_code 6 (Option.some Jvm.ClassFile.FieldType.int) ∈ kT := kT_in (List.mem_append_right _ (List.mem_append_right _ (List.mem_append_right _ (List.mem_append_left _ (List.mem_of_getElem? (l := tables_1_3) (i := 222) rfl))))) rfl
theorem kt_703 : Cond.methodLink "RoomHoursLaw" 89 yM_outside ∈ kT := kT_in (List.mem_append_right _ (List.mem_append_right _ (List.mem_append_right _ (List.mem_append_left _ (List.mem_of_getElem? (l := tables_1_3) (i := 223) rfl))))) rfl
theorem kt_704 : Cond.instanceMethod yM_outside ∈ kT := kT_in (List.mem_append_right _ (List.mem_append_right _ (List.mem_append_right _ (List.mem_append_left _ (List.mem_of_getElem? (l := tables_1_3) (i := 224) rfl))))) rfl
theorem kt_705 : Cond.selects "RoomHoursModel" yM_outside yM_outside ∈ kT := kT_in (List.mem_append_right _ (List.mem_append_right _ (List.mem_append_right _ (List.mem_append_left _ (List.mem_of_getElem? (l := tables_1_3) (i := 225) rfl))))) rfl
theorem kt_706 : Cond.code yM_outside prog_5_method_12_code 4 (Option.some Jvm.ClassFile.FieldType.int) ∈ kT := kT_in (List.mem_append_right _ (List.mem_append_right _ (List.mem_append_right _ (List.mem_append_left _ (List.mem_of_getElem? (l := tables_1_3) (i := 226) rfl))))) rfl
theorem kt_707 : Cond.methodLink "RoomHoursLaw" 92 yM_sun ∈ kT := kT_in (List.mem_append_right _ (List.mem_append_right _ (List.mem_append_right _ (List.mem_append_left _ (List.mem_of_getElem? (l := tables_1_3) (i := 227) rfl))))) rfl
theorem kt_708 : Cond.instanceMethod yM_sun ∈ kT := kT_in (List.mem_append_right _ (List.mem_append_right _ (List.mem_append_right _ (List.mem_append_left _ (List.mem_of_getElem? (l := tables_1_3) (i := 228) rfl))))) rfl
theorem kt_709 : Cond.selects "RoomHoursModel" yM_sun yM_sun ∈ kT := kT_in (List.mem_append_right _ (List.mem_append_right _ (List.mem_append_right _ (List.mem_append_left _ (List.mem_of_getElem? (l := tables_1_3) (i := 229) rfl))))) rfl
theorem kt_710 : Cond.code yM_sun prog_5_method_13_code 5 (Option.some Jvm.ClassFile.FieldType.int) ∈ kT := kT_in (List.mem_append_right _ (List.mem_append_right _ (List.mem_append_right _ (List.mem_append_left _ (List.mem_of_getElem? (l := tables_1_3) (i := 230) rfl))))) rfl
theorem kt_711 : Cond.methodLink "RoomHoursLaw" 95 yM_plan ∈ kT := kT_in (List.mem_append_right _ (List.mem_append_right _ (List.mem_append_right _ (List.mem_append_left _ (List.mem_of_getElem? (l := tables_1_3) (i := 231) rfl))))) rfl
theorem kt_712 : Cond.instanceMethod yM_plan ∈ kT := kT_in (List.mem_append_right _ (List.mem_append_right _ (List.mem_append_right _ (List.mem_append_left _ (List.mem_of_getElem? (l := tables_1_3) (i := 232) rfl))))) rfl
theorem kt_713 : Cond.selects "RoomHoursModel" yM_plan yM_plan ∈ kT := kT_in (List.mem_append_right _ (List.mem_append_right _ (List.mem_append_right _ (List.mem_append_left _ (List.mem_of_getElem? (l := tables_1_3) (i := 233) rfl))))) rfl
theorem kt_714 : Cond.code yM_plan prog_5_method_14_code 8 (Option.some Jvm.ClassFile.FieldType.int) ∈ kT := kT_in (List.mem_append_right _ (List.mem_append_right _ (List.mem_append_right _ (List.mem_append_left _ (List.mem_of_getElem? (l := tables_1_3) (i := 234) rfl))))) rfl
theorem kt_715 : Cond.methodLink "RoomHoursLaw" 98 yM_most ∈ kT := kT_in (List.mem_append_right _ (List.mem_append_right _ (List.mem_append_right _ (List.mem_append_left _ (List.mem_of_getElem? (l := tables_1_3) (i := 235) rfl))))) rfl
theorem kt_716 : Cond.instanceMethod yM_most ∈ kT := kT_in (List.mem_append_right _ (List.mem_append_right _ (List.mem_append_right _ (List.mem_append_left _ (List.mem_of_getElem? (l := tables_1_3) (i := 236) rfl))))) rfl
theorem kt_717 : Cond.selects "RoomHoursModel" yM_most yM_most ∈ kT := kT_in (List.mem_append_right _ (List.mem_append_right _ (List.mem_append_right _ (List.mem_append_left _ (List.mem_of_getElem? (l := tables_1_3) (i := 237) rfl))))) rfl
theorem kt_718 : Cond.code yM_most prog_5_method_15_code 5 (Option.some Jvm.ClassFile.FieldType.int) ∈ kT := kT_in (List.mem_append_right _ (List.mem_append_right _ (List.mem_append_right _ (List.mem_append_left _ (List.mem_of_getElem? (l := tables_1_3) (i := 238) rfl))))) rfl
theorem kt_719 : Cond.constant "RoomHoursModel" 115 (1000000) ∈ kT := kT_in (List.mem_append_right _ (List.mem_append_right _ (List.mem_append_right _ (List.mem_append_left _ (List.mem_of_getElem? (l := tables_1_3) (i := 239) rfl))))) rfl
theorem kt_720 : Cond.methodLink "RoomHoursLaw" 102 yM_ease ∈ kT := kT_in (List.mem_append_right _ (List.mem_append_right _ (List.mem_append_right _ (List.mem_append_right _ (List.mem_of_getElem? (l := tables_1_4) (i := 0) rfl))))) rfl
theorem kt_721 : Cond.instanceMethod yM_ease ∈ kT := kT_in (List.mem_append_right _ (List.mem_append_right _ (List.mem_append_right _ (List.mem_append_right _ (List.mem_of_getElem? (l := tables_1_4) (i := 1) rfl))))) rfl
theorem kt_722 : Cond.selects "RoomHoursModel" yM_ease yM_ease ∈ kT := kT_in (List.mem_append_right _ (List.mem_append_right _ (List.mem_append_right _ (List.mem_append_right _ (List.mem_of_getElem? (l := tables_1_4) (i := 2) rfl))))) rfl
theorem kt_723 : Cond.code yM_ease prog_5_method_16_code 3 (Option.none : Option Jvm.ClassFile.FieldType) ∈ kT := kT_in (List.mem_append_right _ (List.mem_append_right _ (List.mem_append_right _ (List.mem_append_right _ (List.mem_of_getElem? (l := tables_1_4) (i := 3) rfl))))) rfl
theorem kt_724 : Cond.methodLink "RoomHoursLaw" 106 yM_run ∈ kT := kT_in (List.mem_append_right _ (List.mem_append_right _ (List.mem_append_right _ (List.mem_append_right _ (List.mem_of_getElem? (l := tables_1_4) (i := 4) rfl))))) rfl
theorem kt_725 : Cond.instanceMethod yM_run ∈ kT := kT_in (List.mem_append_right _ (List.mem_append_right _ (List.mem_append_right _ (List.mem_append_right _ (List.mem_of_getElem? (l := tables_1_4) (i := 5) rfl))))) rfl
theorem kt_726 : Cond.selects "RoomHoursModel" yM_run yM_run ∈ kT := kT_in (List.mem_append_right _ (List.mem_append_right _ (List.mem_append_right _ (List.mem_append_right _ (List.mem_of_getElem? (l := tables_1_4) (i := 6) rfl))))) rfl
theorem kt_727 : Cond.code yM_run prog_5_method_20_code 3 (Option.some Jvm.ClassFile.FieldType.int) ∈ kT := kT_in (List.mem_append_right _ (List.mem_append_right _ (List.mem_append_right _ (List.mem_append_right _ (List.mem_of_getElem? (l := tables_1_4) (i := 7) rfl))))) rfl
theorem kt_728 : Cond.constant "RoomHoursModel" 156 (100000) ∈ kT := kT_in (List.mem_append_right _ (List.mem_append_right _ (List.mem_append_right _ (List.mem_append_right _ (List.mem_of_getElem? (l := tables_1_4) (i := 8) rfl))))) rfl
theorem kt_729 : Cond.methodLink "RoomHoursModel" 157 yM_step ∈ kT := kT_in (List.mem_append_right _ (List.mem_append_right _ (List.mem_append_right _ (List.mem_append_right _ (List.mem_of_getElem? (l := tables_1_4) (i := 9) rfl))))) rfl
theorem kt_731 : Cond.instanceMethod yM_step ∈ kT := kT_in (List.mem_append_right _ (List.mem_append_right _ (List.mem_append_right _ (List.mem_append_right _ (List.mem_of_getElem? (l := tables_1_4) (i := 11) rfl))))) rfl
theorem kt_732 : Cond.code yM_step prog_5_method_19_code 13 (Option.none : Option Jvm.ClassFile.FieldType) ∈ kT := kT_in (List.mem_append_right _ (List.mem_append_right _ (List.mem_append_right _ (List.mem_append_right _ (List.mem_of_getElem? (l := tables_1_4) (i := 12) rfl))))) rfl
theorem kt_733 : Cond.methodLink "RoomHoursModel" 142 yM_flows ∈ kT := kT_in (List.mem_append_right _ (List.mem_append_right _ (List.mem_append_right _ (List.mem_append_right _ (List.mem_of_getElem? (l := tables_1_4) (i := 13) rfl))))) rfl
theorem kt_735 : Cond.instanceMethod yM_flows ∈ kT := kT_in (List.mem_append_right _ (List.mem_append_right _ (List.mem_append_right _ (List.mem_append_right _ (List.mem_of_getElem? (l := tables_1_4) (i := 15) rfl))))) rfl
theorem kt_736 : Cond.code yM_flows prog_5_method_18_code 7 (Option.none : Option Jvm.ClassFile.FieldType) ∈ kT := kT_in (List.mem_append_right _ (List.mem_append_right _ (List.mem_append_right _ (List.mem_append_right _ (List.mem_of_getElem? (l := tables_1_4) (i := 16) rfl))))) rfl
theorem kt_737 : Cond.methodLink "RoomHoursModel" 126 yM_warmthOf ∈ kT := kT_in (List.mem_append_right _ (List.mem_append_right _ (List.mem_append_right _ (List.mem_append_right _ (List.mem_of_getElem? (l := tables_1_4) (i := 17) rfl))))) rfl
theorem kt_739 : Cond.instanceMethod yM_warmthOf ∈ kT := kT_in (List.mem_append_right _ (List.mem_append_right _ (List.mem_append_right _ (List.mem_append_right _ (List.mem_of_getElem? (l := tables_1_4) (i := 19) rfl))))) rfl
theorem kt_740 : Cond.code yM_warmthOf prog_5_method_17_code 2 (Option.some Jvm.ClassFile.FieldType.long) ∈ kT := kT_in (List.mem_append_right _ (List.mem_append_right _ (List.mem_append_right _ (List.mem_append_right _ (List.mem_of_getElem? (l := tables_1_4) (i := 20) rfl))))) rfl
theorem kt_741 : Cond.methodLink "RoomHoursModel" 122 yM_floor ∈ kT := kT_in (List.mem_append_right _ (List.mem_append_right _ (List.mem_append_right _ (List.mem_append_right _ (List.mem_of_getElem? (l := tables_1_4) (i := 21) rfl))))) rfl
theorem kt_742 : Cond.static yM_floor ∈ kT := kT_in (List.mem_append_right _ (List.mem_append_right _ (List.mem_append_right _ (List.mem_append_right _ (List.mem_of_getElem? (l := tables_1_4) (i := 22) rfl))))) rfl
theorem kt_743 : Cond.code yM_floor prog_5_method_6_code 5 (Option.some Jvm.ClassFile.FieldType.long) ∈ kT := kT_in (List.mem_append_right _ (List.mem_append_right _ (List.mem_append_right _ (List.mem_append_right _ (List.mem_of_getElem? (l := tables_1_4) (i := 23) rfl))))) rfl
theorem kt_744 : Cond.methodLink "RoomHoursLaw" 109 yM_told ∈ kT := kT_in (List.mem_append_right _ (List.mem_append_right _ (List.mem_append_right _ (List.mem_append_right _ (List.mem_of_getElem? (l := tables_1_4) (i := 24) rfl))))) rfl
theorem kt_745 : Cond.instanceMethod yM_told ∈ kT := kT_in (List.mem_append_right _ (List.mem_append_right _ (List.mem_append_right _ (List.mem_append_right _ (List.mem_of_getElem? (l := tables_1_4) (i := 25) rfl))))) rfl
theorem kt_746 : Cond.selects "RoomHoursModel" yM_told yM_told ∈ kT := kT_in (List.mem_append_right _ (List.mem_append_right _ (List.mem_append_right _ (List.mem_append_right _ (List.mem_of_getElem? (l := tables_1_4) (i := 26) rfl))))) rfl
theorem kt_747 : Cond.code yM_told prog_5_method_21_code 3 (Option.some Jvm.ClassFile.FieldType.long) ∈ kT := kT_in (List.mem_append_right _ (List.mem_append_right _ (List.mem_append_right _ (List.mem_append_right _ (List.mem_of_getElem? (l := tables_1_4) (i := 27) rfl))))) rfl
theorem kt_748 : Cond.methodLink "RoomHoursLaw" 112 yM_balance ∈ kT := kT_in (List.mem_append_right _ (List.mem_append_right _ (List.mem_append_right _ (List.mem_append_right _ (List.mem_of_getElem? (l := tables_1_4) (i := 28) rfl))))) rfl
theorem kt_749 : Cond.instanceMethod yM_balance ∈ kT := kT_in (List.mem_append_right _ (List.mem_append_right _ (List.mem_append_right _ (List.mem_append_right _ (List.mem_of_getElem? (l := tables_1_4) (i := 29) rfl))))) rfl
theorem kt_750 : Cond.selects "RoomHoursModel" yM_balance yM_balance ∈ kT := kT_in (List.mem_append_right _ (List.mem_append_right _ (List.mem_append_right _ (List.mem_append_right _ (List.mem_of_getElem? (l := tables_1_4) (i := 30) rfl))))) rfl
theorem kt_751 : Cond.code yM_balance prog_5_method_22_code 5 (Option.some Jvm.ClassFile.FieldType.long) ∈ kT := kT_in (List.mem_append_right _ (List.mem_append_right _ (List.mem_append_right _ (List.mem_append_right _ (List.mem_of_getElem? (l := tables_1_4) (i := 31) rfl))))) rfl
theorem kt_752 : Cond.methodLink "RoomHoursLaw" 115 yM_early ∈ kT := kT_in (List.mem_append_right _ (List.mem_append_right _ (List.mem_append_right _ (List.mem_append_right _ (List.mem_of_getElem? (l := tables_1_4) (i := 32) rfl))))) rfl
theorem kt_753 : Cond.instanceMethod yM_early ∈ kT := kT_in (List.mem_append_right _ (List.mem_append_right _ (List.mem_append_right _ (List.mem_append_right _ (List.mem_of_getElem? (l := tables_1_4) (i := 33) rfl))))) rfl
theorem kt_754 : Cond.selects "RoomHoursModel" yM_early yM_early ∈ kT := kT_in (List.mem_append_right _ (List.mem_append_right _ (List.mem_append_right _ (List.mem_append_right _ (List.mem_of_getElem? (l := tables_1_4) (i := 34) rfl))))) rfl
theorem kt_755 : Cond.code yM_early prog_5_method_25_code 7 (Option.some Jvm.ClassFile.FieldType.int) ∈ kT := kT_in (List.mem_append_right _ (List.mem_append_right _ (List.mem_append_right _ (List.mem_append_right _ (List.mem_of_getElem? (l := tables_1_4) (i := 35) rfl))))) rfl
theorem kt_756 : Cond.methodLink "RoomHoursModel" 160 yM_keep ∈ kT := kT_in (List.mem_append_right _ (List.mem_append_right _ (List.mem_append_right _ (List.mem_append_right _ (List.mem_of_getElem? (l := tables_1_4) (i := 36) rfl))))) rfl
theorem kt_758 : Cond.instanceMethod yM_keep ∈ kT := kT_in (List.mem_append_right _ (List.mem_append_right _ (List.mem_append_right _ (List.mem_append_right _ (List.mem_of_getElem? (l := tables_1_4) (i := 38) rfl))))) rfl
theorem kt_759 : Cond.code yM_keep prog_5_method_23_code 2 (Option.none : Option Jvm.ClassFile.FieldType) ∈ kT := kT_in (List.mem_append_right _ (List.mem_append_right _ (List.mem_append_right _ (List.mem_append_right _ (List.mem_of_getElem? (l := tables_1_4) (i := 39) rfl))))) rfl
theorem kt_760 : Cond.methodLink "RoomHoursModel" 163 yM_putBack ∈ kT := kT_in (List.mem_append_right _ (List.mem_append_right _ (List.mem_append_right _ (List.mem_append_right _ (List.mem_of_getElem? (l := tables_1_4) (i := 40) rfl))))) rfl
theorem kt_762 : Cond.instanceMethod yM_putBack ∈ kT := kT_in (List.mem_append_right _ (List.mem_append_right _ (List.mem_append_right _ (List.mem_append_right _ (List.mem_of_getElem? (l := tables_1_4) (i := 42) rfl))))) rfl
theorem kt_763 : Cond.code yM_putBack prog_5_method_24_code 2 (Option.none : Option Jvm.ClassFile.FieldType) ∈ kT := kT_in (List.mem_append_right _ (List.mem_append_right _ (List.mem_append_right _ (List.mem_append_right _ (List.mem_of_getElem? (l := tables_1_4) (i := 43) rfl))))) rfl
theorem kt_764 : Cond.methodLink "RoomHoursLaw" 118 yM_strong ∈ kT := kT_in (List.mem_append_right _ (List.mem_append_right _ (List.mem_append_right _ (List.mem_append_right _ (List.mem_of_getElem? (l := tables_1_4) (i := 44) rfl))))) rfl
theorem kt_765 : Cond.instanceMethod yM_strong ∈ kT := kT_in (List.mem_append_right _ (List.mem_append_right _ (List.mem_append_right _ (List.mem_append_right _ (List.mem_of_getElem? (l := tables_1_4) (i := 45) rfl))))) rfl
theorem kt_766 : Cond.selects "RoomHoursModel" yM_strong yM_strong ∈ kT := kT_in (List.mem_append_right _ (List.mem_append_right _ (List.mem_append_right _ (List.mem_append_right _ (List.mem_of_getElem? (l := tables_1_4) (i := 46) rfl))))) rfl
theorem kt_767 : Cond.code yM_strong prog_5_method_26_code 7 (Option.some Jvm.ClassFile.FieldType.int) ∈ kT := kT_in (List.mem_append_right _ (List.mem_append_right _ (List.mem_append_right _ (List.mem_append_right _ (List.mem_of_getElem? (l := tables_1_4) (i := 47) rfl))))) rfl
theorem kt_768 : Cond.sameMethod "java/lang/Throwable" "java/lang/Throwable" "fillInStackTrace" "(I)Ljava/lang/Throwable;" ∈ kT := kT_in (List.mem_append_right _ (List.mem_append_right _ (List.mem_append_right _ (List.mem_append_right _ (List.mem_of_getElem? (l := tables_1_4) (i := 48) rfl))))) rfl
theorem ks_C_hourOfDay : Cond.selects "RoomHours$Course" yC_hourOfDay yC_hourOfDay ∈ kT := kT_in (List.mem_append_left _ (List.mem_of_getElem? (i := 1) rfl)) rfl
theorem ks_C_passWalls : Cond.selects "RoomHours$Course" yC_passWalls yC_passWalls ∈ kT := kT_in (List.mem_append_left _ (List.mem_of_getElem? (i := 2) rfl)) rfl
theorem ks_C_passWindows : Cond.selects "RoomHours$Course" yC_passWindows yC_passWindows ∈ kT := kT_in (List.mem_append_left _ (List.mem_of_getElem? (i := 3) rfl)) rfl
theorem ks_C_bringPersons : Cond.selects "RoomHours$Course" yC_bringPersons yC_bringPersons ∈ kT := kT_in (List.mem_append_left _ (List.mem_of_getElem? (i := 4) rfl)) rfl
theorem ks_C_planned : Cond.selects "RoomHours$Course" yC_planned yC_planned ∈ kT := kT_in (List.mem_append_left _ (List.mem_of_getElem? (i := 5) rfl)) rfl
theorem ks_C_heatUp : Cond.selects "RoomHours$Course" yC_heatUp yC_heatUp ∈ kT := kT_in (List.mem_append_left _ (List.mem_of_getElem? (i := 6) rfl)) rfl
theorem ks_C_setOf : Cond.selects "RoomHours$Course" yC_setOf yC_setOf ∈ kT := kT_in (List.mem_append_left _ (List.mem_of_getElem? (i := 7) rfl)) rfl
theorem ks_C_heatingOf : Cond.selects "RoomHours$Course" yC_heatingOf yC_heatingOf ∈ kT := kT_in (List.mem_append_left _ (List.mem_of_getElem? (i := 8) rfl)) rfl
theorem ks_C_coolDown : Cond.selects "RoomHours$Course" yC_coolDown yC_coolDown ∈ kT := kT_in (List.mem_append_left _ (List.mem_of_getElem? (i := 9) rfl)) rfl
theorem ks_C_hourEnds : Cond.selects "RoomHours$Course" yC_hourEnds yC_hourEnds ∈ kT := kT_in (List.mem_append_left _ (List.mem_of_getElem? (i := 10) rfl)) rfl
theorem ks_C_countUneasy : Cond.selects "RoomHours$Course" yC_countUneasy yC_countUneasy ∈ kT := kT_in (List.mem_append_left _ (List.mem_of_getElem? (i := 11) rfl)) rfl
theorem ks_C_hasPersons : Cond.selects "RoomHours$Course" yC_hasPersons yC_hasPersons ∈ kT := kT_in (List.mem_append_left _ (List.mem_of_getElem? (i := 12) rfl)) rfl
theorem ks_M_isRoom : Cond.selects "RoomHoursModel" yM_isRoom yM_isRoom ∈ kT := kT_in (List.mem_append_left _ (List.mem_of_getElem? (i := 13) rfl)) rfl
theorem ks_M_isTooMuch : Cond.selects "RoomHoursModel" yM_isTooMuch yM_isTooMuch ∈ kT := kT_in (List.mem_append_left _ (List.mem_of_getElem? (i := 14) rfl)) rfl
theorem ks_M_step : Cond.selects "RoomHoursModel" yM_step yM_step ∈ kT := kT_in (List.mem_append_left _ (List.mem_of_getElem? (i := 15) rfl)) rfl
theorem ks_M_flows : Cond.selects "RoomHoursModel" yM_flows yM_flows ∈ kT := kT_in (List.mem_append_left _ (List.mem_of_getElem? (i := 16) rfl)) rfl
theorem ks_M_warmthOf : Cond.selects "RoomHoursModel" yM_warmthOf yM_warmthOf ∈ kT := kT_in (List.mem_append_left _ (List.mem_of_getElem? (i := 17) rfl)) rfl
theorem ks_M_keep : Cond.selects "RoomHoursModel" yM_keep yM_keep ∈ kT := kT_in (List.mem_append_left _ (List.mem_of_getElem? (i := 18) rfl)) rfl
theorem ks_M_putBack : Cond.selects "RoomHoursModel" yM_putBack yM_putBack ∈ kT := kT_in (List.mem_append_left _ (List.mem_of_getElem? (i := 19) rfl)) rfl
theorem ku_C : ∀ w ∈ u_ws "RoomHours$Course" TC 18, w ∈ kT := by decide +kernel
theorem ku_H : ∀ w ∈ u_ws "RoomHours$House" TH 18, w ∈ kT := by decide +kernel
theorem ku_R : ∀ w ∈ u_ws "RoomHours" TR 3, w ∈ kT := by decide +kernel
theorem ku_M : ∀ w ∈ u_ws "RoomHoursModel" TM 37, w ∈ kT := by decide +kernel
