def RX0 : String := "HallHeating$Booking"
def TX0 : u_T := fun k => match k with
  | 0 => ("HallHeating$Booking", "room", "I", false)
  | 1 => ("HallHeating$Booking", "group", "I", false)
  | 2 => ("HallHeating$Booking", "first", "I", false)
  | 3 => ("HallHeating$Booking", "hours", "I", false)
  | 4 => ("HallHeating$Booking", "wanted", "I", false)
  | 5 => ("HallHeating$Booking", "begun", "Z", false)
  | 6 => ("HallHeating$Booking", "preheatDebt", "I", false)
  | 7 => ("HallHeating$Booking", "ownHeat", "I", false)
  | 8 => ("HallHeating$Booking", "marked", "Z", false)
  | _ => ("HallHeating$Booking", "coldHours", "I", false)
def tyX0 : Nat → FieldType := fun k => match k with
  | 0 => .int
  | 1 => .int
  | 2 => .int
  | 3 => .int
  | 4 => .int
  | 5 => .boolean
  | 6 => .int
  | 7 => .int
  | 8 => .boolean
  | _ => .int
theorem nmX0 : ∀ a, a < 10 → ∀ b, b < 10 → a ≠ b → (TX0 a).2.1 ≠ (TX0 b).2.1 := by decide +kernel
theorem tyX0_ok : ∀ k, k < 10 → parseFieldDescriptor (TX0 k).2.2.1 = some (tyX0 k) := by decide +kernel
abbrev cX0_init : ByteArray := prog_2_method_1_code
def yX0_init : MethodName := ⟨RX0, "<init>", "()V"⟩
abbrev cX0_become : ByteArray := prog_2_method_2_code
def yX0_become : MethodName := ⟨RX0, "become", "(IIIII)V"⟩
abbrev cX0_copyFrom : ByteArray := prog_2_method_3_code
def yX0_copyFrom : MethodName := ⟨RX0, "copyFrom", "(LHallHeating$Booking;)V"⟩
abbrev cX0_numberAbout : ByteArray := prog_2_method_4_code
def yX0_numberAbout : MethodName := ⟨RX0, "numberAbout", "(I)I"⟩
abbrev cX0_end : ByteArray := prog_2_method_5_code
def yX0_end : MethodName := ⟨RX0, "end", "()I"⟩
abbrev cX0_has : ByteArray := prog_2_method_6_code
def yX0_has : MethodName := ⟨RX0, "has", "(I)Z"⟩
abbrev cX0_isOver : ByteArray := prog_2_method_7_code
def yX0_isOver : MethodName := ⟨RX0, "isOver", "(I)Z"⟩
abbrev cX0_meets : ByteArray := prog_2_method_8_code
def yX0_meets : MethodName := ⟨RX0, "meets", "(II)Z"⟩
abbrev cX0_mayGo : ByteArray := prog_2_method_9_code
def yX0_mayGo : MethodName := ⟨RX0, "mayGo", "(I)Z"⟩
def RX1 : String := "HallHeating$Command"
def TX1 : u_T := fun k => match k with
  | 0 => ("HallHeating$Command", "kind", "I", false)
  | 1 => ("HallHeating$Command", "d2", "I", false)
  | 2 => ("HallHeating$Command", "d3", "I", false)
  | 3 => ("HallHeating$Command", "d4", "I", false)
  | _ => ("HallHeating$Command", "d5", "I", false)
def tyX1 : Nat → FieldType := fun k => match k with
  | 0 => .int
  | 1 => .int
  | 2 => .int
  | 3 => .int
  | _ => .int
theorem nmX1 : ∀ a, a < 5 → ∀ b, b < 5 → a ≠ b → (TX1 a).2.1 ≠ (TX1 b).2.1 := by decide +kernel
theorem tyX1_ok : ∀ k, k < 5 → parseFieldDescriptor (TX1 k).2.2.1 = some (tyX1 k) := by decide +kernel
abbrev cX1_init : ByteArray := prog_3_method_1_code
def yX1_init : MethodName := ⟨RX1, "<init>", "()V"⟩
abbrev cX1_withoutLast : ByteArray := prog_3_method_2_code
def yX1_withoutLast : MethodName := ⟨RX1, "withoutLast", "(JI)J"⟩
abbrev cX1_become : ByteArray := prog_3_method_3_code
def yX1_become : MethodName := ⟨RX1, "become", "(J)V"⟩
abbrev cX1_succeedsOn : ByteArray := prog_3_method_4_code
def yX1_succeedsOn : MethodName := ⟨RX1, "succeedsOn", "(LHallHeating$Hall;)Z"⟩
abbrev cX1_letsPass : ByteArray := prog_3_method_5_code
def yX1_letsPass : MethodName := ⟨RX1, "letsPass", "(LHallHeating$Hall;I)Z"⟩
abbrev cX1_changesOutdoors : ByteArray := prog_3_method_6_code
def yX1_changesOutdoors : MethodName := ⟨RX1, "changesOutdoors", "(LHallHeating$Hall;I)Z"⟩
abbrev cX1_proves : ByteArray := prog_3_method_7_code
def yX1_proves : MethodName := ⟨RX1, "proves", "(LHallHeating$Hall;)Z"⟩
abbrev cX1_pays : ByteArray := prog_3_method_8_code
def yX1_pays : MethodName := ⟨RX1, "pays", "(LHallHeating$Hall;)Z"⟩
abbrev cX1_cancels : ByteArray := prog_3_method_9_code
def yX1_cancels : MethodName := ⟨RX1, "cancels", "(LHallHeating$Hall;)Z"⟩
abbrev cX1_isAsWarm : ByteArray := prog_3_method_10_code
def yX1_isAsWarm : MethodName := ⟨RX1, "isAsWarm", "(LHallHeating$Room;I)Z"⟩
abbrev cX1_isOverOrNot : ByteArray := prog_3_method_11_code
def yX1_isOverOrNot : MethodName := ⟨RX1, "isOverOrNot", "(LHallHeating$Hall;)Z"⟩
def RX2 : String := "HallHeating$Hall"
def TX2 : u_T := fun k => match k with
  | 0 => ("HallHeating$Hall", "hour", "I", false)
  | 1 => ("HallHeating$Hall", "outdoors", "I", false)
  | 2 => ("HallHeating$Hall", "rooms", "[LHallHeating$Room;", true)
  | 3 => ("HallHeating$Hall", "roomCount", "I", false)
  | 4 => ("HallHeating$Hall", "owed", "[I", true)
  | 5 => ("HallHeating$Hall", "groupCount", "I", false)
  | 6 => ("HallHeating$Hall", "bookings", "[LHallHeating$Booking;", true)
  | 7 => ("HallHeating$Hall", "bookingCount", "I", false)
  | 8 => ("HallHeating$Hall", "meter", "I", false)
  | 9 => ("HallHeating$Hall", "groupCharges", "I", false)
  | 10 => ("HallHeating$Hall", "parishCharges", "I", false)
  | _ => ("HallHeating$Hall", "heatedHours", "I", false)
def tyX2 : Nat → FieldType := fun k => match k with
  | 0 => .int
  | 1 => .int
  | 2 => .array (.object "HallHeating$Room")
  | 3 => .int
  | 4 => .array .int
  | 5 => .int
  | 6 => .array (.object "HallHeating$Booking")
  | 7 => .int
  | 8 => .int
  | 9 => .int
  | 10 => .int
  | _ => .int
theorem nmX2 : ∀ a, a < 12 → ∀ b, b < 12 → a ≠ b → (TX2 a).2.1 ≠ (TX2 b).2.1 := by decide +kernel
theorem tyX2_ok : ∀ k, k < 12 → parseFieldDescriptor (TX2 k).2.2.1 = some (tyX2 k) := by decide +kernel
abbrev cX2_init : ByteArray := prog_4_method_1_code
def yX2_init : MethodName := ⟨RX2, "<init>", "()V"⟩
abbrev cX2_clear : ByteArray := prog_4_method_2_code
def yX2_clear : MethodName := ⟨RX2, "clear", "()V"⟩
abbrev cX2_copyFrom : ByteArray := prog_4_method_3_code
def yX2_copyFrom : MethodName := ⟨RX2, "copyFrom", "(LHallHeating$Hall;)V"⟩
abbrev cX2_numberAbout : ByteArray := prog_4_method_4_code
def yX2_numberAbout : MethodName := ⟨RX2, "numberAbout", "(I)I"⟩
abbrev cX2_findRoom : ByteArray := prog_4_method_5_code
def yX2_findRoom : MethodName := ⟨RX2, "findRoom", "(I)LHallHeating$Room;"⟩
abbrev cX2_hasGroup : ByteArray := prog_4_method_6_code
def yX2_hasGroup : MethodName := ⟨RX2, "hasGroup", "(I)Z"⟩
abbrev cX2_findBooking : ByteArray := prog_4_method_7_code
def yX2_findBooking : MethodName := ⟨RX2, "findBooking", "(I)LHallHeating$Booking;"⟩
abbrev cX2_newRoom : ByteArray := prog_4_method_8_code
def yX2_newRoom : MethodName := ⟨RX2, "newRoom", "(IIII)I"⟩
abbrev cX2_newGroup : ByteArray := prog_4_method_9_code
def yX2_newGroup : MethodName := ⟨RX2, "newGroup", "()I"⟩
abbrev cX2_hasPlaceFor : ByteArray := prog_4_method_10_code
def yX2_hasPlaceFor : MethodName := ⟨RX2, "hasPlaceFor", "(III)Z"⟩
abbrev cX2_newBooking : ByteArray := prog_4_method_11_code
def yX2_newBooking : MethodName := ⟨RX2, "newBooking", "(IIIII)I"⟩
abbrev cX2_removeBooking : ByteArray := prog_4_method_12_code
def yX2_removeBooking : MethodName := ⟨RX2, "removeBooking", "(I)V"⟩
abbrev cX2_bookingOfNow : ByteArray := prog_4_method_13_code
def yX2_bookingOfNow : MethodName := ⟨RX2, "bookingOfNow", "(I)I"⟩
abbrev cX2_nextBooking : ByteArray := prog_4_method_14_code
def yX2_nextBooking : MethodName := ⟨RX2, "nextBooking", "(I)I"⟩
abbrev cX2_heatingBooking : ByteArray := prog_4_method_15_code
def yX2_heatingBooking : MethodName := ⟨RX2, "heatingBooking", "(I)I"⟩
abbrev cX2_mustPreheat : ByteArray := prog_4_method_16_code
def yX2_mustPreheat : MethodName := ⟨RX2, "mustPreheat", "(LHallHeating$Room;LHallHeating$Booking;)Z"⟩
abbrev cX2_mark : ByteArray := prog_4_method_17_code
def yX2_mark : MethodName := ⟨RX2, "mark", "(IZ)V"⟩
abbrev cX2_markAll : ByteArray := prog_4_method_18_code
def yX2_markAll : MethodName := ⟨RX2, "markAll", "()V"⟩
abbrev cX2_owedBy : ByteArray := prog_4_method_19_code
def yX2_owedBy : MethodName := ⟨RX2, "owedBy", "(I)I"⟩
abbrev cX2_settle : ByteArray := prog_4_method_20_code
def yX2_settle : MethodName := ⟨RX2, "settle", "(I)I"⟩
abbrev cX2_letHoursPass : ByteArray := prog_4_method_21_code
def yX2_letHoursPass : MethodName := ⟨RX2, "letHoursPass", "(I)V"⟩
abbrev cX2_letHourPass : ByteArray := prog_4_method_22_code
def yX2_letHourPass : MethodName := ⟨RX2, "letHourPass", "()V"⟩
abbrev cX2_heatRoom : ByteArray := prog_4_method_23_code
def yX2_heatRoom : MethodName := ⟨RX2, "heatRoom", "(LHallHeating$Room;LHallHeating$Booking;)I"⟩
abbrev cX2_chargePreheat : ByteArray := prog_4_method_24_code
def yX2_chargePreheat : MethodName := ⟨RX2, "chargePreheat", "(LHallHeating$Booking;I)V"⟩
abbrev cX2_chargeOwnHour : ByteArray := prog_4_method_25_code
def yX2_chargeOwnHour : MethodName := ⟨RX2, "chargeOwnHour", "(LHallHeating$Booking;II)V"⟩
abbrev cX2_chargeGroup : ByteArray := prog_4_method_26_code
def yX2_chargeGroup : MethodName := ⟨RX2, "chargeGroup", "(II)V"⟩
abbrev cX2_leaveHeat : ByteArray := prog_4_method_27_code
def yX2_leaveHeat : MethodName := ⟨RX2, "leaveHeat", "(LHallHeating$Booking;)V"⟩
abbrev cX2_endOfBookings : ByteArray := prog_4_method_28_code
def yX2_endOfBookings : MethodName := ⟨RX2, "endOfBookings", "()I"⟩
abbrev cX2_coldestBooking : ByteArray := prog_4_method_29_code
def yX2_coldestBooking : MethodName := ⟨RX2, "coldestBooking", "()I"⟩
def RX3 : String := "HallHeating$HallText"
def TX3 : u_T := fun k => match k with
  | 0 => ("HallHeating$HallText", "signs", "[I", true)
  | 1 => ("HallHeating$HallText", "length", "I", false)
  | 2 => ("HallHeating$HallText", "at", "I", false)
  | _ => ("HallHeating$HallText", "error", "I", false)
def tyX3 : Nat → FieldType := fun k => match k with
  | 0 => .array .int
  | 1 => .int
  | 2 => .int
  | _ => .int
theorem nmX3 : ∀ a, a < 4 → ∀ b, b < 4 → a ≠ b → (TX3 a).2.1 ≠ (TX3 b).2.1 := by decide +kernel
theorem tyX3_ok : ∀ k, k < 4 → parseFieldDescriptor (TX3 k).2.2.1 = some (tyX3 k) := by decide +kernel
abbrev cX3_init : ByteArray := prog_5_method_1_code
def yX3_init : MethodName := ⟨RX3, "<init>", "()V"⟩
abbrev cX3_add : ByteArray := prog_5_method_2_code
def yX3_add : MethodName := ⟨RX3, "add", "(I)V"⟩
abbrev cX3_readInto : ByteArray := prog_5_method_3_code
def yX3_readInto : MethodName := ⟨RX3, "readInto", "(LHallHeating$Hall;)I"⟩
abbrev cX3_readPart : ByteArray := prog_5_method_4_code
def yX3_readPart : MethodName := ⟨RX3, "readPart", "(LHallHeating$Hall;)V"⟩
abbrev cX3_readRoom : ByteArray := prog_5_method_5_code
def yX3_readRoom : MethodName := ⟨RX3, "readRoom", "(LHallHeating$Hall;)V"⟩
abbrev cX3_readGroup : ByteArray := prog_5_method_6_code
def yX3_readGroup : MethodName := ⟨RX3, "readGroup", "(LHallHeating$Hall;)V"⟩
abbrev cX3_readOutdoors : ByteArray := prog_5_method_7_code
def yX3_readOutdoors : MethodName := ⟨RX3, "readOutdoors", "(LHallHeating$Hall;)V"⟩
abbrev cX3_readBooking : ByteArray := prog_5_method_8_code
def yX3_readBooking : MethodName := ⟨RX3, "readBooking", "(LHallHeating$Hall;)V"⟩
abbrev cX3_sign : ByteArray := prog_5_method_9_code
def yX3_sign : MethodName := ⟨RX3, "sign", "()I"⟩
abbrev cX3_require : ByteArray := prog_5_method_10_code
def yX3_require : MethodName := ⟨RX3, "require", "(Z)V"⟩
abbrev cX3_readNumber : ByteArray := prog_5_method_11_code
def yX3_readNumber : MethodName := ⟨RX3, "readNumber", "(III)I"⟩
def RX4 : String := "HallHeating$Memory"
def TX4 : u_T := fun k => match k with
  | 0 => ("HallHeating$Memory", "states", "[LHallHeating$Hall;", true)
  | 1 => ("HallHeating$Memory", "nextPlace", "I", false)
  | _ => ("HallHeating$Memory", "count", "I", false)
def tyX4 : Nat → FieldType := fun k => match k with
  | 0 => .array (.object "HallHeating$Hall")
  | 1 => .int
  | _ => .int
theorem nmX4 : ∀ a, a < 3 → ∀ b, b < 3 → a ≠ b → (TX4 a).2.1 ≠ (TX4 b).2.1 := by decide +kernel
theorem tyX4_ok : ∀ k, k < 3 → parseFieldDescriptor (TX4 k).2.2.1 = some (tyX4 k) := by decide +kernel
abbrev cX4_init : ByteArray := prog_6_method_1_code
def yX4_init : MethodName := ⟨RX4, "<init>", "()V"⟩
abbrev cX4_remember : ByteArray := prog_6_method_2_code
def yX4_remember : MethodName := ⟨RX4, "remember", "(LHallHeating$Hall;)V"⟩
abbrev cX4_takeBack : ByteArray := prog_6_method_3_code
def yX4_takeBack : MethodName := ⟨RX4, "takeBack", "(LHallHeating$Hall;)V"⟩
abbrev cX4_forgetAll : ByteArray := prog_6_method_4_code
def yX4_forgetAll : MethodName := ⟨RX4, "forgetAll", "()V"⟩
def RX5 : String := "HallHeating$Room"
def TX5 : u_T := fun k => match k with
  | 0 => ("HallHeating$Room", "size", "I", false)
  | 1 => ("HallHeating$Room", "loss", "I", false)
  | 2 => ("HallHeating$Room", "power", "I", false)
  | _ => ("HallHeating$Room", "temperature", "I", false)
def tyX5 : Nat → FieldType := fun k => match k with
  | 0 => .int
  | 1 => .int
  | 2 => .int
  | _ => .int
theorem nmX5 : ∀ a, a < 4 → ∀ b, b < 4 → a ≠ b → (TX5 a).2.1 ≠ (TX5 b).2.1 := by decide +kernel
theorem tyX5_ok : ∀ k, k < 4 → parseFieldDescriptor (TX5 k).2.2.1 = some (tyX5 k) := by decide +kernel
abbrev cX5_init : ByteArray := prog_7_method_1_code
def yX5_init : MethodName := ⟨RX5, "<init>", "()V"⟩
abbrev cX5_become : ByteArray := prog_7_method_2_code
def yX5_become : MethodName := ⟨RX5, "become", "(IIII)V"⟩
abbrev cX5_copyFrom : ByteArray := prog_7_method_3_code
def yX5_copyFrom : MethodName := ⟨RX5, "copyFrom", "(LHallHeating$Room;)V"⟩
abbrev cX5_numberAbout : ByteArray := prog_7_method_4_code
def yX5_numberAbout : MethodName := ⟨RX5, "numberAbout", "(I)I"⟩
abbrev cX5_cooled : ByteArray := prog_7_method_5_code
def yX5_cooled : MethodName := ⟨RX5, "cooled", "(I)I"⟩
abbrev cX5_warmTowards : ByteArray := prog_7_method_6_code
def yX5_warmTowards : MethodName := ⟨RX5, "warmTowards", "(I)I"⟩
def RX6 : String := "HallHeating"
def TX6 : u_T := fun k => match k with
  | 0 => ("HallHeating", "text", "LHallHeating$HallText;", true)
  | 1 => ("HallHeating", "hall", "LHallHeating$Hall;", true)
  | 2 => ("HallHeating", "memory", "LHallHeating$Memory;", true)
  | 3 => ("HallHeating", "slots", "[LHallHeating$Hall;", true)
  | 4 => ("HallHeating", "saved", "[Z", true)
  | 5 => ("HallHeating", "command", "LHallHeating$Command;", true)
  | 6 => ("HallHeating", "trial", "LHallHeating$Hall;", true)
  | _ => ("HallHeating", "secondTrial", "LHallHeating$Hall;", true)
def tyX6 : Nat → FieldType := fun k => match k with
  | 0 => .object "HallHeating$HallText"
  | 1 => .object "HallHeating$Hall"
  | 2 => .object "HallHeating$Memory"
  | 3 => .array (.object "HallHeating$Hall")
  | 4 => .array .boolean
  | 5 => .object "HallHeating$Command"
  | 6 => .object "HallHeating$Hall"
  | _ => .object "HallHeating$Hall"
theorem nmX6 : ∀ a, a < 8 → ∀ b, b < 8 → a ≠ b → (TX6 a).2.1 ≠ (TX6 b).2.1 := by decide +kernel
theorem tyX6_ok : ∀ k, k < 8 → parseFieldDescriptor (TX6 k).2.2.1 = some (tyX6 k) := by decide +kernel
abbrev cX6_init : ByteArray := prog_1_method_1_code
def yX6_init : MethodName := ⟨RX6, "<init>", "()V"⟩
abbrev cX6_append : ByteArray := prog_1_method_2_code
def yX6_append : MethodName := ⟨RX6, "append", "(I)I"⟩
abbrev cX6_clearText : ByteArray := prog_1_method_3_code
def yX6_clearText : MethodName := ⟨RX6, "clearText", "()I"⟩
abbrev cX6_errorPosition : ByteArray := prog_1_method_4_code
def yX6_errorPosition : MethodName := ⟨RX6, "errorPosition", "()I"⟩
abbrev cX6_load : ByteArray := prog_1_method_5_code
def yX6_load : MethodName := ⟨RX6, "load", "()I"⟩
abbrev cX6_about : ByteArray := prog_1_method_6_code
def yX6_about : MethodName := ⟨RX6, "about", "(I)I"⟩
abbrev cX6_room : ByteArray := prog_1_method_7_code
def yX6_room : MethodName := ⟨RX6, "room", "(II)I"⟩
abbrev cX6_owes : ByteArray := prog_1_method_8_code
def yX6_owes : MethodName := ⟨RX6, "owes", "(I)I"⟩
abbrev cX6_booking : ByteArray := prog_1_method_9_code
def yX6_booking : MethodName := ⟨RX6, "booking", "(II)I"⟩
abbrev cX6_addRoom : ByteArray := prog_1_method_10_code
def yX6_addRoom : MethodName := ⟨RX6, "addRoom", "(IIII)I"⟩
abbrev cX6_addGroup : ByteArray := prog_1_method_11_code
def yX6_addGroup : MethodName := ⟨RX6, "addGroup", "()I"⟩
abbrev cX6_book : ByteArray := prog_1_method_12_code
def yX6_book : MethodName := ⟨RX6, "book", "(IIIII)I"⟩
abbrev cX6_cancel : ByteArray := prog_1_method_13_code
def yX6_cancel : MethodName := ⟨RX6, "cancel", "(I)I"⟩
abbrev cX6_prove : ByteArray := prog_1_method_14_code
def yX6_prove : MethodName := ⟨RX6, "prove", "(IZ)I"⟩
abbrev cX6_outside : ByteArray := prog_1_method_15_code
def yX6_outside : MethodName := ⟨RX6, "outside", "(I)I"⟩
abbrev cX6_pay : ByteArray := prog_1_method_16_code
def yX6_pay : MethodName := ⟨RX6, "pay", "(I)I"⟩
abbrev cX6_pass : ByteArray := prog_1_method_17_code
def yX6_pass : MethodName := ⟨RX6, "pass", "(I)I"⟩
abbrev cX6_undo : ByteArray := prog_1_method_18_code
def yX6_undo : MethodName := ⟨RX6, "undo", "()I"⟩
abbrev cX6_later : ByteArray := prog_1_method_19_code
def yX6_later : MethodName := ⟨RX6, "later", "(II)I"⟩
abbrev cX6_begins : ByteArray := prog_1_method_20_code
def yX6_begins : MethodName := ⟨RX6, "begins", "(I)I"⟩
abbrev cX6_cost : ByteArray := prog_1_method_21_code
def yX6_cost : MethodName := ⟨RX6, "cost", "(IIIII)I"⟩
abbrev cX6_willOwe : ByteArray := prog_1_method_22_code
def yX6_willOwe : MethodName := ⟨RX6, "willOwe", "(I)I"⟩
abbrev cX6_coldest : ByteArray := prog_1_method_23_code
def yX6_coldest : MethodName := ⟨RX6, "coldest", "()I"⟩
abbrev cX6_passAllBookingsOnTrial : ByteArray := prog_1_method_24_code
def yX6_passAllBookingsOnTrial : MethodName := ⟨RX6, "passAllBookingsOnTrial", "()V"⟩
abbrev cX6_runScript : ByteArray := prog_1_method_25_code
def yX6_runScript : MethodName := ⟨RX6, "runScript", "(IJ)I"⟩
abbrev cX6_simulate : ByteArray := prog_1_method_26_code
def yX6_simulate : MethodName := ⟨RX6, "simulate", "(JI)I"⟩
abbrev cX6_save : ByteArray := prog_1_method_27_code
def yX6_save : MethodName := ⟨RX6, "save", "(I)I"⟩
abbrev cX6_restore : ByteArray := prog_1_method_28_code
def yX6_restore : MethodName := ⟨RX6, "restore", "(I)I"⟩
abbrev cX6_requireRange : ByteArray := prog_1_method_29_code
def yX6_requireRange : MethodName := ⟨RX6, "requireRange", "(III)V"⟩
abbrev cX6_requireRoom : ByteArray := prog_1_method_30_code
def yX6_requireRoom : MethodName := ⟨RX6, "requireRoom", "(I)LHallHeating$Room;"⟩
abbrev cX6_requireGroup : ByteArray := prog_1_method_31_code
def yX6_requireGroup : MethodName := ⟨RX6, "requireGroup", "(I)V"⟩
abbrev cX6_requireBooking : ByteArray := prog_1_method_32_code
def yX6_requireBooking : MethodName := ⟨RX6, "requireBooking", "(I)LHallHeating$Booking;"⟩
abbrev cX6_requireSlot : ByteArray := prog_1_method_33_code
def yX6_requireSlot : MethodName := ⟨RX6, "requireSlot", "(I)V"⟩
abbrev cX6_requireBookingArguments : ByteArray := prog_1_method_34_code
def yX6_requireBookingArguments : MethodName := ⟨RX6, "requireBookingArguments", "(IIIII)V"⟩
def RX7 : String := "HallHeatingModel"
def TX7 : u_T := fun k => match k with
  | _ => ("", "", "", false)
def tyX7 : Nat → FieldType := fun k => match k with
  | _ => .int
theorem nmX7 : ∀ a, a < 0 → ∀ b, b < 0 → a ≠ b → (TX7 a).2.1 ≠ (TX7 b).2.1 := by decide +kernel
theorem tyX7_ok : ∀ k, k < 0 → parseFieldDescriptor (TX7 k).2.2.1 = some (tyX7 k) := by decide +kernel
def RL : String := "HallHeatingLaw"
abbrev cL_draw : ByteArray := method_2_code
def yL_draw : MethodName := ⟨RL, "draw", "([II)I"⟩
abbrev cL_in : ByteArray := method_3_code
def yL_in : MethodName := ⟨RL, "in", "(JJJ)Z"⟩
abbrev cL_append : ByteArray := method_4_code
def yL_append : MethodName := ⟨RL, "append", "(LHallHeating;I)J"⟩
abbrev cL_load : ByteArray := method_5_code
def yL_load : MethodName := ⟨RL, "load", "(LHallHeating;)J"⟩
abbrev cL_about : ByteArray := method_6_code
def yL_about : MethodName := ⟨RL, "about", "(LHallHeating;I)J"⟩
abbrev cL_room : ByteArray := method_7_code
def yL_room : MethodName := ⟨RL, "room", "(LHallHeating;II)J"⟩
abbrev cL_owes : ByteArray := method_8_code
def yL_owes : MethodName := ⟨RL, "owes", "(LHallHeating;I)J"⟩
abbrev cL_booking : ByteArray := method_9_code
def yL_booking : MethodName := ⟨RL, "booking", "(LHallHeating;II)J"⟩
abbrev cL_addRoom : ByteArray := method_10_code
def yL_addRoom : MethodName := ⟨RL, "addRoom", "(LHallHeating;IIII)J"⟩
abbrev cL_addGroup : ByteArray := method_11_code
def yL_addGroup : MethodName := ⟨RL, "addGroup", "(LHallHeating;)J"⟩
abbrev cL_book : ByteArray := method_12_code
def yL_book : MethodName := ⟨RL, "book", "(LHallHeating;IIIII)J"⟩
abbrev cL_cancel : ByteArray := method_13_code
def yL_cancel : MethodName := ⟨RL, "cancel", "(LHallHeating;I)J"⟩
abbrev cL_prove : ByteArray := method_14_code
def yL_prove : MethodName := ⟨RL, "prove", "(LHallHeating;IZ)J"⟩
abbrev cL_outside : ByteArray := method_15_code
def yL_outside : MethodName := ⟨RL, "outside", "(LHallHeating;I)J"⟩
abbrev cL_pay : ByteArray := method_16_code
def yL_pay : MethodName := ⟨RL, "pay", "(LHallHeating;I)J"⟩
abbrev cL_pass : ByteArray := method_17_code
def yL_pass : MethodName := ⟨RL, "pass", "(LHallHeating;I)J"⟩
abbrev cL_undo : ByteArray := method_18_code
def yL_undo : MethodName := ⟨RL, "undo", "(LHallHeating;)J"⟩
abbrev cL_later : ByteArray := method_19_code
def yL_later : MethodName := ⟨RL, "later", "(LHallHeating;II)J"⟩
abbrev cL_begins : ByteArray := method_20_code
def yL_begins : MethodName := ⟨RL, "begins", "(LHallHeating;I)J"⟩
abbrev cL_cost : ByteArray := method_21_code
def yL_cost : MethodName := ⟨RL, "cost", "(LHallHeating;IIIII)J"⟩
abbrev cL_willOwe : ByteArray := method_22_code
def yL_willOwe : MethodName := ⟨RL, "willOwe", "(LHallHeating;I)J"⟩
abbrev cL_script : ByteArray := method_23_code
def yL_script : MethodName := ⟨RL, "script", "(LHallHeating;IJ)J"⟩
abbrev cL_simulate : ByteArray := method_24_code
def yL_simulate : MethodName := ⟨RL, "simulate", "(LHallHeating;JI)J"⟩
abbrev cL_save : ByteArray := method_25_code
def yL_save : MethodName := ⟨RL, "save", "(LHallHeating;I)J"⟩
abbrev cL_restore : ByteArray := method_26_code
def yL_restore : MethodName := ⟨RL, "restore", "(LHallHeating;I)J"⟩
abbrev cL_now : ByteArray := method_27_code
def yL_now : MethodName := ⟨RL, "now", "(LHallHeating;)J"⟩
abbrev cL_errors : ByteArray := method_28_code
def yL_errors : MethodName := ⟨RL, "errors", "(LHallHeating;)Z"⟩
abbrev cL_kept : ByteArray := method_29_code
def yL_kept : MethodName := ⟨RL, "kept", "(LHallHeating;)Z"⟩
abbrev cL_follows : ByteArray := method_30_code
def yL_follows : MethodName := ⟨RL, "follows", "(LHallHeating;I)Z"⟩
abbrev cL_alike : ByteArray := method_31_code
def yL_alike : MethodName := ⟨RL, "alike", "(LHallHeating;LHallHeating;I)Z"⟩
abbrev cL_says : ByteArray := method_32_code
def yL_says : MethodName := ⟨RL, "says", "(LHallHeating;I)Z"⟩
abbrev cL_two : ByteArray := method_33_code
def yL_two : MethodName := ⟨RL, "two", "(LHallHeating;I)Z"⟩
abbrev cL_tells : ByteArray := method_34_code
def yL_tells : MethodName := ⟨RL, "tells", "(LHallHeating;II)Z"⟩
abbrev cL_act : ByteArray := method_35_code
def yL_act : MethodName := ⟨RL, "act", "(LHallHeating;II)J"⟩
abbrev cL_law : ByteArray := code
def yL_law : MethodName := ⟨RL, "law", "([I)Z"⟩
theorem dX0_init_0 : decode cX0_init 0 = .ok (.aload_n 0, 1) := by decide +kernel
theorem dX0_init_1 : decode cX0_init 1 = .ok (.invokespecial 1, 3) := by decide +kernel
theorem dX0_init_4 : decode cX0_init 4 = .ok (.return_, 1) := by decide +kernel
theorem dX0_become_0 : decode cX0_become 0 = .ok (.aload_n 0, 1) := by decide +kernel
theorem dX0_become_1 : decode cX0_become 1 = .ok (.iload_n 1, 1) := by decide +kernel
theorem dX0_become_2 : decode cX0_become 2 = .ok (.putfield 7, 3) := by decide +kernel
theorem dX0_become_5 : decode cX0_become 5 = .ok (.aload_n 0, 1) := by decide +kernel
theorem dX0_become_6 : decode cX0_become 6 = .ok (.iload_n 2, 1) := by decide +kernel
theorem dX0_become_7 : decode cX0_become 7 = .ok (.putfield 13, 3) := by decide +kernel
theorem dX0_become_10 : decode cX0_become 10 = .ok (.aload_n 0, 1) := by decide +kernel
theorem dX0_become_11 : decode cX0_become 11 = .ok (.iload_n 3, 1) := by decide +kernel
theorem dX0_become_12 : decode cX0_become 12 = .ok (.putfield 16, 3) := by decide +kernel
theorem dX0_become_15 : decode cX0_become 15 = .ok (.aload_n 0, 1) := by decide +kernel
theorem dX0_become_16 : decode cX0_become 16 = .ok (.iload 4, 2) := by decide +kernel
theorem dX0_become_18 : decode cX0_become 18 = .ok (.putfield 19, 3) := by decide +kernel
theorem dX0_become_21 : decode cX0_become 21 = .ok (.aload_n 0, 1) := by decide +kernel
theorem dX0_become_22 : decode cX0_become 22 = .ok (.iload 5, 2) := by decide +kernel
theorem dX0_become_24 : decode cX0_become 24 = .ok (.putfield 22, 3) := by decide +kernel
theorem dX0_become_27 : decode cX0_become 27 = .ok (.aload_n 0, 1) := by decide +kernel
theorem dX0_become_28 : decode cX0_become 28 = .ok (.iconst 0, 1) := by decide +kernel
theorem dX0_become_29 : decode cX0_become 29 = .ok (.putfield 25, 3) := by decide +kernel
theorem dX0_become_32 : decode cX0_become 32 = .ok (.aload_n 0, 1) := by decide +kernel
theorem dX0_become_33 : decode cX0_become 33 = .ok (.iconst 0, 1) := by decide +kernel
theorem dX0_become_34 : decode cX0_become 34 = .ok (.putfield 29, 3) := by decide +kernel
theorem dX0_become_37 : decode cX0_become 37 = .ok (.aload_n 0, 1) := by decide +kernel
theorem dX0_become_38 : decode cX0_become 38 = .ok (.iconst 0, 1) := by decide +kernel
theorem dX0_become_39 : decode cX0_become 39 = .ok (.putfield 32, 3) := by decide +kernel
theorem dX0_become_42 : decode cX0_become 42 = .ok (.aload_n 0, 1) := by decide +kernel
theorem dX0_become_43 : decode cX0_become 43 = .ok (.iconst 0, 1) := by decide +kernel
theorem dX0_become_44 : decode cX0_become 44 = .ok (.putfield 35, 3) := by decide +kernel
theorem dX0_become_47 : decode cX0_become 47 = .ok (.aload_n 0, 1) := by decide +kernel
theorem dX0_become_48 : decode cX0_become 48 = .ok (.iconst 0, 1) := by decide +kernel
theorem dX0_become_49 : decode cX0_become 49 = .ok (.putfield 38, 3) := by decide +kernel
theorem dX0_become_52 : decode cX0_become 52 = .ok (.return_, 1) := by decide +kernel
theorem dX0_copyFrom_0 : decode cX0_copyFrom 0 = .ok (.aload_n 0, 1) := by decide +kernel
theorem dX0_copyFrom_1 : decode cX0_copyFrom 1 = .ok (.aload_n 1, 1) := by decide +kernel
theorem dX0_copyFrom_2 : decode cX0_copyFrom 2 = .ok (.getfield 7, 3) := by decide +kernel
theorem dX0_copyFrom_5 : decode cX0_copyFrom 5 = .ok (.aload_n 1, 1) := by decide +kernel
theorem dX0_copyFrom_6 : decode cX0_copyFrom 6 = .ok (.getfield 13, 3) := by decide +kernel
theorem dX0_copyFrom_9 : decode cX0_copyFrom 9 = .ok (.aload_n 1, 1) := by decide +kernel
theorem dX0_copyFrom_10 : decode cX0_copyFrom 10 = .ok (.getfield 16, 3) := by decide +kernel
theorem dX0_copyFrom_13 : decode cX0_copyFrom 13 = .ok (.aload_n 1, 1) := by decide +kernel
theorem dX0_copyFrom_14 : decode cX0_copyFrom 14 = .ok (.getfield 19, 3) := by decide +kernel
theorem dX0_copyFrom_17 : decode cX0_copyFrom 17 = .ok (.aload_n 1, 1) := by decide +kernel
theorem dX0_copyFrom_18 : decode cX0_copyFrom 18 = .ok (.getfield 22, 3) := by decide +kernel
theorem dX0_copyFrom_21 : decode cX0_copyFrom 21 = .ok (.invokevirtual 41, 3) := by decide +kernel
theorem dX0_copyFrom_24 : decode cX0_copyFrom 24 = .ok (.aload_n 0, 1) := by decide +kernel
theorem dX0_copyFrom_25 : decode cX0_copyFrom 25 = .ok (.aload_n 1, 1) := by decide +kernel
theorem dX0_copyFrom_26 : decode cX0_copyFrom 26 = .ok (.getfield 25, 3) := by decide +kernel
theorem dX0_copyFrom_29 : decode cX0_copyFrom 29 = .ok (.putfield 25, 3) := by decide +kernel
theorem dX0_copyFrom_32 : decode cX0_copyFrom 32 = .ok (.aload_n 0, 1) := by decide +kernel
theorem dX0_copyFrom_33 : decode cX0_copyFrom 33 = .ok (.aload_n 1, 1) := by decide +kernel
theorem dX0_copyFrom_34 : decode cX0_copyFrom 34 = .ok (.getfield 29, 3) := by decide +kernel
theorem dX0_copyFrom_37 : decode cX0_copyFrom 37 = .ok (.putfield 29, 3) := by decide +kernel
theorem dX0_copyFrom_40 : decode cX0_copyFrom 40 = .ok (.aload_n 0, 1) := by decide +kernel
theorem dX0_copyFrom_41 : decode cX0_copyFrom 41 = .ok (.aload_n 1, 1) := by decide +kernel
theorem dX0_copyFrom_42 : decode cX0_copyFrom 42 = .ok (.getfield 32, 3) := by decide +kernel
theorem dX0_copyFrom_45 : decode cX0_copyFrom 45 = .ok (.putfield 32, 3) := by decide +kernel
theorem dX0_copyFrom_48 : decode cX0_copyFrom 48 = .ok (.aload_n 0, 1) := by decide +kernel
theorem dX0_copyFrom_49 : decode cX0_copyFrom 49 = .ok (.aload_n 1, 1) := by decide +kernel
theorem dX0_copyFrom_50 : decode cX0_copyFrom 50 = .ok (.getfield 35, 3) := by decide +kernel
theorem dX0_copyFrom_53 : decode cX0_copyFrom 53 = .ok (.putfield 35, 3) := by decide +kernel
theorem dX0_copyFrom_56 : decode cX0_copyFrom 56 = .ok (.aload_n 0, 1) := by decide +kernel
theorem dX0_copyFrom_57 : decode cX0_copyFrom 57 = .ok (.aload_n 1, 1) := by decide +kernel
theorem dX0_copyFrom_58 : decode cX0_copyFrom 58 = .ok (.getfield 38, 3) := by decide +kernel
theorem dX0_copyFrom_61 : decode cX0_copyFrom 61 = .ok (.putfield 38, 3) := by decide +kernel
theorem dX0_copyFrom_64 : decode cX0_copyFrom 64 = .ok (.return_, 1) := by decide +kernel
theorem dX0_numberAbout_0 : decode cX0_numberAbout 0 = .ok (.iload_n 1, 1) := by decide +kernel
theorem dX0_numberAbout_1 : decode cX0_numberAbout 1 = .ok (.tableswitch 95 0 7 #[47, 52, 57, 62, 67, 72, 77, 82], 47) := by decide +kernel
theorem dX0_numberAbout_48 : decode cX0_numberAbout 48 = .ok (.aload_n 0, 1) := by decide +kernel
theorem dX0_numberAbout_49 : decode cX0_numberAbout 49 = .ok (.getfield 7, 3) := by decide +kernel
theorem dX0_numberAbout_52 : decode cX0_numberAbout 52 = .ok (.ireturn, 1) := by decide +kernel
theorem dX0_numberAbout_53 : decode cX0_numberAbout 53 = .ok (.aload_n 0, 1) := by decide +kernel
theorem dX0_numberAbout_54 : decode cX0_numberAbout 54 = .ok (.getfield 13, 3) := by decide +kernel
theorem dX0_numberAbout_57 : decode cX0_numberAbout 57 = .ok (.ireturn, 1) := by decide +kernel
theorem dX0_numberAbout_58 : decode cX0_numberAbout 58 = .ok (.aload_n 0, 1) := by decide +kernel
theorem dX0_numberAbout_59 : decode cX0_numberAbout 59 = .ok (.getfield 16, 3) := by decide +kernel
theorem dX0_numberAbout_62 : decode cX0_numberAbout 62 = .ok (.ireturn, 1) := by decide +kernel
theorem dX0_numberAbout_63 : decode cX0_numberAbout 63 = .ok (.aload_n 0, 1) := by decide +kernel
theorem dX0_numberAbout_64 : decode cX0_numberAbout 64 = .ok (.getfield 19, 3) := by decide +kernel
theorem dX0_numberAbout_67 : decode cX0_numberAbout 67 = .ok (.ireturn, 1) := by decide +kernel
theorem dX0_numberAbout_68 : decode cX0_numberAbout 68 = .ok (.aload_n 0, 1) := by decide +kernel
theorem dX0_numberAbout_69 : decode cX0_numberAbout 69 = .ok (.getfield 22, 3) := by decide +kernel
theorem dX0_numberAbout_72 : decode cX0_numberAbout 72 = .ok (.ireturn, 1) := by decide +kernel
theorem dX0_numberAbout_73 : decode cX0_numberAbout 73 = .ok (.aload_n 0, 1) := by decide +kernel
theorem dX0_numberAbout_74 : decode cX0_numberAbout 74 = .ok (.getfield 29, 3) := by decide +kernel
theorem dX0_numberAbout_77 : decode cX0_numberAbout 77 = .ok (.ireturn, 1) := by decide +kernel
theorem dX0_numberAbout_78 : decode cX0_numberAbout 78 = .ok (.aload_n 0, 1) := by decide +kernel
theorem dX0_numberAbout_79 : decode cX0_numberAbout 79 = .ok (.getfield 32, 3) := by decide +kernel
theorem dX0_numberAbout_82 : decode cX0_numberAbout 82 = .ok (.ireturn, 1) := by decide +kernel
theorem dX0_numberAbout_83 : decode cX0_numberAbout 83 = .ok (.aload_n 0, 1) := by decide +kernel
theorem dX0_numberAbout_84 : decode cX0_numberAbout 84 = .ok (.getfield 35, 3) := by decide +kernel
theorem dX0_numberAbout_87 : decode cX0_numberAbout 87 = .ok (.ifCond .eq 7, 3) := by decide +kernel
theorem dX0_numberAbout_90 : decode cX0_numberAbout 90 = .ok (.iconst 1, 1) := by decide +kernel
theorem dX0_numberAbout_91 : decode cX0_numberAbout 91 = .ok (.goto 4, 3) := by decide +kernel
theorem dX0_numberAbout_94 : decode cX0_numberAbout 94 = .ok (.iconst 0, 1) := by decide +kernel
theorem dX0_numberAbout_95 : decode cX0_numberAbout 95 = .ok (.ireturn, 1) := by decide +kernel
theorem dX0_numberAbout_96 : decode cX0_numberAbout 96 = .ok (.aload_n 0, 1) := by decide +kernel
theorem dX0_numberAbout_97 : decode cX0_numberAbout 97 = .ok (.getfield 38, 3) := by decide +kernel
theorem dX0_numberAbout_100 : decode cX0_numberAbout 100 = .ok (.ireturn, 1) := by decide +kernel
theorem dX0_end_0 : decode cX0_end 0 = .ok (.aload_n 0, 1) := by decide +kernel
theorem dX0_end_1 : decode cX0_end 1 = .ok (.getfield 16, 3) := by decide +kernel
theorem dX0_end_4 : decode cX0_end 4 = .ok (.aload_n 0, 1) := by decide +kernel
theorem dX0_end_5 : decode cX0_end 5 = .ok (.getfield 19, 3) := by decide +kernel
theorem dX0_end_8 : decode cX0_end 8 = .ok (.iadd, 1) := by decide +kernel
theorem dX0_end_9 : decode cX0_end 9 = .ok (.ireturn, 1) := by decide +kernel
theorem dX0_has_0 : decode cX0_has 0 = .ok (.aload_n 0, 1) := by decide +kernel
theorem dX0_has_1 : decode cX0_has 1 = .ok (.getfield 16, 3) := by decide +kernel
theorem dX0_has_4 : decode cX0_has 4 = .ok (.iload_n 1, 1) := by decide +kernel
theorem dX0_has_5 : decode cX0_has 5 = .ok (.if_icmp .gt 20, 3) := by decide +kernel
theorem dX0_has_8 : decode cX0_has 8 = .ok (.iload_n 1, 1) := by decide +kernel
theorem dX0_has_9 : decode cX0_has 9 = .ok (.aload_n 0, 1) := by decide +kernel
theorem dX0_has_10 : decode cX0_has 10 = .ok (.getfield 16, 3) := by decide +kernel
theorem dX0_has_13 : decode cX0_has 13 = .ok (.aload_n 0, 1) := by decide +kernel
theorem dX0_has_14 : decode cX0_has 14 = .ok (.getfield 19, 3) := by decide +kernel
theorem dX0_has_17 : decode cX0_has 17 = .ok (.iadd, 1) := by decide +kernel
theorem dX0_has_18 : decode cX0_has 18 = .ok (.if_icmp .ge 7, 3) := by decide +kernel
theorem dX0_has_21 : decode cX0_has 21 = .ok (.iconst 1, 1) := by decide +kernel
theorem dX0_has_22 : decode cX0_has 22 = .ok (.goto 4, 3) := by decide +kernel
theorem dX0_has_25 : decode cX0_has 25 = .ok (.iconst 0, 1) := by decide +kernel
theorem dX0_has_26 : decode cX0_has 26 = .ok (.ireturn, 1) := by decide +kernel
theorem dX0_isOver_0 : decode cX0_isOver 0 = .ok (.aload_n 0, 1) := by decide +kernel
theorem dX0_isOver_1 : decode cX0_isOver 1 = .ok (.invokevirtual 45, 3) := by decide +kernel
theorem dX0_isOver_4 : decode cX0_isOver 4 = .ok (.iload_n 1, 1) := by decide +kernel
theorem dX0_isOver_5 : decode cX0_isOver 5 = .ok (.if_icmp .gt 7, 3) := by decide +kernel
theorem dX0_isOver_8 : decode cX0_isOver 8 = .ok (.iconst 1, 1) := by decide +kernel
theorem dX0_isOver_9 : decode cX0_isOver 9 = .ok (.goto 4, 3) := by decide +kernel
theorem dX0_isOver_12 : decode cX0_isOver 12 = .ok (.iconst 0, 1) := by decide +kernel
theorem dX0_isOver_13 : decode cX0_isOver 13 = .ok (.ireturn, 1) := by decide +kernel
theorem dX0_meets_0 : decode cX0_meets 0 = .ok (.aload_n 0, 1) := by decide +kernel
theorem dX0_meets_1 : decode cX0_meets 1 = .ok (.getfield 16, 3) := by decide +kernel
theorem dX0_meets_4 : decode cX0_meets 4 = .ok (.iload_n 1, 1) := by decide +kernel
theorem dX0_meets_5 : decode cX0_meets 5 = .ok (.iload_n 2, 1) := by decide +kernel
theorem dX0_meets_6 : decode cX0_meets 6 = .ok (.iadd, 1) := by decide +kernel
theorem dX0_meets_7 : decode cX0_meets 7 = .ok (.if_icmp .ge 15, 3) := by decide +kernel
theorem dX0_meets_10 : decode cX0_meets 10 = .ok (.iload_n 1, 1) := by decide +kernel
theorem dX0_meets_11 : decode cX0_meets 11 = .ok (.aload_n 0, 1) := by decide +kernel
theorem dX0_meets_12 : decode cX0_meets 12 = .ok (.invokevirtual 45, 3) := by decide +kernel
theorem dX0_meets_15 : decode cX0_meets 15 = .ok (.if_icmp .ge 7, 3) := by decide +kernel
theorem dX0_meets_18 : decode cX0_meets 18 = .ok (.iconst 1, 1) := by decide +kernel
theorem dX0_meets_19 : decode cX0_meets 19 = .ok (.goto 4, 3) := by decide +kernel
theorem dX0_meets_22 : decode cX0_meets 22 = .ok (.iconst 0, 1) := by decide +kernel
theorem dX0_meets_23 : decode cX0_meets 23 = .ok (.ireturn, 1) := by decide +kernel
theorem dX0_mayGo_0 : decode cX0_mayGo 0 = .ok (.aload_n 0, 1) := by decide +kernel
theorem dX0_mayGo_1 : decode cX0_mayGo 1 = .ok (.getfield 25, 3) := by decide +kernel
theorem dX0_mayGo_4 : decode cX0_mayGo 4 = .ok (.ifCond .ne 15, 3) := by decide +kernel
theorem dX0_mayGo_7 : decode cX0_mayGo 7 = .ok (.iload_n 1, 1) := by decide +kernel
theorem dX0_mayGo_8 : decode cX0_mayGo 8 = .ok (.aload_n 0, 1) := by decide +kernel
theorem dX0_mayGo_9 : decode cX0_mayGo 9 = .ok (.getfield 16, 3) := by decide +kernel
theorem dX0_mayGo_12 : decode cX0_mayGo 12 = .ok (.if_icmp .gt 7, 3) := by decide +kernel
theorem dX0_mayGo_15 : decode cX0_mayGo 15 = .ok (.iconst 1, 1) := by decide +kernel
theorem dX0_mayGo_16 : decode cX0_mayGo 16 = .ok (.goto 4, 3) := by decide +kernel
theorem dX0_mayGo_19 : decode cX0_mayGo 19 = .ok (.iconst 0, 1) := by decide +kernel
theorem dX0_mayGo_20 : decode cX0_mayGo 20 = .ok (.ireturn, 1) := by decide +kernel
theorem dX1_init_0 : decode cX1_init 0 = .ok (.aload_n 0, 1) := by decide +kernel
theorem dX1_init_1 : decode cX1_init 1 = .ok (.invokespecial 3, 3) := by decide +kernel
theorem dX1_init_4 : decode cX1_init 4 = .ok (.return_, 1) := by decide +kernel
theorem dX1_withoutLast_0 : decode cX1_withoutLast 0 = .ok (.lload_n 0, 1) := by decide +kernel
theorem dX1_withoutLast_1 : decode cX1_withoutLast 1 = .ok (.lstore_n 3, 1) := by decide +kernel
theorem dX1_withoutLast_2 : decode cX1_withoutLast 2 = .ok (.iconst 0, 1) := by decide +kernel
theorem dX1_withoutLast_3 : decode cX1_withoutLast 3 = .ok (.istore 5, 2) := by decide +kernel
theorem dX1_withoutLast_5 : decode cX1_withoutLast 5 = .ok (.iload 5, 2) := by decide +kernel
theorem dX1_withoutLast_7 : decode cX1_withoutLast 7 = .ok (.iload_n 2, 1) := by decide +kernel
theorem dX1_withoutLast_8 : decode cX1_withoutLast 8 = .ok (.if_icmp .ge 15, 3) := by decide +kernel
theorem dX1_withoutLast_11 : decode cX1_withoutLast 11 = .ok (.lload_n 3, 1) := by decide +kernel
theorem dX1_withoutLast_12 : decode cX1_withoutLast 12 = .ok (.ldc2_w 9, 3) := by decide +kernel
theorem dX1_withoutLast_15 : decode cX1_withoutLast 15 = .ok (.ldiv, 1) := by decide +kernel
theorem dX1_withoutLast_16 : decode cX1_withoutLast 16 = .ok (.lstore_n 3, 1) := by decide +kernel
theorem dX1_withoutLast_17 : decode cX1_withoutLast 17 = .ok (.iinc 5 1, 3) := by decide +kernel
theorem dX1_withoutLast_20 : decode cX1_withoutLast 20 = .ok (.goto (-15), 3) := by decide +kernel
theorem dX1_withoutLast_23 : decode cX1_withoutLast 23 = .ok (.lload_n 3, 1) := by decide +kernel
theorem dX1_withoutLast_24 : decode cX1_withoutLast 24 = .ok (.lreturn, 1) := by decide +kernel
theorem dX1_become_0 : decode cX1_become 0 = .ok (.lload_n 1, 1) := by decide +kernel
theorem dX1_become_1 : decode cX1_become 1 = .ok (.ldc2_w 9, 3) := by decide +kernel
theorem dX1_become_4 : decode cX1_become 4 = .ok (.lrem, 1) := by decide +kernel
theorem dX1_become_5 : decode cX1_become 5 = .ok (.l2i, 1) := by decide +kernel
theorem dX1_become_6 : decode cX1_become 6 = .ok (.istore_n 3, 1) := by decide +kernel
theorem dX1_become_7 : decode cX1_become 7 = .ok (.aload_n 0, 1) := by decide +kernel
theorem dX1_become_8 : decode cX1_become 8 = .ok (.iload_n 3, 1) := by decide +kernel
theorem dX1_become_9 : decode cX1_become 9 = .ok (.sipush 10000, 3) := by decide +kernel
theorem dX1_become_12 : decode cX1_become 12 = .ok (.idiv, 1) := by decide +kernel
theorem dX1_become_13 : decode cX1_become 13 = .ok (.putfield 11, 3) := by decide +kernel
theorem dX1_become_16 : decode cX1_become 16 = .ok (.aload_n 0, 1) := by decide +kernel
theorem dX1_become_17 : decode cX1_become 17 = .ok (.iload_n 3, 1) := by decide +kernel
theorem dX1_become_18 : decode cX1_become 18 = .ok (.sipush 1000, 3) := by decide +kernel
theorem dX1_become_21 : decode cX1_become 21 = .ok (.idiv, 1) := by decide +kernel
theorem dX1_become_22 : decode cX1_become 22 = .ok (.bipush 10, 2) := by decide +kernel
theorem dX1_become_24 : decode cX1_become 24 = .ok (.irem, 1) := by decide +kernel
theorem dX1_become_25 : decode cX1_become 25 = .ok (.putfield 17, 3) := by decide +kernel
theorem dX1_become_28 : decode cX1_become 28 = .ok (.aload_n 0, 1) := by decide +kernel
theorem dX1_become_29 : decode cX1_become 29 = .ok (.iload_n 3, 1) := by decide +kernel
theorem dX1_become_30 : decode cX1_become 30 = .ok (.bipush 100, 2) := by decide +kernel
theorem dX1_become_32 : decode cX1_become 32 = .ok (.idiv, 1) := by decide +kernel
theorem dX1_become_33 : decode cX1_become 33 = .ok (.bipush 10, 2) := by decide +kernel
theorem dX1_become_35 : decode cX1_become 35 = .ok (.irem, 1) := by decide +kernel
theorem dX1_become_36 : decode cX1_become 36 = .ok (.putfield 20, 3) := by decide +kernel
theorem dX1_become_39 : decode cX1_become 39 = .ok (.aload_n 0, 1) := by decide +kernel
theorem dX1_become_40 : decode cX1_become 40 = .ok (.iload_n 3, 1) := by decide +kernel
theorem dX1_become_41 : decode cX1_become 41 = .ok (.bipush 10, 2) := by decide +kernel
theorem dX1_become_43 : decode cX1_become 43 = .ok (.idiv, 1) := by decide +kernel
theorem dX1_become_44 : decode cX1_become 44 = .ok (.bipush 10, 2) := by decide +kernel
theorem dX1_become_46 : decode cX1_become 46 = .ok (.irem, 1) := by decide +kernel
theorem dX1_become_47 : decode cX1_become 47 = .ok (.putfield 23, 3) := by decide +kernel
theorem dX1_become_50 : decode cX1_become 50 = .ok (.aload_n 0, 1) := by decide +kernel
theorem dX1_become_51 : decode cX1_become 51 = .ok (.iload_n 3, 1) := by decide +kernel
theorem dX1_become_52 : decode cX1_become 52 = .ok (.bipush 10, 2) := by decide +kernel
theorem dX1_become_54 : decode cX1_become 54 = .ok (.irem, 1) := by decide +kernel
theorem dX1_become_55 : decode cX1_become 55 = .ok (.putfield 26, 3) := by decide +kernel
theorem dX1_become_58 : decode cX1_become 58 = .ok (.return_, 1) := by decide +kernel
theorem dX1_succeedsOn_0 : decode cX1_succeedsOn 0 = .ok (.aload_n 0, 1) := by decide +kernel
theorem dX1_succeedsOn_1 : decode cX1_succeedsOn 1 = .ok (.getfield 11, 3) := by decide +kernel
theorem dX1_succeedsOn_4 : decode cX1_succeedsOn 4 = .ok (.tableswitch 391 1 9 #[52, 92, 133, 169, 204, 232, 272, 320, 349], 52) := by decide +kernel
theorem dX1_succeedsOn_56 : decode cX1_succeedsOn 56 = .ok (.aload_n 0, 1) := by decide +kernel
theorem dX1_succeedsOn_57 : decode cX1_succeedsOn 57 = .ok (.getfield 17, 3) := by decide +kernel
theorem dX1_succeedsOn_60 : decode cX1_succeedsOn 60 = .ok (.ifCond .ne 34, 3) := by decide +kernel
theorem dX1_succeedsOn_63 : decode cX1_succeedsOn 63 = .ok (.aload_n 0, 1) := by decide +kernel
theorem dX1_succeedsOn_64 : decode cX1_succeedsOn 64 = .ok (.getfield 20, 3) := by decide +kernel
theorem dX1_succeedsOn_67 : decode cX1_succeedsOn 67 = .ok (.ifCond .ne 27, 3) := by decide +kernel
theorem dX1_succeedsOn_70 : decode cX1_succeedsOn 70 = .ok (.aload_n 0, 1) := by decide +kernel
theorem dX1_succeedsOn_71 : decode cX1_succeedsOn 71 = .ok (.aload_n 1, 1) := by decide +kernel
theorem dX1_succeedsOn_72 : decode cX1_succeedsOn 72 = .ok (.bipush 10, 2) := by decide +kernel
theorem dX1_succeedsOn_74 : decode cX1_succeedsOn 74 = .ok (.aload_n 0, 1) := by decide +kernel
theorem dX1_succeedsOn_75 : decode cX1_succeedsOn 75 = .ok (.getfield 23, 3) := by decide +kernel
theorem dX1_succeedsOn_78 : decode cX1_succeedsOn 78 = .ok (.imul, 1) := by decide +kernel
theorem dX1_succeedsOn_79 : decode cX1_succeedsOn 79 = .ok (.aload_n 0, 1) := by decide +kernel
theorem dX1_succeedsOn_80 : decode cX1_succeedsOn 80 = .ok (.getfield 26, 3) := by decide +kernel
theorem dX1_succeedsOn_83 : decode cX1_succeedsOn 83 = .ok (.iadd, 1) := by decide +kernel
theorem dX1_succeedsOn_84 : decode cX1_succeedsOn 84 = .ok (.invokevirtual 29, 3) := by decide +kernel
theorem dX1_succeedsOn_87 : decode cX1_succeedsOn 87 = .ok (.ifCond .eq 7, 3) := by decide +kernel
theorem dX1_succeedsOn_90 : decode cX1_succeedsOn 90 = .ok (.iconst 1, 1) := by decide +kernel
theorem dX1_succeedsOn_91 : decode cX1_succeedsOn 91 = .ok (.goto 4, 3) := by decide +kernel
theorem dX1_succeedsOn_94 : decode cX1_succeedsOn 94 = .ok (.iconst 0, 1) := by decide +kernel
theorem dX1_succeedsOn_95 : decode cX1_succeedsOn 95 = .ok (.ireturn, 1) := by decide +kernel
theorem dX1_succeedsOn_96 : decode cX1_succeedsOn 96 = .ok (.aload_n 0, 1) := by decide +kernel
theorem dX1_succeedsOn_97 : decode cX1_succeedsOn 97 = .ok (.getfield 17, 3) := by decide +kernel
theorem dX1_succeedsOn_100 : decode cX1_succeedsOn 100 = .ok (.ifCond .ne 35, 3) := by decide +kernel
theorem dX1_succeedsOn_103 : decode cX1_succeedsOn 103 = .ok (.aload_n 0, 1) := by decide +kernel
theorem dX1_succeedsOn_104 : decode cX1_succeedsOn 104 = .ok (.getfield 20, 3) := by decide +kernel
theorem dX1_succeedsOn_107 : decode cX1_succeedsOn 107 = .ok (.iconst 1, 1) := by decide +kernel
theorem dX1_succeedsOn_108 : decode cX1_succeedsOn 108 = .ok (.if_icmp .gt 27, 3) := by decide +kernel
theorem dX1_succeedsOn_111 : decode cX1_succeedsOn 111 = .ok (.aload_n 0, 1) := by decide +kernel
theorem dX1_succeedsOn_112 : decode cX1_succeedsOn 112 = .ok (.aload_n 1, 1) := by decide +kernel
theorem dX1_succeedsOn_113 : decode cX1_succeedsOn 113 = .ok (.bipush 10, 2) := by decide +kernel
theorem dX1_succeedsOn_115 : decode cX1_succeedsOn 115 = .ok (.aload_n 0, 1) := by decide +kernel
theorem dX1_succeedsOn_116 : decode cX1_succeedsOn 116 = .ok (.getfield 23, 3) := by decide +kernel
theorem dX1_succeedsOn_119 : decode cX1_succeedsOn 119 = .ok (.imul, 1) := by decide +kernel
theorem dX1_succeedsOn_120 : decode cX1_succeedsOn 120 = .ok (.aload_n 0, 1) := by decide +kernel
theorem dX1_succeedsOn_121 : decode cX1_succeedsOn 121 = .ok (.getfield 26, 3) := by decide +kernel
theorem dX1_succeedsOn_124 : decode cX1_succeedsOn 124 = .ok (.iadd, 1) := by decide +kernel
theorem dX1_succeedsOn_125 : decode cX1_succeedsOn 125 = .ok (.invokevirtual 33, 3) := by decide +kernel
theorem dX1_succeedsOn_128 : decode cX1_succeedsOn 128 = .ok (.ifCond .eq 7, 3) := by decide +kernel
theorem dX1_succeedsOn_131 : decode cX1_succeedsOn 131 = .ok (.iconst 1, 1) := by decide +kernel
theorem dX1_succeedsOn_132 : decode cX1_succeedsOn 132 = .ok (.goto 4, 3) := by decide +kernel
theorem dX1_succeedsOn_135 : decode cX1_succeedsOn 135 = .ok (.iconst 0, 1) := by decide +kernel
theorem dX1_succeedsOn_136 : decode cX1_succeedsOn 136 = .ok (.ireturn, 1) := by decide +kernel
theorem dX1_succeedsOn_137 : decode cX1_succeedsOn 137 = .ok (.aload_n 0, 1) := by decide +kernel
theorem dX1_succeedsOn_138 : decode cX1_succeedsOn 138 = .ok (.getfield 20, 3) := by decide +kernel
theorem dX1_succeedsOn_141 : decode cX1_succeedsOn 141 = .ok (.iconst 1, 1) := by decide +kernel
theorem dX1_succeedsOn_142 : decode cX1_succeedsOn 142 = .ok (.if_icmp .gt 29, 3) := by decide +kernel
theorem dX1_succeedsOn_145 : decode cX1_succeedsOn 145 = .ok (.aload_n 0, 1) := by decide +kernel
theorem dX1_succeedsOn_146 : decode cX1_succeedsOn 146 = .ok (.getfield 23, 3) := by decide +kernel
theorem dX1_succeedsOn_149 : decode cX1_succeedsOn 149 = .ok (.ifCond .ne 22, 3) := by decide +kernel
theorem dX1_succeedsOn_152 : decode cX1_succeedsOn 152 = .ok (.aload_n 0, 1) := by decide +kernel
theorem dX1_succeedsOn_153 : decode cX1_succeedsOn 153 = .ok (.getfield 26, 3) := by decide +kernel
theorem dX1_succeedsOn_156 : decode cX1_succeedsOn 156 = .ok (.ifCond .ne 15, 3) := by decide +kernel
theorem dX1_succeedsOn_159 : decode cX1_succeedsOn 159 = .ok (.aload_n 0, 1) := by decide +kernel
theorem dX1_succeedsOn_160 : decode cX1_succeedsOn 160 = .ok (.aload_n 1, 1) := by decide +kernel
theorem dX1_succeedsOn_161 : decode cX1_succeedsOn 161 = .ok (.invokevirtual 36, 3) := by decide +kernel
theorem dX1_succeedsOn_164 : decode cX1_succeedsOn 164 = .ok (.ifCond .eq 7, 3) := by decide +kernel
theorem dX1_succeedsOn_167 : decode cX1_succeedsOn 167 = .ok (.iconst 1, 1) := by decide +kernel
theorem dX1_succeedsOn_168 : decode cX1_succeedsOn 168 = .ok (.goto 4, 3) := by decide +kernel
theorem dX1_succeedsOn_171 : decode cX1_succeedsOn 171 = .ok (.iconst 0, 1) := by decide +kernel
theorem dX1_succeedsOn_172 : decode cX1_succeedsOn 172 = .ok (.ireturn, 1) := by decide +kernel
theorem dX1_succeedsOn_173 : decode cX1_succeedsOn 173 = .ok (.aload_n 0, 1) := by decide +kernel
theorem dX1_succeedsOn_174 : decode cX1_succeedsOn 174 = .ok (.getfield 20, 3) := by decide +kernel
theorem dX1_succeedsOn_177 : decode cX1_succeedsOn 177 = .ok (.ifCond .ne 29, 3) := by decide +kernel
theorem dX1_succeedsOn_180 : decode cX1_succeedsOn 180 = .ok (.aload_n 0, 1) := by decide +kernel
theorem dX1_succeedsOn_181 : decode cX1_succeedsOn 181 = .ok (.getfield 23, 3) := by decide +kernel
theorem dX1_succeedsOn_184 : decode cX1_succeedsOn 184 = .ok (.ifCond .ne 22, 3) := by decide +kernel
theorem dX1_succeedsOn_187 : decode cX1_succeedsOn 187 = .ok (.aload_n 0, 1) := by decide +kernel
theorem dX1_succeedsOn_188 : decode cX1_succeedsOn 188 = .ok (.getfield 26, 3) := by decide +kernel
theorem dX1_succeedsOn_191 : decode cX1_succeedsOn 191 = .ok (.ifCond .ne 15, 3) := by decide +kernel
theorem dX1_succeedsOn_194 : decode cX1_succeedsOn 194 = .ok (.aload_n 0, 1) := by decide +kernel
theorem dX1_succeedsOn_195 : decode cX1_succeedsOn 195 = .ok (.aload_n 1, 1) := by decide +kernel
theorem dX1_succeedsOn_196 : decode cX1_succeedsOn 196 = .ok (.invokevirtual 40, 3) := by decide +kernel
theorem dX1_succeedsOn_199 : decode cX1_succeedsOn 199 = .ok (.ifCond .eq 7, 3) := by decide +kernel
theorem dX1_succeedsOn_202 : decode cX1_succeedsOn 202 = .ok (.iconst 1, 1) := by decide +kernel
theorem dX1_succeedsOn_203 : decode cX1_succeedsOn 203 = .ok (.goto 4, 3) := by decide +kernel
theorem dX1_succeedsOn_206 : decode cX1_succeedsOn 206 = .ok (.iconst 0, 1) := by decide +kernel
theorem dX1_succeedsOn_207 : decode cX1_succeedsOn 207 = .ok (.ireturn, 1) := by decide +kernel
theorem dX1_succeedsOn_208 : decode cX1_succeedsOn 208 = .ok (.aload_n 0, 1) := by decide +kernel
theorem dX1_succeedsOn_209 : decode cX1_succeedsOn 209 = .ok (.getfield 23, 3) := by decide +kernel
theorem dX1_succeedsOn_212 : decode cX1_succeedsOn 212 = .ok (.ifCond .ne 22, 3) := by decide +kernel
theorem dX1_succeedsOn_215 : decode cX1_succeedsOn 215 = .ok (.aload_n 0, 1) := by decide +kernel
theorem dX1_succeedsOn_216 : decode cX1_succeedsOn 216 = .ok (.getfield 26, 3) := by decide +kernel
theorem dX1_succeedsOn_219 : decode cX1_succeedsOn 219 = .ok (.ifCond .ne 15, 3) := by decide +kernel
theorem dX1_succeedsOn_222 : decode cX1_succeedsOn 222 = .ok (.aload_n 0, 1) := by decide +kernel
theorem dX1_succeedsOn_223 : decode cX1_succeedsOn 223 = .ok (.aload_n 1, 1) := by decide +kernel
theorem dX1_succeedsOn_224 : decode cX1_succeedsOn 224 = .ok (.invokevirtual 43, 3) := by decide +kernel
theorem dX1_succeedsOn_227 : decode cX1_succeedsOn 227 = .ok (.ifCond .eq 7, 3) := by decide +kernel
theorem dX1_succeedsOn_230 : decode cX1_succeedsOn 230 = .ok (.iconst 1, 1) := by decide +kernel
theorem dX1_succeedsOn_231 : decode cX1_succeedsOn 231 = .ok (.goto 4, 3) := by decide +kernel
theorem dX1_succeedsOn_234 : decode cX1_succeedsOn 234 = .ok (.iconst 0, 1) := by decide +kernel
theorem dX1_succeedsOn_235 : decode cX1_succeedsOn 235 = .ok (.ireturn, 1) := by decide +kernel
theorem dX1_succeedsOn_236 : decode cX1_succeedsOn 236 = .ok (.aload_n 0, 1) := by decide +kernel
theorem dX1_succeedsOn_237 : decode cX1_succeedsOn 237 = .ok (.getfield 20, 3) := by decide +kernel
theorem dX1_succeedsOn_240 : decode cX1_succeedsOn 240 = .ok (.ifCond .ne 34, 3) := by decide +kernel
theorem dX1_succeedsOn_243 : decode cX1_succeedsOn 243 = .ok (.aload_n 0, 1) := by decide +kernel
theorem dX1_succeedsOn_244 : decode cX1_succeedsOn 244 = .ok (.aload_n 1, 1) := by decide +kernel
theorem dX1_succeedsOn_245 : decode cX1_succeedsOn 245 = .ok (.aload_n 0, 1) := by decide +kernel
theorem dX1_succeedsOn_246 : decode cX1_succeedsOn 246 = .ok (.getfield 17, 3) := by decide +kernel
theorem dX1_succeedsOn_249 : decode cX1_succeedsOn 249 = .ok (.invokevirtual 46, 3) := by decide +kernel
theorem dX1_succeedsOn_252 : decode cX1_succeedsOn 252 = .ok (.bipush 10, 2) := by decide +kernel
theorem dX1_succeedsOn_254 : decode cX1_succeedsOn 254 = .ok (.aload_n 0, 1) := by decide +kernel
theorem dX1_succeedsOn_255 : decode cX1_succeedsOn 255 = .ok (.getfield 23, 3) := by decide +kernel
theorem dX1_succeedsOn_258 : decode cX1_succeedsOn 258 = .ok (.imul, 1) := by decide +kernel
theorem dX1_succeedsOn_259 : decode cX1_succeedsOn 259 = .ok (.aload_n 0, 1) := by decide +kernel
theorem dX1_succeedsOn_260 : decode cX1_succeedsOn 260 = .ok (.getfield 26, 3) := by decide +kernel
theorem dX1_succeedsOn_263 : decode cX1_succeedsOn 263 = .ok (.iadd, 1) := by decide +kernel
theorem dX1_succeedsOn_264 : decode cX1_succeedsOn 264 = .ok (.invokevirtual 52, 3) := by decide +kernel
theorem dX1_succeedsOn_267 : decode cX1_succeedsOn 267 = .ok (.ifCond .eq 7, 3) := by decide +kernel
theorem dX1_succeedsOn_270 : decode cX1_succeedsOn 270 = .ok (.iconst 1, 1) := by decide +kernel
theorem dX1_succeedsOn_271 : decode cX1_succeedsOn 271 = .ok (.goto 4, 3) := by decide +kernel
theorem dX1_succeedsOn_274 : decode cX1_succeedsOn 274 = .ok (.iconst 0, 1) := by decide +kernel
theorem dX1_succeedsOn_275 : decode cX1_succeedsOn 275 = .ok (.ireturn, 1) := by decide +kernel
theorem dX1_succeedsOn_276 : decode cX1_succeedsOn 276 = .ok (.aload_n 1, 1) := by decide +kernel
theorem dX1_succeedsOn_277 : decode cX1_succeedsOn 277 = .ok (.aload_n 0, 1) := by decide +kernel
theorem dX1_succeedsOn_278 : decode cX1_succeedsOn 278 = .ok (.getfield 17, 3) := by decide +kernel
theorem dX1_succeedsOn_281 : decode cX1_succeedsOn 281 = .ok (.invokevirtual 56, 3) := by decide +kernel
theorem dX1_succeedsOn_284 : decode cX1_succeedsOn 284 = .ok (.ifCond .eq 38, 3) := by decide +kernel
theorem dX1_succeedsOn_287 : decode cX1_succeedsOn 287 = .ok (.aload_n 1, 1) := by decide +kernel
theorem dX1_succeedsOn_288 : decode cX1_succeedsOn 288 = .ok (.aload_n 0, 1) := by decide +kernel
theorem dX1_succeedsOn_289 : decode cX1_succeedsOn 289 = .ok (.getfield 17, 3) := by decide +kernel
theorem dX1_succeedsOn_292 : decode cX1_succeedsOn 292 = .ok (.invokevirtual 60, 3) := by decide +kernel
theorem dX1_succeedsOn_295 : decode cX1_succeedsOn 295 = .ok (.bipush 100, 2) := by decide +kernel
theorem dX1_succeedsOn_297 : decode cX1_succeedsOn 297 = .ok (.aload_n 0, 1) := by decide +kernel
theorem dX1_succeedsOn_298 : decode cX1_succeedsOn 298 = .ok (.getfield 20, 3) := by decide +kernel
theorem dX1_succeedsOn_301 : decode cX1_succeedsOn 301 = .ok (.imul, 1) := by decide +kernel
theorem dX1_succeedsOn_302 : decode cX1_succeedsOn 302 = .ok (.bipush 10, 2) := by decide +kernel
theorem dX1_succeedsOn_304 : decode cX1_succeedsOn 304 = .ok (.aload_n 0, 1) := by decide +kernel
theorem dX1_succeedsOn_305 : decode cX1_succeedsOn 305 = .ok (.getfield 23, 3) := by decide +kernel
theorem dX1_succeedsOn_308 : decode cX1_succeedsOn 308 = .ok (.imul, 1) := by decide +kernel
theorem dX1_succeedsOn_309 : decode cX1_succeedsOn 309 = .ok (.iadd, 1) := by decide +kernel
theorem dX1_succeedsOn_310 : decode cX1_succeedsOn 310 = .ok (.aload_n 0, 1) := by decide +kernel
theorem dX1_succeedsOn_311 : decode cX1_succeedsOn 311 = .ok (.getfield 26, 3) := by decide +kernel
theorem dX1_succeedsOn_314 : decode cX1_succeedsOn 314 = .ok (.iadd, 1) := by decide +kernel
theorem dX1_succeedsOn_315 : decode cX1_succeedsOn 315 = .ok (.if_icmp .gt 7, 3) := by decide +kernel
theorem dX1_succeedsOn_318 : decode cX1_succeedsOn 318 = .ok (.iconst 1, 1) := by decide +kernel
theorem dX1_succeedsOn_319 : decode cX1_succeedsOn 319 = .ok (.goto 4, 3) := by decide +kernel
theorem dX1_succeedsOn_322 : decode cX1_succeedsOn 322 = .ok (.iconst 0, 1) := by decide +kernel
theorem dX1_succeedsOn_323 : decode cX1_succeedsOn 323 = .ok (.ireturn, 1) := by decide +kernel
theorem dX1_succeedsOn_324 : decode cX1_succeedsOn 324 = .ok (.aload_n 0, 1) := by decide +kernel
theorem dX1_succeedsOn_325 : decode cX1_succeedsOn 325 = .ok (.getfield 23, 3) := by decide +kernel
theorem dX1_succeedsOn_328 : decode cX1_succeedsOn 328 = .ok (.ifCond .ne 23, 3) := by decide +kernel
theorem dX1_succeedsOn_331 : decode cX1_succeedsOn 331 = .ok (.aload_n 0, 1) := by decide +kernel
theorem dX1_succeedsOn_332 : decode cX1_succeedsOn 332 = .ok (.getfield 26, 3) := by decide +kernel
theorem dX1_succeedsOn_335 : decode cX1_succeedsOn 335 = .ok (.iconst 1, 1) := by decide +kernel
theorem dX1_succeedsOn_336 : decode cX1_succeedsOn 336 = .ok (.if_icmp .gt 15, 3) := by decide +kernel
theorem dX1_succeedsOn_339 : decode cX1_succeedsOn 339 = .ok (.aload_n 0, 1) := by decide +kernel
theorem dX1_succeedsOn_340 : decode cX1_succeedsOn 340 = .ok (.aload_n 1, 1) := by decide +kernel
theorem dX1_succeedsOn_341 : decode cX1_succeedsOn 341 = .ok (.invokevirtual 64, 3) := by decide +kernel
theorem dX1_succeedsOn_344 : decode cX1_succeedsOn 344 = .ok (.ifCond .eq 7, 3) := by decide +kernel
theorem dX1_succeedsOn_347 : decode cX1_succeedsOn 347 = .ok (.iconst 1, 1) := by decide +kernel
theorem dX1_succeedsOn_348 : decode cX1_succeedsOn 348 = .ok (.goto 4, 3) := by decide +kernel
theorem dX1_succeedsOn_351 : decode cX1_succeedsOn 351 = .ok (.iconst 0, 1) := by decide +kernel
theorem dX1_succeedsOn_352 : decode cX1_succeedsOn 352 = .ok (.ireturn, 1) := by decide +kernel
theorem dX1_succeedsOn_353 : decode cX1_succeedsOn 353 = .ok (.aload_n 1, 1) := by decide +kernel
theorem dX1_succeedsOn_354 : decode cX1_succeedsOn 354 = .ok (.getfield 67, 3) := by decide +kernel
theorem dX1_succeedsOn_357 : decode cX1_succeedsOn 357 = .ok (.sipush 1000, 3) := by decide +kernel
theorem dX1_succeedsOn_360 : decode cX1_succeedsOn 360 = .ok (.aload_n 0, 1) := by decide +kernel
theorem dX1_succeedsOn_361 : decode cX1_succeedsOn 361 = .ok (.getfield 17, 3) := by decide +kernel
theorem dX1_succeedsOn_364 : decode cX1_succeedsOn 364 = .ok (.imul, 1) := by decide +kernel
theorem dX1_succeedsOn_365 : decode cX1_succeedsOn 365 = .ok (.bipush 100, 2) := by decide +kernel
theorem dX1_succeedsOn_367 : decode cX1_succeedsOn 367 = .ok (.aload_n 0, 1) := by decide +kernel
theorem dX1_succeedsOn_368 : decode cX1_succeedsOn 368 = .ok (.getfield 20, 3) := by decide +kernel
theorem dX1_succeedsOn_371 : decode cX1_succeedsOn 371 = .ok (.imul, 1) := by decide +kernel
theorem dX1_succeedsOn_372 : decode cX1_succeedsOn 372 = .ok (.iadd, 1) := by decide +kernel
theorem dX1_succeedsOn_373 : decode cX1_succeedsOn 373 = .ok (.bipush 10, 2) := by decide +kernel
theorem dX1_succeedsOn_375 : decode cX1_succeedsOn 375 = .ok (.aload_n 0, 1) := by decide +kernel
theorem dX1_succeedsOn_376 : decode cX1_succeedsOn 376 = .ok (.getfield 23, 3) := by decide +kernel
theorem dX1_succeedsOn_379 : decode cX1_succeedsOn 379 = .ok (.imul, 1) := by decide +kernel
theorem dX1_succeedsOn_380 : decode cX1_succeedsOn 380 = .ok (.iadd, 1) := by decide +kernel
theorem dX1_succeedsOn_381 : decode cX1_succeedsOn 381 = .ok (.aload_n 0, 1) := by decide +kernel
theorem dX1_succeedsOn_382 : decode cX1_succeedsOn 382 = .ok (.getfield 26, 3) := by decide +kernel
theorem dX1_succeedsOn_385 : decode cX1_succeedsOn 385 = .ok (.iadd, 1) := by decide +kernel
theorem dX1_succeedsOn_386 : decode cX1_succeedsOn 386 = .ok (.if_icmp .lt 7, 3) := by decide +kernel
theorem dX1_succeedsOn_389 : decode cX1_succeedsOn 389 = .ok (.iconst 1, 1) := by decide +kernel
theorem dX1_succeedsOn_390 : decode cX1_succeedsOn 390 = .ok (.goto 4, 3) := by decide +kernel
theorem dX1_succeedsOn_393 : decode cX1_succeedsOn 393 = .ok (.iconst 0, 1) := by decide +kernel
theorem dX1_succeedsOn_394 : decode cX1_succeedsOn 394 = .ok (.ireturn, 1) := by decide +kernel
theorem dX1_succeedsOn_395 : decode cX1_succeedsOn 395 = .ok (.iconst 0, 1) := by decide +kernel
theorem dX1_succeedsOn_396 : decode cX1_succeedsOn 396 = .ok (.ireturn, 1) := by decide +kernel
theorem dX1_letsPass_0 : decode cX1_letsPass 0 = .ok (.iload_n 2, 1) := by decide +kernel
theorem dX1_letsPass_1 : decode cX1_letsPass 1 = .ok (.iconst 1, 1) := by decide +kernel
theorem dX1_letsPass_2 : decode cX1_letsPass 2 = .ok (.if_icmp .lt 21, 3) := by decide +kernel
theorem dX1_letsPass_5 : decode cX1_letsPass 5 = .ok (.iload_n 2, 1) := by decide +kernel
theorem dX1_letsPass_6 : decode cX1_letsPass 6 = .ok (.bipush 48, 2) := by decide +kernel
theorem dX1_letsPass_8 : decode cX1_letsPass 8 = .ok (.if_icmp .gt 15, 3) := by decide +kernel
theorem dX1_letsPass_11 : decode cX1_letsPass 11 = .ok (.aload_n 1, 1) := by decide +kernel
theorem dX1_letsPass_12 : decode cX1_letsPass 12 = .ok (.getfield 70, 3) := by decide +kernel
theorem dX1_letsPass_15 : decode cX1_letsPass 15 = .ok (.iload_n 2, 1) := by decide +kernel
theorem dX1_letsPass_16 : decode cX1_letsPass 16 = .ok (.iadd, 1) := by decide +kernel
theorem dX1_letsPass_17 : decode cX1_letsPass 17 = .ok (.sipush 240, 3) := by decide +kernel
theorem dX1_letsPass_20 : decode cX1_letsPass 20 = .ok (.if_icmp .le 5, 3) := by decide +kernel
theorem dX1_letsPass_23 : decode cX1_letsPass 23 = .ok (.iconst 0, 1) := by decide +kernel
theorem dX1_letsPass_24 : decode cX1_letsPass 24 = .ok (.ireturn, 1) := by decide +kernel
theorem dX1_letsPass_25 : decode cX1_letsPass 25 = .ok (.iconst 0, 1) := by decide +kernel
theorem dX1_letsPass_26 : decode cX1_letsPass 26 = .ok (.istore_n 3, 1) := by decide +kernel
theorem dX1_letsPass_27 : decode cX1_letsPass 27 = .ok (.iload_n 3, 1) := by decide +kernel
theorem dX1_letsPass_28 : decode cX1_letsPass 28 = .ok (.iload_n 2, 1) := by decide +kernel
theorem dX1_letsPass_29 : decode cX1_letsPass 29 = .ok (.if_icmp .ge 13, 3) := by decide +kernel
theorem dX1_letsPass_32 : decode cX1_letsPass 32 = .ok (.aload_n 1, 1) := by decide +kernel
theorem dX1_letsPass_33 : decode cX1_letsPass 33 = .ok (.invokevirtual 73, 3) := by decide +kernel
theorem dX1_letsPass_36 : decode cX1_letsPass 36 = .ok (.iinc 3 1, 3) := by decide +kernel
theorem dX1_letsPass_39 : decode cX1_letsPass 39 = .ok (.goto (-12), 3) := by decide +kernel
theorem dX1_letsPass_42 : decode cX1_letsPass 42 = .ok (.iconst 1, 1) := by decide +kernel
theorem dX1_letsPass_43 : decode cX1_letsPass 43 = .ok (.ireturn, 1) := by decide +kernel
theorem dX1_changesOutdoors_0 : decode cX1_changesOutdoors 0 = .ok (.aload_n 0, 1) := by decide +kernel
theorem dX1_changesOutdoors_1 : decode cX1_changesOutdoors 1 = .ok (.getfield 20, 3) := by decide +kernel
theorem dX1_changesOutdoors_4 : decode cX1_changesOutdoors 4 = .ok (.iconst 1, 1) := by decide +kernel
theorem dX1_changesOutdoors_5 : decode cX1_changesOutdoors 5 = .ok (.if_icmp .ne 8, 3) := by decide +kernel
theorem dX1_changesOutdoors_8 : decode cX1_changesOutdoors 8 = .ok (.iload_n 2, 1) := by decide +kernel
theorem dX1_changesOutdoors_9 : decode cX1_changesOutdoors 9 = .ok (.ineg, 1) := by decide +kernel
theorem dX1_changesOutdoors_10 : decode cX1_changesOutdoors 10 = .ok (.goto 4, 3) := by decide +kernel
theorem dX1_changesOutdoors_13 : decode cX1_changesOutdoors 13 = .ok (.iload_n 2, 1) := by decide +kernel
theorem dX1_changesOutdoors_14 : decode cX1_changesOutdoors 14 = .ok (.istore_n 3, 1) := by decide +kernel
theorem dX1_changesOutdoors_15 : decode cX1_changesOutdoors 15 = .ok (.iload_n 3, 1) := by decide +kernel
theorem dX1_changesOutdoors_16 : decode cX1_changesOutdoors 16 = .ok (.bipush (-20), 2) := by decide +kernel
theorem dX1_changesOutdoors_18 : decode cX1_changesOutdoors 18 = .ok (.if_icmp .lt 9, 3) := by decide +kernel
theorem dX1_changesOutdoors_21 : decode cX1_changesOutdoors 21 = .ok (.iload_n 3, 1) := by decide +kernel
theorem dX1_changesOutdoors_22 : decode cX1_changesOutdoors 22 = .ok (.bipush 25, 2) := by decide +kernel
theorem dX1_changesOutdoors_24 : decode cX1_changesOutdoors 24 = .ok (.if_icmp .le 5, 3) := by decide +kernel
theorem dX1_changesOutdoors_27 : decode cX1_changesOutdoors 27 = .ok (.iconst 0, 1) := by decide +kernel
theorem dX1_changesOutdoors_28 : decode cX1_changesOutdoors 28 = .ok (.ireturn, 1) := by decide +kernel
theorem dX1_changesOutdoors_29 : decode cX1_changesOutdoors 29 = .ok (.aload_n 1, 1) := by decide +kernel
theorem dX1_changesOutdoors_30 : decode cX1_changesOutdoors 30 = .ok (.iload_n 3, 1) := by decide +kernel
theorem dX1_changesOutdoors_31 : decode cX1_changesOutdoors 31 = .ok (.putfield 76, 3) := by decide +kernel
theorem dX1_changesOutdoors_34 : decode cX1_changesOutdoors 34 = .ok (.iconst 1, 1) := by decide +kernel
theorem dX1_changesOutdoors_35 : decode cX1_changesOutdoors 35 = .ok (.ireturn, 1) := by decide +kernel
theorem dX1_proves_0 : decode cX1_proves 0 = .ok (.aload_n 1, 1) := by decide +kernel
theorem dX1_proves_1 : decode cX1_proves 1 = .ok (.aload_n 0, 1) := by decide +kernel
theorem dX1_proves_2 : decode cX1_proves 2 = .ok (.getfield 17, 3) := by decide +kernel
theorem dX1_proves_5 : decode cX1_proves 5 = .ok (.invokevirtual 46, 3) := by decide +kernel
theorem dX1_proves_8 : decode cX1_proves 8 = .ok (.ifnull 16, 3) := by decide +kernel
theorem dX1_proves_11 : decode cX1_proves 11 = .ok (.aload_n 1, 1) := by decide +kernel
theorem dX1_proves_12 : decode cX1_proves 12 = .ok (.aload_n 0, 1) := by decide +kernel
theorem dX1_proves_13 : decode cX1_proves 13 = .ok (.getfield 17, 3) := by decide +kernel
theorem dX1_proves_16 : decode cX1_proves 16 = .ok (.invokevirtual 79, 3) := by decide +kernel
theorem dX1_proves_19 : decode cX1_proves 19 = .ok (.bipush (-99), 2) := by decide +kernel
theorem dX1_proves_21 : decode cX1_proves 21 = .ok (.if_icmp .ne 5, 3) := by decide +kernel
theorem dX1_proves_24 : decode cX1_proves 24 = .ok (.iconst 0, 1) := by decide +kernel
theorem dX1_proves_25 : decode cX1_proves 25 = .ok (.ireturn, 1) := by decide +kernel
theorem dX1_proves_26 : decode cX1_proves 26 = .ok (.aload_n 1, 1) := by decide +kernel
theorem dX1_proves_27 : decode cX1_proves 27 = .ok (.aload_n 0, 1) := by decide +kernel
theorem dX1_proves_28 : decode cX1_proves 28 = .ok (.getfield 17, 3) := by decide +kernel
theorem dX1_proves_31 : decode cX1_proves 31 = .ok (.aload_n 0, 1) := by decide +kernel
theorem dX1_proves_32 : decode cX1_proves 32 = .ok (.getfield 20, 3) := by decide +kernel
theorem dX1_proves_35 : decode cX1_proves 35 = .ok (.iconst 1, 1) := by decide +kernel
theorem dX1_proves_36 : decode cX1_proves 36 = .ok (.if_icmp .ne 7, 3) := by decide +kernel
theorem dX1_proves_39 : decode cX1_proves 39 = .ok (.iconst 1, 1) := by decide +kernel
theorem dX1_proves_40 : decode cX1_proves 40 = .ok (.goto 4, 3) := by decide +kernel
theorem dX1_proves_43 : decode cX1_proves 43 = .ok (.iconst 0, 1) := by decide +kernel
theorem dX1_proves_44 : decode cX1_proves 44 = .ok (.invokevirtual 82, 3) := by decide +kernel
theorem dX1_proves_47 : decode cX1_proves 47 = .ok (.iconst 1, 1) := by decide +kernel
theorem dX1_proves_48 : decode cX1_proves 48 = .ok (.ireturn, 1) := by decide +kernel
theorem dX1_pays_0 : decode cX1_pays 0 = .ok (.aload_n 1, 1) := by decide +kernel
theorem dX1_pays_1 : decode cX1_pays 1 = .ok (.aload_n 0, 1) := by decide +kernel
theorem dX1_pays_2 : decode cX1_pays 2 = .ok (.getfield 17, 3) := by decide +kernel
theorem dX1_pays_5 : decode cX1_pays 5 = .ok (.invokevirtual 56, 3) := by decide +kernel
theorem dX1_pays_8 : decode cX1_pays 8 = .ok (.ifCond .ne 5, 3) := by decide +kernel
theorem dX1_pays_11 : decode cX1_pays 11 = .ok (.iconst 0, 1) := by decide +kernel
theorem dX1_pays_12 : decode cX1_pays 12 = .ok (.ireturn, 1) := by decide +kernel
theorem dX1_pays_13 : decode cX1_pays 13 = .ok (.aload_n 1, 1) := by decide +kernel
theorem dX1_pays_14 : decode cX1_pays 14 = .ok (.aload_n 0, 1) := by decide +kernel
theorem dX1_pays_15 : decode cX1_pays 15 = .ok (.getfield 17, 3) := by decide +kernel
theorem dX1_pays_18 : decode cX1_pays 18 = .ok (.invokevirtual 86, 3) := by decide +kernel
theorem dX1_pays_21 : decode cX1_pays 21 = .ok (.pop, 1) := by decide +kernel
theorem dX1_pays_22 : decode cX1_pays 22 = .ok (.iconst 1, 1) := by decide +kernel
theorem dX1_pays_23 : decode cX1_pays 23 = .ok (.ireturn, 1) := by decide +kernel
theorem dX1_cancels_0 : decode cX1_cancels 0 = .ok (.bipush 10, 2) := by decide +kernel
theorem dX1_cancels_2 : decode cX1_cancels 2 = .ok (.aload_n 0, 1) := by decide +kernel
theorem dX1_cancels_3 : decode cX1_cancels 3 = .ok (.getfield 17, 3) := by decide +kernel
theorem dX1_cancels_6 : decode cX1_cancels 6 = .ok (.imul, 1) := by decide +kernel
theorem dX1_cancels_7 : decode cX1_cancels 7 = .ok (.aload_n 0, 1) := by decide +kernel
theorem dX1_cancels_8 : decode cX1_cancels 8 = .ok (.getfield 20, 3) := by decide +kernel
theorem dX1_cancels_11 : decode cX1_cancels 11 = .ok (.iadd, 1) := by decide +kernel
theorem dX1_cancels_12 : decode cX1_cancels 12 = .ok (.istore_n 2, 1) := by decide +kernel
theorem dX1_cancels_13 : decode cX1_cancels 13 = .ok (.aload_n 1, 1) := by decide +kernel
theorem dX1_cancels_14 : decode cX1_cancels 14 = .ok (.iload_n 2, 1) := by decide +kernel
theorem dX1_cancels_15 : decode cX1_cancels 15 = .ok (.invokevirtual 89, 3) := by decide +kernel
theorem dX1_cancels_18 : decode cX1_cancels 18 = .ok (.astore_n 3, 1) := by decide +kernel
theorem dX1_cancels_19 : decode cX1_cancels 19 = .ok (.aload_n 3, 1) := by decide +kernel
theorem dX1_cancels_20 : decode cX1_cancels 20 = .ok (.ifnull 14, 3) := by decide +kernel
theorem dX1_cancels_23 : decode cX1_cancels 23 = .ok (.aload_n 3, 1) := by decide +kernel
theorem dX1_cancels_24 : decode cX1_cancels 24 = .ok (.aload_n 1, 1) := by decide +kernel
theorem dX1_cancels_25 : decode cX1_cancels 25 = .ok (.getfield 70, 3) := by decide +kernel
theorem dX1_cancels_28 : decode cX1_cancels 28 = .ok (.invokevirtual 93, 3) := by decide +kernel
theorem dX1_cancels_31 : decode cX1_cancels 31 = .ok (.ifCond .ne 5, 3) := by decide +kernel
theorem dX1_cancels_34 : decode cX1_cancels 34 = .ok (.iconst 0, 1) := by decide +kernel
theorem dX1_cancels_35 : decode cX1_cancels 35 = .ok (.ireturn, 1) := by decide +kernel
theorem dX1_cancels_36 : decode cX1_cancels 36 = .ok (.aload_n 1, 1) := by decide +kernel
theorem dX1_cancels_37 : decode cX1_cancels 37 = .ok (.iload_n 2, 1) := by decide +kernel
theorem dX1_cancels_38 : decode cX1_cancels 38 = .ok (.invokevirtual 98, 3) := by decide +kernel
theorem dX1_cancels_41 : decode cX1_cancels 41 = .ok (.iconst 1, 1) := by decide +kernel
theorem dX1_cancels_42 : decode cX1_cancels 42 = .ok (.ireturn, 1) := by decide +kernel
theorem dX1_isAsWarm_0 : decode cX1_isAsWarm 0 = .ok (.aload_n 1, 1) := by decide +kernel
theorem dX1_isAsWarm_1 : decode cX1_isAsWarm 1 = .ok (.ifnull 15, 3) := by decide +kernel
theorem dX1_isAsWarm_4 : decode cX1_isAsWarm 4 = .ok (.aload_n 1, 1) := by decide +kernel
theorem dX1_isAsWarm_5 : decode cX1_isAsWarm 5 = .ok (.getfield 102, 3) := by decide +kernel
theorem dX1_isAsWarm_8 : decode cX1_isAsWarm 8 = .ok (.iload_n 2, 1) := by decide +kernel
theorem dX1_isAsWarm_9 : decode cX1_isAsWarm 9 = .ok (.if_icmp .lt 7, 3) := by decide +kernel
theorem dX1_isAsWarm_12 : decode cX1_isAsWarm 12 = .ok (.iconst 1, 1) := by decide +kernel
theorem dX1_isAsWarm_13 : decode cX1_isAsWarm 13 = .ok (.goto 4, 3) := by decide +kernel
theorem dX1_isAsWarm_16 : decode cX1_isAsWarm 16 = .ok (.iconst 0, 1) := by decide +kernel
theorem dX1_isAsWarm_17 : decode cX1_isAsWarm 17 = .ok (.ireturn, 1) := by decide +kernel
theorem dX1_isOverOrNot_0 : decode cX1_isOverOrNot 0 = .ok (.aload_n 1, 1) := by decide +kernel
theorem dX1_isOverOrNot_1 : decode cX1_isOverOrNot 1 = .ok (.bipush 10, 2) := by decide +kernel
theorem dX1_isOverOrNot_3 : decode cX1_isOverOrNot 3 = .ok (.aload_n 0, 1) := by decide +kernel
theorem dX1_isOverOrNot_4 : decode cX1_isOverOrNot 4 = .ok (.getfield 17, 3) := by decide +kernel
theorem dX1_isOverOrNot_7 : decode cX1_isOverOrNot 7 = .ok (.imul, 1) := by decide +kernel
theorem dX1_isOverOrNot_8 : decode cX1_isOverOrNot 8 = .ok (.aload_n 0, 1) := by decide +kernel
theorem dX1_isOverOrNot_9 : decode cX1_isOverOrNot 9 = .ok (.getfield 20, 3) := by decide +kernel
theorem dX1_isOverOrNot_12 : decode cX1_isOverOrNot 12 = .ok (.iadd, 1) := by decide +kernel
theorem dX1_isOverOrNot_13 : decode cX1_isOverOrNot 13 = .ok (.invokevirtual 89, 3) := by decide +kernel
theorem dX1_isOverOrNot_16 : decode cX1_isOverOrNot 16 = .ok (.astore_n 2, 1) := by decide +kernel
theorem dX1_isOverOrNot_17 : decode cX1_isOverOrNot 17 = .ok (.aload_n 2, 1) := by decide +kernel
theorem dX1_isOverOrNot_18 : decode cX1_isOverOrNot 18 = .ok (.ifnull 31, 3) := by decide +kernel
theorem dX1_isOverOrNot_21 : decode cX1_isOverOrNot 21 = .ok (.aload_n 2, 1) := by decide +kernel
theorem dX1_isOverOrNot_22 : decode cX1_isOverOrNot 22 = .ok (.aload_n 1, 1) := by decide +kernel
theorem dX1_isOverOrNot_23 : decode cX1_isOverOrNot 23 = .ok (.getfield 70, 3) := by decide +kernel
theorem dX1_isOverOrNot_26 : decode cX1_isOverOrNot 26 = .ok (.invokevirtual 107, 3) := by decide +kernel
theorem dX1_isOverOrNot_29 : decode cX1_isOverOrNot 29 = .ok (.aload_n 0, 1) := by decide +kernel
theorem dX1_isOverOrNot_30 : decode cX1_isOverOrNot 30 = .ok (.getfield 26, 3) := by decide +kernel
theorem dX1_isOverOrNot_33 : decode cX1_isOverOrNot 33 = .ok (.iconst 1, 1) := by decide +kernel
theorem dX1_isOverOrNot_34 : decode cX1_isOverOrNot 34 = .ok (.if_icmp .ne 7, 3) := by decide +kernel
theorem dX1_isOverOrNot_37 : decode cX1_isOverOrNot 37 = .ok (.iconst 1, 1) := by decide +kernel
theorem dX1_isOverOrNot_38 : decode cX1_isOverOrNot 38 = .ok (.goto 4, 3) := by decide +kernel
theorem dX1_isOverOrNot_41 : decode cX1_isOverOrNot 41 = .ok (.iconst 0, 1) := by decide +kernel
theorem dX1_isOverOrNot_42 : decode cX1_isOverOrNot 42 = .ok (.if_icmp .ne 7, 3) := by decide +kernel
theorem dX1_isOverOrNot_45 : decode cX1_isOverOrNot 45 = .ok (.iconst 1, 1) := by decide +kernel
theorem dX1_isOverOrNot_46 : decode cX1_isOverOrNot 46 = .ok (.goto 4, 3) := by decide +kernel
theorem dX1_isOverOrNot_49 : decode cX1_isOverOrNot 49 = .ok (.iconst 0, 1) := by decide +kernel
theorem dX1_isOverOrNot_50 : decode cX1_isOverOrNot 50 = .ok (.ireturn, 1) := by decide +kernel
theorem dX2_init_0 : decode cX2_init 0 = .ok (.aload_n 0, 1) := by decide +kernel
theorem dX2_init_1 : decode cX2_init 1 = .ok (.invokespecial 3, 3) := by decide +kernel
theorem dX2_init_4 : decode cX2_init 4 = .ok (.aload_n 0, 1) := by decide +kernel
theorem dX2_init_5 : decode cX2_init 5 = .ok (.iconst 5, 1) := by decide +kernel
theorem dX2_init_6 : decode cX2_init 6 = .ok (.putfield 9, 3) := by decide +kernel
theorem dX2_init_9 : decode cX2_init 9 = .ok (.aload_n 0, 1) := by decide +kernel
theorem dX2_init_10 : decode cX2_init 10 = .ok (.iconst 4, 1) := by decide +kernel
theorem dX2_init_11 : decode cX2_init 11 = .ok (.anewarray 15, 3) := by decide +kernel
theorem dX2_init_14 : decode cX2_init 14 = .ok (.putfield 17, 3) := by decide +kernel
theorem dX2_init_17 : decode cX2_init 17 = .ok (.aload_n 0, 1) := by decide +kernel
theorem dX2_init_18 : decode cX2_init 18 = .ok (.bipush 6, 2) := by decide +kernel
theorem dX2_init_20 : decode cX2_init 20 = .ok (.newarray .int, 2) := by decide +kernel
theorem dX2_init_22 : decode cX2_init 22 = .ok (.putfield 21, 3) := by decide +kernel
theorem dX2_init_25 : decode cX2_init 25 = .ok (.aload_n 0, 1) := by decide +kernel
theorem dX2_init_26 : decode cX2_init 26 = .ok (.bipush 12, 2) := by decide +kernel
theorem dX2_init_28 : decode cX2_init 28 = .ok (.anewarray 25, 3) := by decide +kernel
theorem dX2_init_31 : decode cX2_init 31 = .ok (.putfield 27, 3) := by decide +kernel
theorem dX2_init_34 : decode cX2_init 34 = .ok (.iconst 0, 1) := by decide +kernel
theorem dX2_init_35 : decode cX2_init 35 = .ok (.istore_n 1, 1) := by decide +kernel
theorem dX2_init_36 : decode cX2_init 36 = .ok (.iload_n 1, 1) := by decide +kernel
theorem dX2_init_37 : decode cX2_init 37 = .ok (.aload_n 0, 1) := by decide +kernel
theorem dX2_init_38 : decode cX2_init 38 = .ok (.getfield 17, 3) := by decide +kernel
theorem dX2_init_41 : decode cX2_init 41 = .ok (.arraylength, 1) := by decide +kernel
theorem dX2_init_42 : decode cX2_init 42 = .ok (.if_icmp .ge 22, 3) := by decide +kernel
theorem dX2_init_45 : decode cX2_init 45 = .ok (.aload_n 0, 1) := by decide +kernel
theorem dX2_init_46 : decode cX2_init 46 = .ok (.getfield 17, 3) := by decide +kernel
theorem dX2_init_49 : decode cX2_init 49 = .ok (.iload_n 1, 1) := by decide +kernel
theorem dX2_init_50 : decode cX2_init 50 = .ok (.new 15, 3) := by decide +kernel
theorem dX2_init_53 : decode cX2_init 53 = .ok (.dup, 1) := by decide +kernel
theorem dX2_init_54 : decode cX2_init 54 = .ok (.invokespecial 31, 3) := by decide +kernel
theorem dX2_init_57 : decode cX2_init 57 = .ok (.aastore, 1) := by decide +kernel
theorem dX2_init_58 : decode cX2_init 58 = .ok (.iinc 1 1, 3) := by decide +kernel
theorem dX2_init_61 : decode cX2_init 61 = .ok (.goto (-25), 3) := by decide +kernel
theorem dX2_init_64 : decode cX2_init 64 = .ok (.iconst 0, 1) := by decide +kernel
theorem dX2_init_65 : decode cX2_init 65 = .ok (.istore_n 1, 1) := by decide +kernel
theorem dX2_init_66 : decode cX2_init 66 = .ok (.iload_n 1, 1) := by decide +kernel
theorem dX2_init_67 : decode cX2_init 67 = .ok (.aload_n 0, 1) := by decide +kernel
theorem dX2_init_68 : decode cX2_init 68 = .ok (.getfield 27, 3) := by decide +kernel
theorem dX2_init_71 : decode cX2_init 71 = .ok (.arraylength, 1) := by decide +kernel
theorem dX2_init_72 : decode cX2_init 72 = .ok (.if_icmp .ge 22, 3) := by decide +kernel
theorem dX2_init_75 : decode cX2_init 75 = .ok (.aload_n 0, 1) := by decide +kernel
theorem dX2_init_76 : decode cX2_init 76 = .ok (.getfield 27, 3) := by decide +kernel
theorem dX2_init_79 : decode cX2_init 79 = .ok (.iload_n 1, 1) := by decide +kernel
theorem dX2_init_80 : decode cX2_init 80 = .ok (.new 25, 3) := by decide +kernel
theorem dX2_init_83 : decode cX2_init 83 = .ok (.dup, 1) := by decide +kernel
theorem dX2_init_84 : decode cX2_init 84 = .ok (.invokespecial 32, 3) := by decide +kernel
theorem dX2_init_87 : decode cX2_init 87 = .ok (.aastore, 1) := by decide +kernel
theorem dX2_init_88 : decode cX2_init 88 = .ok (.iinc 1 1, 3) := by decide +kernel
theorem dX2_init_91 : decode cX2_init 91 = .ok (.goto (-25), 3) := by decide +kernel
theorem dX2_init_94 : decode cX2_init 94 = .ok (.return_, 1) := by decide +kernel
theorem dX2_clear_0 : decode cX2_clear 0 = .ok (.aload_n 0, 1) := by decide +kernel
theorem dX2_clear_1 : decode cX2_clear 1 = .ok (.iconst 0, 1) := by decide +kernel
theorem dX2_clear_2 : decode cX2_clear 2 = .ok (.putfield 33, 3) := by decide +kernel
theorem dX2_clear_5 : decode cX2_clear 5 = .ok (.aload_n 0, 1) := by decide +kernel
theorem dX2_clear_6 : decode cX2_clear 6 = .ok (.iconst 5, 1) := by decide +kernel
theorem dX2_clear_7 : decode cX2_clear 7 = .ok (.putfield 9, 3) := by decide +kernel
theorem dX2_clear_10 : decode cX2_clear 10 = .ok (.aload_n 0, 1) := by decide +kernel
theorem dX2_clear_11 : decode cX2_clear 11 = .ok (.iconst 0, 1) := by decide +kernel
theorem dX2_clear_12 : decode cX2_clear 12 = .ok (.putfield 36, 3) := by decide +kernel
theorem dX2_clear_15 : decode cX2_clear 15 = .ok (.aload_n 0, 1) := by decide +kernel
theorem dX2_clear_16 : decode cX2_clear 16 = .ok (.iconst 0, 1) := by decide +kernel
theorem dX2_clear_17 : decode cX2_clear 17 = .ok (.putfield 39, 3) := by decide +kernel
theorem dX2_clear_20 : decode cX2_clear 20 = .ok (.aload_n 0, 1) := by decide +kernel
theorem dX2_clear_21 : decode cX2_clear 21 = .ok (.iconst 0, 1) := by decide +kernel
theorem dX2_clear_22 : decode cX2_clear 22 = .ok (.putfield 42, 3) := by decide +kernel
theorem dX2_clear_25 : decode cX2_clear 25 = .ok (.aload_n 0, 1) := by decide +kernel
theorem dX2_clear_26 : decode cX2_clear 26 = .ok (.iconst 0, 1) := by decide +kernel
theorem dX2_clear_27 : decode cX2_clear 27 = .ok (.putfield 45, 3) := by decide +kernel
theorem dX2_clear_30 : decode cX2_clear 30 = .ok (.aload_n 0, 1) := by decide +kernel
theorem dX2_clear_31 : decode cX2_clear 31 = .ok (.iconst 0, 1) := by decide +kernel
theorem dX2_clear_32 : decode cX2_clear 32 = .ok (.putfield 48, 3) := by decide +kernel
theorem dX2_clear_35 : decode cX2_clear 35 = .ok (.aload_n 0, 1) := by decide +kernel
theorem dX2_clear_36 : decode cX2_clear 36 = .ok (.iconst 0, 1) := by decide +kernel
theorem dX2_clear_37 : decode cX2_clear 37 = .ok (.putfield 51, 3) := by decide +kernel
theorem dX2_clear_40 : decode cX2_clear 40 = .ok (.aload_n 0, 1) := by decide +kernel
theorem dX2_clear_41 : decode cX2_clear 41 = .ok (.iconst 0, 1) := by decide +kernel
theorem dX2_clear_42 : decode cX2_clear 42 = .ok (.putfield 54, 3) := by decide +kernel
theorem dX2_clear_45 : decode cX2_clear 45 = .ok (.return_, 1) := by decide +kernel
theorem dX2_copyFrom_0 : decode cX2_copyFrom 0 = .ok (.aload_n 0, 1) := by decide +kernel
theorem dX2_copyFrom_1 : decode cX2_copyFrom 1 = .ok (.aload_n 1, 1) := by decide +kernel
theorem dX2_copyFrom_2 : decode cX2_copyFrom 2 = .ok (.getfield 33, 3) := by decide +kernel
theorem dX2_copyFrom_5 : decode cX2_copyFrom 5 = .ok (.putfield 33, 3) := by decide +kernel
theorem dX2_copyFrom_8 : decode cX2_copyFrom 8 = .ok (.aload_n 0, 1) := by decide +kernel
theorem dX2_copyFrom_9 : decode cX2_copyFrom 9 = .ok (.aload_n 1, 1) := by decide +kernel
theorem dX2_copyFrom_10 : decode cX2_copyFrom 10 = .ok (.getfield 9, 3) := by decide +kernel
theorem dX2_copyFrom_13 : decode cX2_copyFrom 13 = .ok (.putfield 9, 3) := by decide +kernel
theorem dX2_copyFrom_16 : decode cX2_copyFrom 16 = .ok (.aload_n 0, 1) := by decide +kernel
theorem dX2_copyFrom_17 : decode cX2_copyFrom 17 = .ok (.aload_n 1, 1) := by decide +kernel
theorem dX2_copyFrom_18 : decode cX2_copyFrom 18 = .ok (.getfield 36, 3) := by decide +kernel
theorem dX2_copyFrom_21 : decode cX2_copyFrom 21 = .ok (.putfield 36, 3) := by decide +kernel
theorem dX2_copyFrom_24 : decode cX2_copyFrom 24 = .ok (.iconst 0, 1) := by decide +kernel
theorem dX2_copyFrom_25 : decode cX2_copyFrom 25 = .ok (.istore_n 2, 1) := by decide +kernel
theorem dX2_copyFrom_26 : decode cX2_copyFrom 26 = .ok (.iload_n 2, 1) := by decide +kernel
theorem dX2_copyFrom_27 : decode cX2_copyFrom 27 = .ok (.aload_n 0, 1) := by decide +kernel
theorem dX2_copyFrom_28 : decode cX2_copyFrom 28 = .ok (.getfield 36, 3) := by decide +kernel
theorem dX2_copyFrom_31 : decode cX2_copyFrom 31 = .ok (.if_icmp .ge 24, 3) := by decide +kernel
theorem dX2_copyFrom_34 : decode cX2_copyFrom 34 = .ok (.aload_n 0, 1) := by decide +kernel
theorem dX2_copyFrom_35 : decode cX2_copyFrom 35 = .ok (.getfield 17, 3) := by decide +kernel
theorem dX2_copyFrom_38 : decode cX2_copyFrom 38 = .ok (.iload_n 2, 1) := by decide +kernel
theorem dX2_copyFrom_39 : decode cX2_copyFrom 39 = .ok (.aaload, 1) := by decide +kernel
theorem dX2_copyFrom_40 : decode cX2_copyFrom 40 = .ok (.aload_n 1, 1) := by decide +kernel
theorem dX2_copyFrom_41 : decode cX2_copyFrom 41 = .ok (.getfield 17, 3) := by decide +kernel
theorem dX2_copyFrom_44 : decode cX2_copyFrom 44 = .ok (.iload_n 2, 1) := by decide +kernel
theorem dX2_copyFrom_45 : decode cX2_copyFrom 45 = .ok (.aaload, 1) := by decide +kernel
theorem dX2_copyFrom_46 : decode cX2_copyFrom 46 = .ok (.invokevirtual 57, 3) := by decide +kernel
theorem dX2_copyFrom_49 : decode cX2_copyFrom 49 = .ok (.iinc 2 1, 3) := by decide +kernel
theorem dX2_copyFrom_52 : decode cX2_copyFrom 52 = .ok (.goto (-26), 3) := by decide +kernel
theorem dX2_copyFrom_55 : decode cX2_copyFrom 55 = .ok (.aload_n 0, 1) := by decide +kernel
theorem dX2_copyFrom_56 : decode cX2_copyFrom 56 = .ok (.aload_n 1, 1) := by decide +kernel
theorem dX2_copyFrom_57 : decode cX2_copyFrom 57 = .ok (.getfield 39, 3) := by decide +kernel
theorem dX2_copyFrom_60 : decode cX2_copyFrom 60 = .ok (.putfield 39, 3) := by decide +kernel
theorem dX2_copyFrom_63 : decode cX2_copyFrom 63 = .ok (.aload_n 1, 1) := by decide +kernel
theorem dX2_copyFrom_64 : decode cX2_copyFrom 64 = .ok (.getfield 21, 3) := by decide +kernel
theorem dX2_copyFrom_67 : decode cX2_copyFrom 67 = .ok (.iconst 0, 1) := by decide +kernel
theorem dX2_copyFrom_68 : decode cX2_copyFrom 68 = .ok (.aload_n 0, 1) := by decide +kernel
theorem dX2_copyFrom_69 : decode cX2_copyFrom 69 = .ok (.getfield 21, 3) := by decide +kernel
theorem dX2_copyFrom_72 : decode cX2_copyFrom 72 = .ok (.iconst 0, 1) := by decide +kernel
theorem dX2_copyFrom_73 : decode cX2_copyFrom 73 = .ok (.bipush 6, 2) := by decide +kernel
theorem dX2_copyFrom_75 : decode cX2_copyFrom 75 = .ok (.invokestatic 61, 3) := by decide +kernel
theorem dX2_copyFrom_78 : decode cX2_copyFrom 78 = .ok (.aload_n 0, 1) := by decide +kernel
theorem dX2_copyFrom_79 : decode cX2_copyFrom 79 = .ok (.aload_n 1, 1) := by decide +kernel
theorem dX2_copyFrom_80 : decode cX2_copyFrom 80 = .ok (.getfield 42, 3) := by decide +kernel
theorem dX2_copyFrom_83 : decode cX2_copyFrom 83 = .ok (.putfield 42, 3) := by decide +kernel
theorem dX2_copyFrom_86 : decode cX2_copyFrom 86 = .ok (.iconst 0, 1) := by decide +kernel
theorem dX2_copyFrom_87 : decode cX2_copyFrom 87 = .ok (.istore_n 2, 1) := by decide +kernel
theorem dX2_copyFrom_88 : decode cX2_copyFrom 88 = .ok (.iload_n 2, 1) := by decide +kernel
theorem dX2_copyFrom_89 : decode cX2_copyFrom 89 = .ok (.aload_n 0, 1) := by decide +kernel
theorem dX2_copyFrom_90 : decode cX2_copyFrom 90 = .ok (.getfield 42, 3) := by decide +kernel
theorem dX2_copyFrom_93 : decode cX2_copyFrom 93 = .ok (.if_icmp .ge 24, 3) := by decide +kernel
theorem dX2_copyFrom_96 : decode cX2_copyFrom 96 = .ok (.aload_n 0, 1) := by decide +kernel
theorem dX2_copyFrom_97 : decode cX2_copyFrom 97 = .ok (.getfield 27, 3) := by decide +kernel
theorem dX2_copyFrom_100 : decode cX2_copyFrom 100 = .ok (.iload_n 2, 1) := by decide +kernel
theorem dX2_copyFrom_101 : decode cX2_copyFrom 101 = .ok (.aaload, 1) := by decide +kernel
theorem dX2_copyFrom_102 : decode cX2_copyFrom 102 = .ok (.aload_n 1, 1) := by decide +kernel
theorem dX2_copyFrom_103 : decode cX2_copyFrom 103 = .ok (.getfield 27, 3) := by decide +kernel
theorem dX2_copyFrom_106 : decode cX2_copyFrom 106 = .ok (.iload_n 2, 1) := by decide +kernel
theorem dX2_copyFrom_107 : decode cX2_copyFrom 107 = .ok (.aaload, 1) := by decide +kernel
theorem dX2_copyFrom_108 : decode cX2_copyFrom 108 = .ok (.invokevirtual 67, 3) := by decide +kernel
theorem dX2_copyFrom_111 : decode cX2_copyFrom 111 = .ok (.iinc 2 1, 3) := by decide +kernel
theorem dX2_copyFrom_114 : decode cX2_copyFrom 114 = .ok (.goto (-26), 3) := by decide +kernel
theorem dX2_copyFrom_117 : decode cX2_copyFrom 117 = .ok (.aload_n 0, 1) := by decide +kernel
theorem dX2_copyFrom_118 : decode cX2_copyFrom 118 = .ok (.aload_n 1, 1) := by decide +kernel
theorem dX2_copyFrom_119 : decode cX2_copyFrom 119 = .ok (.getfield 45, 3) := by decide +kernel
theorem dX2_copyFrom_122 : decode cX2_copyFrom 122 = .ok (.putfield 45, 3) := by decide +kernel
theorem dX2_copyFrom_125 : decode cX2_copyFrom 125 = .ok (.aload_n 0, 1) := by decide +kernel
theorem dX2_copyFrom_126 : decode cX2_copyFrom 126 = .ok (.aload_n 1, 1) := by decide +kernel
theorem dX2_copyFrom_127 : decode cX2_copyFrom 127 = .ok (.getfield 48, 3) := by decide +kernel
theorem dX2_copyFrom_130 : decode cX2_copyFrom 130 = .ok (.putfield 48, 3) := by decide +kernel
theorem dX2_copyFrom_133 : decode cX2_copyFrom 133 = .ok (.aload_n 0, 1) := by decide +kernel
theorem dX2_copyFrom_134 : decode cX2_copyFrom 134 = .ok (.aload_n 1, 1) := by decide +kernel
theorem dX2_copyFrom_135 : decode cX2_copyFrom 135 = .ok (.getfield 51, 3) := by decide +kernel
theorem dX2_copyFrom_138 : decode cX2_copyFrom 138 = .ok (.putfield 51, 3) := by decide +kernel
theorem dX2_copyFrom_141 : decode cX2_copyFrom 141 = .ok (.aload_n 0, 1) := by decide +kernel
theorem dX2_copyFrom_142 : decode cX2_copyFrom 142 = .ok (.aload_n 1, 1) := by decide +kernel
theorem dX2_copyFrom_143 : decode cX2_copyFrom 143 = .ok (.getfield 54, 3) := by decide +kernel
theorem dX2_copyFrom_146 : decode cX2_copyFrom 146 = .ok (.putfield 54, 3) := by decide +kernel
theorem dX2_copyFrom_149 : decode cX2_copyFrom 149 = .ok (.return_, 1) := by decide +kernel
theorem dX2_numberAbout_0 : decode cX2_numberAbout 0 = .ok (.iload_n 1, 1) := by decide +kernel
theorem dX2_numberAbout_1 : decode cX2_numberAbout 1 = .ok (.tableswitch 106 0 8 #[51, 56, 61, 66, 71, 76, 81, 86, 91], 51) := by decide +kernel
theorem dX2_numberAbout_52 : decode cX2_numberAbout 52 = .ok (.aload_n 0, 1) := by decide +kernel
theorem dX2_numberAbout_53 : decode cX2_numberAbout 53 = .ok (.getfield 33, 3) := by decide +kernel
theorem dX2_numberAbout_56 : decode cX2_numberAbout 56 = .ok (.ireturn, 1) := by decide +kernel
theorem dX2_numberAbout_57 : decode cX2_numberAbout 57 = .ok (.aload_n 0, 1) := by decide +kernel
theorem dX2_numberAbout_58 : decode cX2_numberAbout 58 = .ok (.getfield 36, 3) := by decide +kernel
theorem dX2_numberAbout_61 : decode cX2_numberAbout 61 = .ok (.ireturn, 1) := by decide +kernel
theorem dX2_numberAbout_62 : decode cX2_numberAbout 62 = .ok (.aload_n 0, 1) := by decide +kernel
theorem dX2_numberAbout_63 : decode cX2_numberAbout 63 = .ok (.getfield 39, 3) := by decide +kernel
theorem dX2_numberAbout_66 : decode cX2_numberAbout 66 = .ok (.ireturn, 1) := by decide +kernel
theorem dX2_numberAbout_67 : decode cX2_numberAbout 67 = .ok (.aload_n 0, 1) := by decide +kernel
theorem dX2_numberAbout_68 : decode cX2_numberAbout 68 = .ok (.getfield 42, 3) := by decide +kernel
theorem dX2_numberAbout_71 : decode cX2_numberAbout 71 = .ok (.ireturn, 1) := by decide +kernel
theorem dX2_numberAbout_72 : decode cX2_numberAbout 72 = .ok (.aload_n 0, 1) := by decide +kernel
theorem dX2_numberAbout_73 : decode cX2_numberAbout 73 = .ok (.getfield 9, 3) := by decide +kernel
theorem dX2_numberAbout_76 : decode cX2_numberAbout 76 = .ok (.ireturn, 1) := by decide +kernel
theorem dX2_numberAbout_77 : decode cX2_numberAbout 77 = .ok (.aload_n 0, 1) := by decide +kernel
theorem dX2_numberAbout_78 : decode cX2_numberAbout 78 = .ok (.getfield 45, 3) := by decide +kernel
theorem dX2_numberAbout_81 : decode cX2_numberAbout 81 = .ok (.ireturn, 1) := by decide +kernel
theorem dX2_numberAbout_82 : decode cX2_numberAbout 82 = .ok (.aload_n 0, 1) := by decide +kernel
theorem dX2_numberAbout_83 : decode cX2_numberAbout 83 = .ok (.getfield 48, 3) := by decide +kernel
theorem dX2_numberAbout_86 : decode cX2_numberAbout 86 = .ok (.ireturn, 1) := by decide +kernel
theorem dX2_numberAbout_87 : decode cX2_numberAbout 87 = .ok (.aload_n 0, 1) := by decide +kernel
theorem dX2_numberAbout_88 : decode cX2_numberAbout 88 = .ok (.getfield 51, 3) := by decide +kernel
theorem dX2_numberAbout_91 : decode cX2_numberAbout 91 = .ok (.ireturn, 1) := by decide +kernel
theorem dX2_numberAbout_92 : decode cX2_numberAbout 92 = .ok (.aload_n 0, 1) := by decide +kernel
theorem dX2_numberAbout_93 : decode cX2_numberAbout 93 = .ok (.getfield 45, 3) := by decide +kernel
theorem dX2_numberAbout_96 : decode cX2_numberAbout 96 = .ok (.aload_n 0, 1) := by decide +kernel
theorem dX2_numberAbout_97 : decode cX2_numberAbout 97 = .ok (.getfield 48, 3) := by decide +kernel
theorem dX2_numberAbout_100 : decode cX2_numberAbout 100 = .ok (.isub, 1) := by decide +kernel
theorem dX2_numberAbout_101 : decode cX2_numberAbout 101 = .ok (.aload_n 0, 1) := by decide +kernel
theorem dX2_numberAbout_102 : decode cX2_numberAbout 102 = .ok (.getfield 51, 3) := by decide +kernel
theorem dX2_numberAbout_105 : decode cX2_numberAbout 105 = .ok (.isub, 1) := by decide +kernel
theorem dX2_numberAbout_106 : decode cX2_numberAbout 106 = .ok (.ireturn, 1) := by decide +kernel
theorem dX2_numberAbout_107 : decode cX2_numberAbout 107 = .ok (.aload_n 0, 1) := by decide +kernel
theorem dX2_numberAbout_108 : decode cX2_numberAbout 108 = .ok (.getfield 54, 3) := by decide +kernel
theorem dX2_numberAbout_111 : decode cX2_numberAbout 111 = .ok (.ireturn, 1) := by decide +kernel
theorem dX2_findRoom_0 : decode cX2_findRoom 0 = .ok (.iload_n 1, 1) := by decide +kernel
theorem dX2_findRoom_1 : decode cX2_findRoom 1 = .ok (.ifCond .lt 20, 3) := by decide +kernel
theorem dX2_findRoom_4 : decode cX2_findRoom 4 = .ok (.iload_n 1, 1) := by decide +kernel
theorem dX2_findRoom_5 : decode cX2_findRoom 5 = .ok (.aload_n 0, 1) := by decide +kernel
theorem dX2_findRoom_6 : decode cX2_findRoom 6 = .ok (.getfield 36, 3) := by decide +kernel
theorem dX2_findRoom_9 : decode cX2_findRoom 9 = .ok (.if_icmp .ge 12, 3) := by decide +kernel
theorem dX2_findRoom_12 : decode cX2_findRoom 12 = .ok (.aload_n 0, 1) := by decide +kernel
theorem dX2_findRoom_13 : decode cX2_findRoom 13 = .ok (.getfield 17, 3) := by decide +kernel
theorem dX2_findRoom_16 : decode cX2_findRoom 16 = .ok (.iload_n 1, 1) := by decide +kernel
theorem dX2_findRoom_17 : decode cX2_findRoom 17 = .ok (.aaload, 1) := by decide +kernel
theorem dX2_findRoom_18 : decode cX2_findRoom 18 = .ok (.goto 4, 3) := by decide +kernel
theorem dX2_findRoom_21 : decode cX2_findRoom 21 = .ok (.aconst_null, 1) := by decide +kernel
theorem dX2_findRoom_22 : decode cX2_findRoom 22 = .ok (.areturn, 1) := by decide +kernel
theorem dX2_hasGroup_0 : decode cX2_hasGroup 0 = .ok (.iload_n 1, 1) := by decide +kernel
theorem dX2_hasGroup_1 : decode cX2_hasGroup 1 = .ok (.ifCond .lt 15, 3) := by decide +kernel
theorem dX2_hasGroup_4 : decode cX2_hasGroup 4 = .ok (.iload_n 1, 1) := by decide +kernel
theorem dX2_hasGroup_5 : decode cX2_hasGroup 5 = .ok (.aload_n 0, 1) := by decide +kernel
theorem dX2_hasGroup_6 : decode cX2_hasGroup 6 = .ok (.getfield 39, 3) := by decide +kernel
theorem dX2_hasGroup_9 : decode cX2_hasGroup 9 = .ok (.if_icmp .ge 7, 3) := by decide +kernel
theorem dX2_hasGroup_12 : decode cX2_hasGroup 12 = .ok (.iconst 1, 1) := by decide +kernel
theorem dX2_hasGroup_13 : decode cX2_hasGroup 13 = .ok (.goto 4, 3) := by decide +kernel
theorem dX2_hasGroup_16 : decode cX2_hasGroup 16 = .ok (.iconst 0, 1) := by decide +kernel
theorem dX2_hasGroup_17 : decode cX2_hasGroup 17 = .ok (.ireturn, 1) := by decide +kernel
theorem dX2_findBooking_0 : decode cX2_findBooking 0 = .ok (.iload_n 1, 1) := by decide +kernel
theorem dX2_findBooking_1 : decode cX2_findBooking 1 = .ok (.ifCond .lt 20, 3) := by decide +kernel
theorem dX2_findBooking_4 : decode cX2_findBooking 4 = .ok (.iload_n 1, 1) := by decide +kernel
theorem dX2_findBooking_5 : decode cX2_findBooking 5 = .ok (.aload_n 0, 1) := by decide +kernel
theorem dX2_findBooking_6 : decode cX2_findBooking 6 = .ok (.getfield 42, 3) := by decide +kernel
theorem dX2_findBooking_9 : decode cX2_findBooking 9 = .ok (.if_icmp .ge 12, 3) := by decide +kernel
theorem dX2_findBooking_12 : decode cX2_findBooking 12 = .ok (.aload_n 0, 1) := by decide +kernel
theorem dX2_findBooking_13 : decode cX2_findBooking 13 = .ok (.getfield 27, 3) := by decide +kernel
theorem dX2_findBooking_16 : decode cX2_findBooking 16 = .ok (.iload_n 1, 1) := by decide +kernel
theorem dX2_findBooking_17 : decode cX2_findBooking 17 = .ok (.aaload, 1) := by decide +kernel
theorem dX2_findBooking_18 : decode cX2_findBooking 18 = .ok (.goto 4, 3) := by decide +kernel
theorem dX2_findBooking_21 : decode cX2_findBooking 21 = .ok (.aconst_null, 1) := by decide +kernel
theorem dX2_findBooking_22 : decode cX2_findBooking 22 = .ok (.areturn, 1) := by decide +kernel
theorem dX2_newRoom_0 : decode cX2_newRoom 0 = .ok (.aload_n 0, 1) := by decide +kernel
theorem dX2_newRoom_1 : decode cX2_newRoom 1 = .ok (.getfield 36, 3) := by decide +kernel
theorem dX2_newRoom_4 : decode cX2_newRoom 4 = .ok (.aload_n 0, 1) := by decide +kernel
theorem dX2_newRoom_5 : decode cX2_newRoom 5 = .ok (.getfield 17, 3) := by decide +kernel
theorem dX2_newRoom_8 : decode cX2_newRoom 8 = .ok (.arraylength, 1) := by decide +kernel
theorem dX2_newRoom_9 : decode cX2_newRoom 9 = .ok (.if_icmp .lt 6, 3) := by decide +kernel
theorem dX2_newRoom_12 : decode cX2_newRoom 12 = .ok (.bipush (-99), 2) := by decide +kernel
theorem dX2_newRoom_14 : decode cX2_newRoom 14 = .ok (.ireturn, 1) := by decide +kernel
theorem dX2_newRoom_15 : decode cX2_newRoom 15 = .ok (.aload_n 0, 1) := by decide +kernel
theorem dX2_newRoom_16 : decode cX2_newRoom 16 = .ok (.getfield 17, 3) := by decide +kernel
theorem dX2_newRoom_19 : decode cX2_newRoom 19 = .ok (.aload_n 0, 1) := by decide +kernel
theorem dX2_newRoom_20 : decode cX2_newRoom 20 = .ok (.getfield 36, 3) := by decide +kernel
theorem dX2_newRoom_23 : decode cX2_newRoom 23 = .ok (.aaload, 1) := by decide +kernel
theorem dX2_newRoom_24 : decode cX2_newRoom 24 = .ok (.iload_n 1, 1) := by decide +kernel
theorem dX2_newRoom_25 : decode cX2_newRoom 25 = .ok (.iload_n 2, 1) := by decide +kernel
theorem dX2_newRoom_26 : decode cX2_newRoom 26 = .ok (.iload_n 3, 1) := by decide +kernel
theorem dX2_newRoom_27 : decode cX2_newRoom 27 = .ok (.iload 4, 2) := by decide +kernel
theorem dX2_newRoom_29 : decode cX2_newRoom 29 = .ok (.invokevirtual 70, 3) := by decide +kernel
theorem dX2_newRoom_32 : decode cX2_newRoom 32 = .ok (.aload_n 0, 1) := by decide +kernel
theorem dX2_newRoom_33 : decode cX2_newRoom 33 = .ok (.dup, 1) := by decide +kernel
theorem dX2_newRoom_34 : decode cX2_newRoom 34 = .ok (.getfield 36, 3) := by decide +kernel
theorem dX2_newRoom_37 : decode cX2_newRoom 37 = .ok (.iconst 1, 1) := by decide +kernel
theorem dX2_newRoom_38 : decode cX2_newRoom 38 = .ok (.iadd, 1) := by decide +kernel
theorem dX2_newRoom_39 : decode cX2_newRoom 39 = .ok (.putfield 36, 3) := by decide +kernel
theorem dX2_newRoom_42 : decode cX2_newRoom 42 = .ok (.aload_n 0, 1) := by decide +kernel
theorem dX2_newRoom_43 : decode cX2_newRoom 43 = .ok (.getfield 36, 3) := by decide +kernel
theorem dX2_newRoom_46 : decode cX2_newRoom 46 = .ok (.iconst 1, 1) := by decide +kernel
theorem dX2_newRoom_47 : decode cX2_newRoom 47 = .ok (.isub, 1) := by decide +kernel
theorem dX2_newRoom_48 : decode cX2_newRoom 48 = .ok (.ireturn, 1) := by decide +kernel
theorem dX2_newGroup_0 : decode cX2_newGroup 0 = .ok (.aload_n 0, 1) := by decide +kernel
theorem dX2_newGroup_1 : decode cX2_newGroup 1 = .ok (.getfield 39, 3) := by decide +kernel
theorem dX2_newGroup_4 : decode cX2_newGroup 4 = .ok (.aload_n 0, 1) := by decide +kernel
theorem dX2_newGroup_5 : decode cX2_newGroup 5 = .ok (.getfield 21, 3) := by decide +kernel
theorem dX2_newGroup_8 : decode cX2_newGroup 8 = .ok (.arraylength, 1) := by decide +kernel
theorem dX2_newGroup_9 : decode cX2_newGroup 9 = .ok (.if_icmp .lt 6, 3) := by decide +kernel
theorem dX2_newGroup_12 : decode cX2_newGroup 12 = .ok (.bipush (-99), 2) := by decide +kernel
theorem dX2_newGroup_14 : decode cX2_newGroup 14 = .ok (.ireturn, 1) := by decide +kernel
theorem dX2_newGroup_15 : decode cX2_newGroup 15 = .ok (.aload_n 0, 1) := by decide +kernel
theorem dX2_newGroup_16 : decode cX2_newGroup 16 = .ok (.getfield 21, 3) := by decide +kernel
theorem dX2_newGroup_19 : decode cX2_newGroup 19 = .ok (.aload_n 0, 1) := by decide +kernel
theorem dX2_newGroup_20 : decode cX2_newGroup 20 = .ok (.getfield 39, 3) := by decide +kernel
theorem dX2_newGroup_23 : decode cX2_newGroup 23 = .ok (.iconst 0, 1) := by decide +kernel
theorem dX2_newGroup_24 : decode cX2_newGroup 24 = .ok (.iastore, 1) := by decide +kernel
theorem dX2_newGroup_25 : decode cX2_newGroup 25 = .ok (.aload_n 0, 1) := by decide +kernel
theorem dX2_newGroup_26 : decode cX2_newGroup 26 = .ok (.dup, 1) := by decide +kernel
theorem dX2_newGroup_27 : decode cX2_newGroup 27 = .ok (.getfield 39, 3) := by decide +kernel
theorem dX2_newGroup_30 : decode cX2_newGroup 30 = .ok (.iconst 1, 1) := by decide +kernel
theorem dX2_newGroup_31 : decode cX2_newGroup 31 = .ok (.iadd, 1) := by decide +kernel
theorem dX2_newGroup_32 : decode cX2_newGroup 32 = .ok (.putfield 39, 3) := by decide +kernel
theorem dX2_newGroup_35 : decode cX2_newGroup 35 = .ok (.aload_n 0, 1) := by decide +kernel
theorem dX2_newGroup_36 : decode cX2_newGroup 36 = .ok (.getfield 39, 3) := by decide +kernel
theorem dX2_newGroup_39 : decode cX2_newGroup 39 = .ok (.iconst 1, 1) := by decide +kernel
theorem dX2_newGroup_40 : decode cX2_newGroup 40 = .ok (.isub, 1) := by decide +kernel
theorem dX2_newGroup_41 : decode cX2_newGroup 41 = .ok (.ireturn, 1) := by decide +kernel
theorem dX2_hasPlaceFor_0 : decode cX2_hasPlaceFor 0 = .ok (.iconst 0, 1) := by decide +kernel
theorem dX2_hasPlaceFor_1 : decode cX2_hasPlaceFor 1 = .ok (.istore 4, 2) := by decide +kernel
theorem dX2_hasPlaceFor_3 : decode cX2_hasPlaceFor 3 = .ok (.iload 4, 2) := by decide +kernel
theorem dX2_hasPlaceFor_5 : decode cX2_hasPlaceFor 5 = .ok (.aload_n 0, 1) := by decide +kernel
theorem dX2_hasPlaceFor_6 : decode cX2_hasPlaceFor 6 = .ok (.getfield 42, 3) := by decide +kernel
theorem dX2_hasPlaceFor_9 : decode cX2_hasPlaceFor 9 = .ok (.if_icmp .ge 40, 3) := by decide +kernel
theorem dX2_hasPlaceFor_12 : decode cX2_hasPlaceFor 12 = .ok (.aload_n 0, 1) := by decide +kernel
theorem dX2_hasPlaceFor_13 : decode cX2_hasPlaceFor 13 = .ok (.getfield 27, 3) := by decide +kernel
theorem dX2_hasPlaceFor_16 : decode cX2_hasPlaceFor 16 = .ok (.iload 4, 2) := by decide +kernel
theorem dX2_hasPlaceFor_18 : decode cX2_hasPlaceFor 18 = .ok (.aaload, 1) := by decide +kernel
theorem dX2_hasPlaceFor_19 : decode cX2_hasPlaceFor 19 = .ok (.getfield 74, 3) := by decide +kernel
theorem dX2_hasPlaceFor_22 : decode cX2_hasPlaceFor 22 = .ok (.iload_n 1, 1) := by decide +kernel
theorem dX2_hasPlaceFor_23 : decode cX2_hasPlaceFor 23 = .ok (.if_icmp .ne 20, 3) := by decide +kernel
theorem dX2_hasPlaceFor_26 : decode cX2_hasPlaceFor 26 = .ok (.aload_n 0, 1) := by decide +kernel
theorem dX2_hasPlaceFor_27 : decode cX2_hasPlaceFor 27 = .ok (.getfield 27, 3) := by decide +kernel
theorem dX2_hasPlaceFor_30 : decode cX2_hasPlaceFor 30 = .ok (.iload 4, 2) := by decide +kernel
theorem dX2_hasPlaceFor_32 : decode cX2_hasPlaceFor 32 = .ok (.aaload, 1) := by decide +kernel
theorem dX2_hasPlaceFor_33 : decode cX2_hasPlaceFor 33 = .ok (.iload_n 2, 1) := by decide +kernel
theorem dX2_hasPlaceFor_34 : decode cX2_hasPlaceFor 34 = .ok (.iload_n 3, 1) := by decide +kernel
theorem dX2_hasPlaceFor_35 : decode cX2_hasPlaceFor 35 = .ok (.invokevirtual 77, 3) := by decide +kernel
theorem dX2_hasPlaceFor_38 : decode cX2_hasPlaceFor 38 = .ok (.ifCond .eq 5, 3) := by decide +kernel
theorem dX2_hasPlaceFor_41 : decode cX2_hasPlaceFor 41 = .ok (.iconst 0, 1) := by decide +kernel
theorem dX2_hasPlaceFor_42 : decode cX2_hasPlaceFor 42 = .ok (.ireturn, 1) := by decide +kernel
theorem dX2_hasPlaceFor_43 : decode cX2_hasPlaceFor 43 = .ok (.iinc 4 1, 3) := by decide +kernel
theorem dX2_hasPlaceFor_46 : decode cX2_hasPlaceFor 46 = .ok (.goto (-43), 3) := by decide +kernel
theorem dX2_hasPlaceFor_49 : decode cX2_hasPlaceFor 49 = .ok (.aload_n 0, 1) := by decide +kernel
theorem dX2_hasPlaceFor_50 : decode cX2_hasPlaceFor 50 = .ok (.getfield 42, 3) := by decide +kernel
theorem dX2_hasPlaceFor_53 : decode cX2_hasPlaceFor 53 = .ok (.aload_n 0, 1) := by decide +kernel
theorem dX2_hasPlaceFor_54 : decode cX2_hasPlaceFor 54 = .ok (.getfield 27, 3) := by decide +kernel
theorem dX2_hasPlaceFor_57 : decode cX2_hasPlaceFor 57 = .ok (.arraylength, 1) := by decide +kernel
theorem dX2_hasPlaceFor_58 : decode cX2_hasPlaceFor 58 = .ok (.if_icmp .ge 7, 3) := by decide +kernel
theorem dX2_hasPlaceFor_61 : decode cX2_hasPlaceFor 61 = .ok (.iconst 1, 1) := by decide +kernel
theorem dX2_hasPlaceFor_62 : decode cX2_hasPlaceFor 62 = .ok (.goto 4, 3) := by decide +kernel
theorem dX2_hasPlaceFor_65 : decode cX2_hasPlaceFor 65 = .ok (.iconst 0, 1) := by decide +kernel
theorem dX2_hasPlaceFor_66 : decode cX2_hasPlaceFor 66 = .ok (.ireturn, 1) := by decide +kernel
theorem dX2_newBooking_0 : decode cX2_newBooking 0 = .ok (.aload_n 0, 1) := by decide +kernel
theorem dX2_newBooking_1 : decode cX2_newBooking 1 = .ok (.getfield 42, 3) := by decide +kernel
theorem dX2_newBooking_4 : decode cX2_newBooking 4 = .ok (.aload_n 0, 1) := by decide +kernel
theorem dX2_newBooking_5 : decode cX2_newBooking 5 = .ok (.getfield 27, 3) := by decide +kernel
theorem dX2_newBooking_8 : decode cX2_newBooking 8 = .ok (.arraylength, 1) := by decide +kernel
theorem dX2_newBooking_9 : decode cX2_newBooking 9 = .ok (.if_icmp .lt 6, 3) := by decide +kernel
theorem dX2_newBooking_12 : decode cX2_newBooking 12 = .ok (.bipush (-99), 2) := by decide +kernel
theorem dX2_newBooking_14 : decode cX2_newBooking 14 = .ok (.ireturn, 1) := by decide +kernel
theorem dX2_newBooking_15 : decode cX2_newBooking 15 = .ok (.aload_n 0, 1) := by decide +kernel
theorem dX2_newBooking_16 : decode cX2_newBooking 16 = .ok (.getfield 27, 3) := by decide +kernel
theorem dX2_newBooking_19 : decode cX2_newBooking 19 = .ok (.aload_n 0, 1) := by decide +kernel
theorem dX2_newBooking_20 : decode cX2_newBooking 20 = .ok (.getfield 42, 3) := by decide +kernel
theorem dX2_newBooking_23 : decode cX2_newBooking 23 = .ok (.aaload, 1) := by decide +kernel
theorem dX2_newBooking_24 : decode cX2_newBooking 24 = .ok (.iload_n 1, 1) := by decide +kernel
theorem dX2_newBooking_25 : decode cX2_newBooking 25 = .ok (.iload_n 2, 1) := by decide +kernel
theorem dX2_newBooking_26 : decode cX2_newBooking 26 = .ok (.iload_n 3, 1) := by decide +kernel
theorem dX2_newBooking_27 : decode cX2_newBooking 27 = .ok (.iload 4, 2) := by decide +kernel
theorem dX2_newBooking_29 : decode cX2_newBooking 29 = .ok (.iload 5, 2) := by decide +kernel
theorem dX2_newBooking_31 : decode cX2_newBooking 31 = .ok (.invokevirtual 81, 3) := by decide +kernel
theorem dX2_newBooking_34 : decode cX2_newBooking 34 = .ok (.aload_n 0, 1) := by decide +kernel
theorem dX2_newBooking_35 : decode cX2_newBooking 35 = .ok (.dup, 1) := by decide +kernel
theorem dX2_newBooking_36 : decode cX2_newBooking 36 = .ok (.getfield 42, 3) := by decide +kernel
theorem dX2_newBooking_39 : decode cX2_newBooking 39 = .ok (.iconst 1, 1) := by decide +kernel
theorem dX2_newBooking_40 : decode cX2_newBooking 40 = .ok (.iadd, 1) := by decide +kernel
theorem dX2_newBooking_41 : decode cX2_newBooking 41 = .ok (.putfield 42, 3) := by decide +kernel
theorem dX2_newBooking_44 : decode cX2_newBooking 44 = .ok (.aload_n 0, 1) := by decide +kernel
theorem dX2_newBooking_45 : decode cX2_newBooking 45 = .ok (.getfield 42, 3) := by decide +kernel
theorem dX2_newBooking_48 : decode cX2_newBooking 48 = .ok (.iconst 1, 1) := by decide +kernel
theorem dX2_newBooking_49 : decode cX2_newBooking 49 = .ok (.isub, 1) := by decide +kernel
theorem dX2_newBooking_50 : decode cX2_newBooking 50 = .ok (.ireturn, 1) := by decide +kernel
theorem dX2_removeBooking_0 : decode cX2_removeBooking 0 = .ok (.aload_n 0, 1) := by decide +kernel
theorem dX2_removeBooking_1 : decode cX2_removeBooking 1 = .ok (.iload_n 1, 1) := by decide +kernel
theorem dX2_removeBooking_2 : decode cX2_removeBooking 2 = .ok (.invokevirtual 84, 3) := by decide +kernel
theorem dX2_removeBooking_5 : decode cX2_removeBooking 5 = .ok (.astore_n 2, 1) := by decide +kernel
theorem dX2_removeBooking_6 : decode cX2_removeBooking 6 = .ok (.aload_n 2, 1) := by decide +kernel
theorem dX2_removeBooking_7 : decode cX2_removeBooking 7 = .ok (.ifnonnull 4, 3) := by decide +kernel
theorem dX2_removeBooking_10 : decode cX2_removeBooking 10 = .ok (.return_, 1) := by decide +kernel
theorem dX2_removeBooking_11 : decode cX2_removeBooking 11 = .ok (.iload_n 1, 1) := by decide +kernel
theorem dX2_removeBooking_12 : decode cX2_removeBooking 12 = .ok (.iconst 1, 1) := by decide +kernel
theorem dX2_removeBooking_13 : decode cX2_removeBooking 13 = .ok (.iadd, 1) := by decide +kernel
theorem dX2_removeBooking_14 : decode cX2_removeBooking 14 = .ok (.istore_n 3, 1) := by decide +kernel
theorem dX2_removeBooking_15 : decode cX2_removeBooking 15 = .ok (.iload_n 3, 1) := by decide +kernel
theorem dX2_removeBooking_16 : decode cX2_removeBooking 16 = .ok (.aload_n 0, 1) := by decide +kernel
theorem dX2_removeBooking_17 : decode cX2_removeBooking 17 = .ok (.getfield 42, 3) := by decide +kernel
theorem dX2_removeBooking_20 : decode cX2_removeBooking 20 = .ok (.if_icmp .ge 23, 3) := by decide +kernel
theorem dX2_removeBooking_23 : decode cX2_removeBooking 23 = .ok (.aload_n 0, 1) := by decide +kernel
theorem dX2_removeBooking_24 : decode cX2_removeBooking 24 = .ok (.getfield 27, 3) := by decide +kernel
theorem dX2_removeBooking_27 : decode cX2_removeBooking 27 = .ok (.iload_n 3, 1) := by decide +kernel
theorem dX2_removeBooking_28 : decode cX2_removeBooking 28 = .ok (.iconst 1, 1) := by decide +kernel
theorem dX2_removeBooking_29 : decode cX2_removeBooking 29 = .ok (.isub, 1) := by decide +kernel
theorem dX2_removeBooking_30 : decode cX2_removeBooking 30 = .ok (.aload_n 0, 1) := by decide +kernel
theorem dX2_removeBooking_31 : decode cX2_removeBooking 31 = .ok (.getfield 27, 3) := by decide +kernel
theorem dX2_removeBooking_34 : decode cX2_removeBooking 34 = .ok (.iload_n 3, 1) := by decide +kernel
theorem dX2_removeBooking_35 : decode cX2_removeBooking 35 = .ok (.aaload, 1) := by decide +kernel
theorem dX2_removeBooking_36 : decode cX2_removeBooking 36 = .ok (.aastore, 1) := by decide +kernel
theorem dX2_removeBooking_37 : decode cX2_removeBooking 37 = .ok (.iinc 3 1, 3) := by decide +kernel
theorem dX2_removeBooking_40 : decode cX2_removeBooking 40 = .ok (.goto (-25), 3) := by decide +kernel
theorem dX2_removeBooking_43 : decode cX2_removeBooking 43 = .ok (.aload_n 0, 1) := by decide +kernel
theorem dX2_removeBooking_44 : decode cX2_removeBooking 44 = .ok (.dup, 1) := by decide +kernel
theorem dX2_removeBooking_45 : decode cX2_removeBooking 45 = .ok (.getfield 42, 3) := by decide +kernel
theorem dX2_removeBooking_48 : decode cX2_removeBooking 48 = .ok (.iconst 1, 1) := by decide +kernel
theorem dX2_removeBooking_49 : decode cX2_removeBooking 49 = .ok (.isub, 1) := by decide +kernel
theorem dX2_removeBooking_50 : decode cX2_removeBooking 50 = .ok (.putfield 42, 3) := by decide +kernel
theorem dX2_removeBooking_53 : decode cX2_removeBooking 53 = .ok (.aload_n 0, 1) := by decide +kernel
theorem dX2_removeBooking_54 : decode cX2_removeBooking 54 = .ok (.getfield 27, 3) := by decide +kernel
theorem dX2_removeBooking_57 : decode cX2_removeBooking 57 = .ok (.aload_n 0, 1) := by decide +kernel
theorem dX2_removeBooking_58 : decode cX2_removeBooking 58 = .ok (.getfield 42, 3) := by decide +kernel
theorem dX2_removeBooking_61 : decode cX2_removeBooking 61 = .ok (.aload_n 2, 1) := by decide +kernel
theorem dX2_removeBooking_62 : decode cX2_removeBooking 62 = .ok (.aastore, 1) := by decide +kernel
theorem dX2_removeBooking_63 : decode cX2_removeBooking 63 = .ok (.return_, 1) := by decide +kernel
theorem dX2_bookingOfNow_0 : decode cX2_bookingOfNow 0 = .ok (.iconst 0, 1) := by decide +kernel
theorem dX2_bookingOfNow_1 : decode cX2_bookingOfNow 1 = .ok (.istore_n 2, 1) := by decide +kernel
theorem dX2_bookingOfNow_2 : decode cX2_bookingOfNow 2 = .ok (.iload_n 2, 1) := by decide +kernel
theorem dX2_bookingOfNow_3 : decode cX2_bookingOfNow 3 = .ok (.aload_n 0, 1) := by decide +kernel
theorem dX2_bookingOfNow_4 : decode cX2_bookingOfNow 4 = .ok (.getfield 42, 3) := by decide +kernel
theorem dX2_bookingOfNow_7 : decode cX2_bookingOfNow 7 = .ok (.if_icmp .ge 40, 3) := by decide +kernel
theorem dX2_bookingOfNow_10 : decode cX2_bookingOfNow 10 = .ok (.aload_n 0, 1) := by decide +kernel
theorem dX2_bookingOfNow_11 : decode cX2_bookingOfNow 11 = .ok (.getfield 27, 3) := by decide +kernel
theorem dX2_bookingOfNow_14 : decode cX2_bookingOfNow 14 = .ok (.iload_n 2, 1) := by decide +kernel
theorem dX2_bookingOfNow_15 : decode cX2_bookingOfNow 15 = .ok (.aaload, 1) := by decide +kernel
theorem dX2_bookingOfNow_16 : decode cX2_bookingOfNow 16 = .ok (.getfield 74, 3) := by decide +kernel
theorem dX2_bookingOfNow_19 : decode cX2_bookingOfNow 19 = .ok (.iload_n 1, 1) := by decide +kernel
theorem dX2_bookingOfNow_20 : decode cX2_bookingOfNow 20 = .ok (.if_icmp .ne 21, 3) := by decide +kernel
theorem dX2_bookingOfNow_23 : decode cX2_bookingOfNow 23 = .ok (.aload_n 0, 1) := by decide +kernel
theorem dX2_bookingOfNow_24 : decode cX2_bookingOfNow 24 = .ok (.getfield 27, 3) := by decide +kernel
theorem dX2_bookingOfNow_27 : decode cX2_bookingOfNow 27 = .ok (.iload_n 2, 1) := by decide +kernel
theorem dX2_bookingOfNow_28 : decode cX2_bookingOfNow 28 = .ok (.aaload, 1) := by decide +kernel
theorem dX2_bookingOfNow_29 : decode cX2_bookingOfNow 29 = .ok (.aload_n 0, 1) := by decide +kernel
theorem dX2_bookingOfNow_30 : decode cX2_bookingOfNow 30 = .ok (.getfield 33, 3) := by decide +kernel
theorem dX2_bookingOfNow_33 : decode cX2_bookingOfNow 33 = .ok (.invokevirtual 88, 3) := by decide +kernel
theorem dX2_bookingOfNow_36 : decode cX2_bookingOfNow 36 = .ok (.ifCond .eq 5, 3) := by decide +kernel
theorem dX2_bookingOfNow_39 : decode cX2_bookingOfNow 39 = .ok (.iload_n 2, 1) := by decide +kernel
theorem dX2_bookingOfNow_40 : decode cX2_bookingOfNow 40 = .ok (.ireturn, 1) := by decide +kernel
theorem dX2_bookingOfNow_41 : decode cX2_bookingOfNow 41 = .ok (.iinc 2 1, 3) := by decide +kernel
theorem dX2_bookingOfNow_44 : decode cX2_bookingOfNow 44 = .ok (.goto (-42), 3) := by decide +kernel
theorem dX2_bookingOfNow_47 : decode cX2_bookingOfNow 47 = .ok (.bipush (-99), 2) := by decide +kernel
theorem dX2_bookingOfNow_49 : decode cX2_bookingOfNow 49 = .ok (.ireturn, 1) := by decide +kernel
theorem dX2_nextBooking_0 : decode cX2_nextBooking 0 = .ok (.bipush (-99), 2) := by decide +kernel
theorem dX2_nextBooking_2 : decode cX2_nextBooking 2 = .ok (.istore_n 2, 1) := by decide +kernel
theorem dX2_nextBooking_3 : decode cX2_nextBooking 3 = .ok (.sipush 200, 3) := by decide +kernel
theorem dX2_nextBooking_6 : decode cX2_nextBooking 6 = .ok (.istore_n 3, 1) := by decide +kernel
theorem dX2_nextBooking_7 : decode cX2_nextBooking 7 = .ok (.iconst 0, 1) := by decide +kernel
theorem dX2_nextBooking_8 : decode cX2_nextBooking 8 = .ok (.istore 4, 2) := by decide +kernel
theorem dX2_nextBooking_10 : decode cX2_nextBooking 10 = .ok (.iload 4, 2) := by decide +kernel
theorem dX2_nextBooking_12 : decode cX2_nextBooking 12 = .ok (.aload_n 0, 1) := by decide +kernel
theorem dX2_nextBooking_13 : decode cX2_nextBooking 13 = .ok (.getfield 42, 3) := by decide +kernel
theorem dX2_nextBooking_16 : decode cX2_nextBooking 16 = .ok (.if_icmp .ge 56, 3) := by decide +kernel
theorem dX2_nextBooking_19 : decode cX2_nextBooking 19 = .ok (.aload_n 0, 1) := by decide +kernel
theorem dX2_nextBooking_20 : decode cX2_nextBooking 20 = .ok (.getfield 27, 3) := by decide +kernel
theorem dX2_nextBooking_23 : decode cX2_nextBooking 23 = .ok (.iload 4, 2) := by decide +kernel
theorem dX2_nextBooking_25 : decode cX2_nextBooking 25 = .ok (.aaload, 1) := by decide +kernel
theorem dX2_nextBooking_26 : decode cX2_nextBooking 26 = .ok (.getfield 92, 3) := by decide +kernel
theorem dX2_nextBooking_29 : decode cX2_nextBooking 29 = .ok (.istore 5, 2) := by decide +kernel
theorem dX2_nextBooking_31 : decode cX2_nextBooking 31 = .ok (.aload_n 0, 1) := by decide +kernel
theorem dX2_nextBooking_32 : decode cX2_nextBooking 32 = .ok (.getfield 27, 3) := by decide +kernel
theorem dX2_nextBooking_35 : decode cX2_nextBooking 35 = .ok (.iload 4, 2) := by decide +kernel
theorem dX2_nextBooking_37 : decode cX2_nextBooking 37 = .ok (.aaload, 1) := by decide +kernel
theorem dX2_nextBooking_38 : decode cX2_nextBooking 38 = .ok (.getfield 74, 3) := by decide +kernel
theorem dX2_nextBooking_41 : decode cX2_nextBooking 41 = .ok (.iload_n 1, 1) := by decide +kernel
theorem dX2_nextBooking_42 : decode cX2_nextBooking 42 = .ok (.if_icmp .ne 24, 3) := by decide +kernel
theorem dX2_nextBooking_45 : decode cX2_nextBooking 45 = .ok (.iload 5, 2) := by decide +kernel
theorem dX2_nextBooking_47 : decode cX2_nextBooking 47 = .ok (.aload_n 0, 1) := by decide +kernel
theorem dX2_nextBooking_48 : decode cX2_nextBooking 48 = .ok (.getfield 33, 3) := by decide +kernel
theorem dX2_nextBooking_51 : decode cX2_nextBooking 51 = .ok (.if_icmp .le 15, 3) := by decide +kernel
theorem dX2_nextBooking_54 : decode cX2_nextBooking 54 = .ok (.iload 5, 2) := by decide +kernel
theorem dX2_nextBooking_56 : decode cX2_nextBooking 56 = .ok (.iload_n 3, 1) := by decide +kernel
theorem dX2_nextBooking_57 : decode cX2_nextBooking 57 = .ok (.if_icmp .ge 9, 3) := by decide +kernel
theorem dX2_nextBooking_60 : decode cX2_nextBooking 60 = .ok (.iload 4, 2) := by decide +kernel
theorem dX2_nextBooking_62 : decode cX2_nextBooking 62 = .ok (.istore_n 2, 1) := by decide +kernel
theorem dX2_nextBooking_63 : decode cX2_nextBooking 63 = .ok (.iload 5, 2) := by decide +kernel
theorem dX2_nextBooking_65 : decode cX2_nextBooking 65 = .ok (.istore_n 3, 1) := by decide +kernel
theorem dX2_nextBooking_66 : decode cX2_nextBooking 66 = .ok (.iinc 4 1, 3) := by decide +kernel
theorem dX2_nextBooking_69 : decode cX2_nextBooking 69 = .ok (.goto (-59), 3) := by decide +kernel
theorem dX2_nextBooking_72 : decode cX2_nextBooking 72 = .ok (.iload_n 2, 1) := by decide +kernel
theorem dX2_nextBooking_73 : decode cX2_nextBooking 73 = .ok (.ireturn, 1) := by decide +kernel
theorem dX2_heatingBooking_0 : decode cX2_heatingBooking 0 = .ok (.aload_n 0, 1) := by decide +kernel
theorem dX2_heatingBooking_1 : decode cX2_heatingBooking 1 = .ok (.iload_n 1, 1) := by decide +kernel
theorem dX2_heatingBooking_2 : decode cX2_heatingBooking 2 = .ok (.invokevirtual 95, 3) := by decide +kernel
theorem dX2_heatingBooking_5 : decode cX2_heatingBooking 5 = .ok (.istore_n 2, 1) := by decide +kernel
theorem dX2_heatingBooking_6 : decode cX2_heatingBooking 6 = .ok (.iload_n 2, 1) := by decide +kernel
theorem dX2_heatingBooking_7 : decode cX2_heatingBooking 7 = .ok (.bipush (-99), 2) := by decide +kernel
theorem dX2_heatingBooking_9 : decode cX2_heatingBooking 9 = .ok (.if_icmp .eq 5, 3) := by decide +kernel
theorem dX2_heatingBooking_12 : decode cX2_heatingBooking 12 = .ok (.iload_n 2, 1) := by decide +kernel
theorem dX2_heatingBooking_13 : decode cX2_heatingBooking 13 = .ok (.ireturn, 1) := by decide +kernel
theorem dX2_heatingBooking_14 : decode cX2_heatingBooking 14 = .ok (.aload_n 0, 1) := by decide +kernel
theorem dX2_heatingBooking_15 : decode cX2_heatingBooking 15 = .ok (.iload_n 1, 1) := by decide +kernel
theorem dX2_heatingBooking_16 : decode cX2_heatingBooking 16 = .ok (.invokevirtual 99, 3) := by decide +kernel
theorem dX2_heatingBooking_19 : decode cX2_heatingBooking 19 = .ok (.istore_n 3, 1) := by decide +kernel
theorem dX2_heatingBooking_20 : decode cX2_heatingBooking 20 = .ok (.aload_n 0, 1) := by decide +kernel
theorem dX2_heatingBooking_21 : decode cX2_heatingBooking 21 = .ok (.aload_n 0, 1) := by decide +kernel
theorem dX2_heatingBooking_22 : decode cX2_heatingBooking 22 = .ok (.iload_n 1, 1) := by decide +kernel
theorem dX2_heatingBooking_23 : decode cX2_heatingBooking 23 = .ok (.invokevirtual 102, 3) := by decide +kernel
theorem dX2_heatingBooking_26 : decode cX2_heatingBooking 26 = .ok (.aload_n 0, 1) := by decide +kernel
theorem dX2_heatingBooking_27 : decode cX2_heatingBooking 27 = .ok (.iload_n 3, 1) := by decide +kernel
theorem dX2_heatingBooking_28 : decode cX2_heatingBooking 28 = .ok (.invokevirtual 84, 3) := by decide +kernel
theorem dX2_heatingBooking_31 : decode cX2_heatingBooking 31 = .ok (.invokevirtual 106, 3) := by decide +kernel
theorem dX2_heatingBooking_34 : decode cX2_heatingBooking 34 = .ok (.ifCond .eq 7, 3) := by decide +kernel
theorem dX2_heatingBooking_37 : decode cX2_heatingBooking 37 = .ok (.iload_n 3, 1) := by decide +kernel
theorem dX2_heatingBooking_38 : decode cX2_heatingBooking 38 = .ok (.goto 5, 3) := by decide +kernel
theorem dX2_heatingBooking_41 : decode cX2_heatingBooking 41 = .ok (.bipush (-99), 2) := by decide +kernel
theorem dX2_heatingBooking_43 : decode cX2_heatingBooking 43 = .ok (.ireturn, 1) := by decide +kernel
theorem dX2_mustPreheat_0 : decode cX2_mustPreheat 0 = .ok (.aload_n 1, 1) := by decide +kernel
theorem dX2_mustPreheat_1 : decode cX2_mustPreheat 1 = .ok (.ifnull 7, 3) := by decide +kernel
theorem dX2_mustPreheat_4 : decode cX2_mustPreheat 4 = .ok (.aload_n 2, 1) := by decide +kernel
theorem dX2_mustPreheat_5 : decode cX2_mustPreheat 5 = .ok (.ifnonnull 5, 3) := by decide +kernel
theorem dX2_mustPreheat_8 : decode cX2_mustPreheat 8 = .ok (.iconst 0, 1) := by decide +kernel
theorem dX2_mustPreheat_9 : decode cX2_mustPreheat 9 = .ok (.ireturn, 1) := by decide +kernel
theorem dX2_mustPreheat_10 : decode cX2_mustPreheat 10 = .ok (.aload_n 2, 1) := by decide +kernel
theorem dX2_mustPreheat_11 : decode cX2_mustPreheat 11 = .ok (.getfield 92, 3) := by decide +kernel
theorem dX2_mustPreheat_14 : decode cX2_mustPreheat 14 = .ok (.iconst 1, 1) := by decide +kernel
theorem dX2_mustPreheat_15 : decode cX2_mustPreheat 15 = .ok (.isub, 1) := by decide +kernel
theorem dX2_mustPreheat_16 : decode cX2_mustPreheat 16 = .ok (.aload_n 0, 1) := by decide +kernel
theorem dX2_mustPreheat_17 : decode cX2_mustPreheat 17 = .ok (.getfield 33, 3) := by decide +kernel
theorem dX2_mustPreheat_20 : decode cX2_mustPreheat 20 = .ok (.isub, 1) := by decide +kernel
theorem dX2_mustPreheat_21 : decode cX2_mustPreheat 21 = .ok (.istore_n 3, 1) := by decide +kernel
theorem dX2_mustPreheat_22 : decode cX2_mustPreheat 22 = .ok (.aload_n 2, 1) := by decide +kernel
theorem dX2_mustPreheat_23 : decode cX2_mustPreheat 23 = .ok (.getfield 110, 3) := by decide +kernel
theorem dX2_mustPreheat_26 : decode cX2_mustPreheat 26 = .ok (.ifCond .ne 25, 3) := by decide +kernel
theorem dX2_mustPreheat_29 : decode cX2_mustPreheat 29 = .ok (.aload_n 1, 1) := by decide +kernel
theorem dX2_mustPreheat_30 : decode cX2_mustPreheat 30 = .ok (.aload_n 0, 1) := by decide +kernel
theorem dX2_mustPreheat_31 : decode cX2_mustPreheat 31 = .ok (.getfield 9, 3) := by decide +kernel
theorem dX2_mustPreheat_34 : decode cX2_mustPreheat 34 = .ok (.invokevirtual 114, 3) := by decide +kernel
theorem dX2_mustPreheat_37 : decode cX2_mustPreheat 37 = .ok (.aload_n 1, 1) := by decide +kernel
theorem dX2_mustPreheat_38 : decode cX2_mustPreheat 38 = .ok (.getfield 117, 3) := by decide +kernel
theorem dX2_mustPreheat_41 : decode cX2_mustPreheat 41 = .ok (.iload_n 3, 1) := by decide +kernel
theorem dX2_mustPreheat_42 : decode cX2_mustPreheat 42 = .ok (.imul, 1) := by decide +kernel
theorem dX2_mustPreheat_43 : decode cX2_mustPreheat 43 = .ok (.iadd, 1) := by decide +kernel
theorem dX2_mustPreheat_44 : decode cX2_mustPreheat 44 = .ok (.aload_n 2, 1) := by decide +kernel
theorem dX2_mustPreheat_45 : decode cX2_mustPreheat 45 = .ok (.getfield 120, 3) := by decide +kernel
theorem dX2_mustPreheat_48 : decode cX2_mustPreheat 48 = .ok (.if_icmp .ge 7, 3) := by decide +kernel
theorem dX2_mustPreheat_51 : decode cX2_mustPreheat 51 = .ok (.iconst 1, 1) := by decide +kernel
theorem dX2_mustPreheat_52 : decode cX2_mustPreheat 52 = .ok (.goto 4, 3) := by decide +kernel
theorem dX2_mustPreheat_55 : decode cX2_mustPreheat 55 = .ok (.iconst 0, 1) := by decide +kernel
theorem dX2_mustPreheat_56 : decode cX2_mustPreheat 56 = .ok (.ireturn, 1) := by decide +kernel
theorem dX2_mark_0 : decode cX2_mark 0 = .ok (.aload_n 0, 1) := by decide +kernel
theorem dX2_mark_1 : decode cX2_mark 1 = .ok (.aload_n 0, 1) := by decide +kernel
theorem dX2_mark_2 : decode cX2_mark 2 = .ok (.iload_n 1, 1) := by decide +kernel
theorem dX2_mark_3 : decode cX2_mark 3 = .ok (.invokevirtual 95, 3) := by decide +kernel
theorem dX2_mark_6 : decode cX2_mark 6 = .ok (.invokevirtual 84, 3) := by decide +kernel
theorem dX2_mark_9 : decode cX2_mark 9 = .ok (.astore_n 3, 1) := by decide +kernel
theorem dX2_mark_10 : decode cX2_mark 10 = .ok (.aload_n 3, 1) := by decide +kernel
theorem dX2_mark_11 : decode cX2_mark 11 = .ok (.ifnull 8, 3) := by decide +kernel
theorem dX2_mark_14 : decode cX2_mark 14 = .ok (.aload_n 3, 1) := by decide +kernel
theorem dX2_mark_15 : decode cX2_mark 15 = .ok (.iload_n 2, 1) := by decide +kernel
theorem dX2_mark_16 : decode cX2_mark 16 = .ok (.putfield 123, 3) := by decide +kernel
theorem dX2_mark_19 : decode cX2_mark 19 = .ok (.return_, 1) := by decide +kernel
theorem dX2_markAll_0 : decode cX2_markAll 0 = .ok (.iconst 0, 1) := by decide +kernel
theorem dX2_markAll_1 : decode cX2_markAll 1 = .ok (.istore_n 1, 1) := by decide +kernel
theorem dX2_markAll_2 : decode cX2_markAll 2 = .ok (.iload_n 1, 1) := by decide +kernel
theorem dX2_markAll_3 : decode cX2_markAll 3 = .ok (.aload_n 0, 1) := by decide +kernel
theorem dX2_markAll_4 : decode cX2_markAll 4 = .ok (.getfield 36, 3) := by decide +kernel
theorem dX2_markAll_7 : decode cX2_markAll 7 = .ok (.if_icmp .ge 15, 3) := by decide +kernel
theorem dX2_markAll_10 : decode cX2_markAll 10 = .ok (.aload_n 0, 1) := by decide +kernel
theorem dX2_markAll_11 : decode cX2_markAll 11 = .ok (.iload_n 1, 1) := by decide +kernel
theorem dX2_markAll_12 : decode cX2_markAll 12 = .ok (.iconst 1, 1) := by decide +kernel
theorem dX2_markAll_13 : decode cX2_markAll 13 = .ok (.invokevirtual 126, 3) := by decide +kernel
theorem dX2_markAll_16 : decode cX2_markAll 16 = .ok (.iinc 1 1, 3) := by decide +kernel
theorem dX2_markAll_19 : decode cX2_markAll 19 = .ok (.goto (-17), 3) := by decide +kernel
theorem dX2_markAll_22 : decode cX2_markAll 22 = .ok (.return_, 1) := by decide +kernel
theorem dX2_owedBy_0 : decode cX2_owedBy 0 = .ok (.aload_n 0, 1) := by decide +kernel
theorem dX2_owedBy_1 : decode cX2_owedBy 1 = .ok (.iload_n 1, 1) := by decide +kernel
theorem dX2_owedBy_2 : decode cX2_owedBy 2 = .ok (.invokevirtual 130, 3) := by decide +kernel
theorem dX2_owedBy_5 : decode cX2_owedBy 5 = .ok (.ifCond .eq 12, 3) := by decide +kernel
theorem dX2_owedBy_8 : decode cX2_owedBy 8 = .ok (.aload_n 0, 1) := by decide +kernel
theorem dX2_owedBy_9 : decode cX2_owedBy 9 = .ok (.getfield 21, 3) := by decide +kernel
theorem dX2_owedBy_12 : decode cX2_owedBy 12 = .ok (.iload_n 1, 1) := by decide +kernel
theorem dX2_owedBy_13 : decode cX2_owedBy 13 = .ok (.iaload, 1) := by decide +kernel
theorem dX2_owedBy_14 : decode cX2_owedBy 14 = .ok (.goto 4, 3) := by decide +kernel
theorem dX2_owedBy_17 : decode cX2_owedBy 17 = .ok (.iconst 0, 1) := by decide +kernel
theorem dX2_owedBy_18 : decode cX2_owedBy 18 = .ok (.ireturn, 1) := by decide +kernel
theorem dX2_settle_0 : decode cX2_settle 0 = .ok (.aload_n 0, 1) := by decide +kernel
theorem dX2_settle_1 : decode cX2_settle 1 = .ok (.iload_n 1, 1) := by decide +kernel
theorem dX2_settle_2 : decode cX2_settle 2 = .ok (.invokevirtual 130, 3) := by decide +kernel
theorem dX2_settle_5 : decode cX2_settle 5 = .ok (.ifCond .ne 5, 3) := by decide +kernel
theorem dX2_settle_8 : decode cX2_settle 8 = .ok (.iconst 0, 1) := by decide +kernel
theorem dX2_settle_9 : decode cX2_settle 9 = .ok (.ireturn, 1) := by decide +kernel
theorem dX2_settle_10 : decode cX2_settle 10 = .ok (.aload_n 0, 1) := by decide +kernel
theorem dX2_settle_11 : decode cX2_settle 11 = .ok (.getfield 21, 3) := by decide +kernel
theorem dX2_settle_14 : decode cX2_settle 14 = .ok (.iload_n 1, 1) := by decide +kernel
theorem dX2_settle_15 : decode cX2_settle 15 = .ok (.iaload, 1) := by decide +kernel
theorem dX2_settle_16 : decode cX2_settle 16 = .ok (.istore_n 2, 1) := by decide +kernel
theorem dX2_settle_17 : decode cX2_settle 17 = .ok (.aload_n 0, 1) := by decide +kernel
theorem dX2_settle_18 : decode cX2_settle 18 = .ok (.getfield 21, 3) := by decide +kernel
theorem dX2_settle_21 : decode cX2_settle 21 = .ok (.iload_n 1, 1) := by decide +kernel
theorem dX2_settle_22 : decode cX2_settle 22 = .ok (.iconst 0, 1) := by decide +kernel
theorem dX2_settle_23 : decode cX2_settle 23 = .ok (.iastore, 1) := by decide +kernel
theorem dX2_settle_24 : decode cX2_settle 24 = .ok (.iload_n 2, 1) := by decide +kernel
theorem dX2_settle_25 : decode cX2_settle 25 = .ok (.ireturn, 1) := by decide +kernel
theorem dX2_letHoursPass_0 : decode cX2_letHoursPass 0 = .ok (.iconst 0, 1) := by decide +kernel
theorem dX2_letHoursPass_1 : decode cX2_letHoursPass 1 = .ok (.istore_n 2, 1) := by decide +kernel
theorem dX2_letHoursPass_2 : decode cX2_letHoursPass 2 = .ok (.iload_n 2, 1) := by decide +kernel
theorem dX2_letHoursPass_3 : decode cX2_letHoursPass 3 = .ok (.iload_n 1, 1) := by decide +kernel
theorem dX2_letHoursPass_4 : decode cX2_letHoursPass 4 = .ok (.if_icmp .ge 13, 3) := by decide +kernel
theorem dX2_letHoursPass_7 : decode cX2_letHoursPass 7 = .ok (.aload_n 0, 1) := by decide +kernel
theorem dX2_letHoursPass_8 : decode cX2_letHoursPass 8 = .ok (.invokevirtual 133, 3) := by decide +kernel
theorem dX2_letHoursPass_11 : decode cX2_letHoursPass 11 = .ok (.iinc 2 1, 3) := by decide +kernel
theorem dX2_letHoursPass_14 : decode cX2_letHoursPass 14 = .ok (.goto (-12), 3) := by decide +kernel
theorem dX2_letHoursPass_17 : decode cX2_letHoursPass 17 = .ok (.return_, 1) := by decide +kernel
theorem dX2_letHourPass_0 : decode cX2_letHourPass 0 = .ok (.iconst 0, 1) := by decide +kernel
theorem dX2_letHourPass_1 : decode cX2_letHourPass 1 = .ok (.istore_n 1, 1) := by decide +kernel
theorem dX2_letHourPass_2 : decode cX2_letHourPass 2 = .ok (.iconst 0, 1) := by decide +kernel
theorem dX2_letHourPass_3 : decode cX2_letHourPass 3 = .ok (.istore_n 2, 1) := by decide +kernel
theorem dX2_letHourPass_4 : decode cX2_letHourPass 4 = .ok (.iload_n 2, 1) := by decide +kernel
theorem dX2_letHourPass_5 : decode cX2_letHourPass 5 = .ok (.aload_n 0, 1) := by decide +kernel
theorem dX2_letHourPass_6 : decode cX2_letHourPass 6 = .ok (.getfield 36, 3) := by decide +kernel
theorem dX2_letHourPass_9 : decode cX2_letHourPass 9 = .ok (.if_icmp .ge 31, 3) := by decide +kernel
theorem dX2_letHourPass_12 : decode cX2_letHourPass 12 = .ok (.iload_n 1, 1) := by decide +kernel
theorem dX2_letHourPass_13 : decode cX2_letHourPass 13 = .ok (.aload_n 0, 1) := by decide +kernel
theorem dX2_letHourPass_14 : decode cX2_letHourPass 14 = .ok (.aload_n 0, 1) := by decide +kernel
theorem dX2_letHourPass_15 : decode cX2_letHourPass 15 = .ok (.getfield 17, 3) := by decide +kernel
theorem dX2_letHourPass_18 : decode cX2_letHourPass 18 = .ok (.iload_n 2, 1) := by decide +kernel
theorem dX2_letHourPass_19 : decode cX2_letHourPass 19 = .ok (.aaload, 1) := by decide +kernel
theorem dX2_letHourPass_20 : decode cX2_letHourPass 20 = .ok (.aload_n 0, 1) := by decide +kernel
theorem dX2_letHourPass_21 : decode cX2_letHourPass 21 = .ok (.aload_n 0, 1) := by decide +kernel
theorem dX2_letHourPass_22 : decode cX2_letHourPass 22 = .ok (.iload_n 2, 1) := by decide +kernel
theorem dX2_letHourPass_23 : decode cX2_letHourPass 23 = .ok (.invokevirtual 136, 3) := by decide +kernel
theorem dX2_letHourPass_26 : decode cX2_letHourPass 26 = .ok (.invokevirtual 84, 3) := by decide +kernel
theorem dX2_letHourPass_29 : decode cX2_letHourPass 29 = .ok (.invokevirtual 139, 3) := by decide +kernel
theorem dX2_letHourPass_32 : decode cX2_letHourPass 32 = .ok (.iadd, 1) := by decide +kernel
theorem dX2_letHourPass_33 : decode cX2_letHourPass 33 = .ok (.istore_n 1, 1) := by decide +kernel
theorem dX2_letHourPass_34 : decode cX2_letHourPass 34 = .ok (.iinc 2 1, 3) := by decide +kernel
theorem dX2_letHourPass_37 : decode cX2_letHourPass 37 = .ok (.goto (-33), 3) := by decide +kernel
theorem dX2_letHourPass_40 : decode cX2_letHourPass 40 = .ok (.aload_n 0, 1) := by decide +kernel
theorem dX2_letHourPass_41 : decode cX2_letHourPass 41 = .ok (.dup, 1) := by decide +kernel
theorem dX2_letHourPass_42 : decode cX2_letHourPass 42 = .ok (.getfield 45, 3) := by decide +kernel
theorem dX2_letHourPass_45 : decode cX2_letHourPass 45 = .ok (.iload_n 1, 1) := by decide +kernel
theorem dX2_letHourPass_46 : decode cX2_letHourPass 46 = .ok (.ifCond .le 9, 3) := by decide +kernel
theorem dX2_letHourPass_49 : decode cX2_letHourPass 49 = .ok (.iload_n 1, 1) := by decide +kernel
theorem dX2_letHourPass_50 : decode cX2_letHourPass 50 = .ok (.iconst 1, 1) := by decide +kernel
theorem dX2_letHourPass_51 : decode cX2_letHourPass 51 = .ok (.iadd, 1) := by decide +kernel
theorem dX2_letHourPass_52 : decode cX2_letHourPass 52 = .ok (.goto 4, 3) := by decide +kernel
theorem dX2_letHourPass_55 : decode cX2_letHourPass 55 = .ok (.iconst 0, 1) := by decide +kernel
theorem dX2_letHourPass_56 : decode cX2_letHourPass 56 = .ok (.iadd, 1) := by decide +kernel
theorem dX2_letHourPass_57 : decode cX2_letHourPass 57 = .ok (.putfield 45, 3) := by decide +kernel
theorem dX2_letHourPass_60 : decode cX2_letHourPass 60 = .ok (.aload_n 0, 1) := by decide +kernel
theorem dX2_letHourPass_61 : decode cX2_letHourPass 61 = .ok (.dup, 1) := by decide +kernel
theorem dX2_letHourPass_62 : decode cX2_letHourPass 62 = .ok (.getfield 33, 3) := by decide +kernel
theorem dX2_letHourPass_65 : decode cX2_letHourPass 65 = .ok (.iconst 1, 1) := by decide +kernel
theorem dX2_letHourPass_66 : decode cX2_letHourPass 66 = .ok (.iadd, 1) := by decide +kernel
theorem dX2_letHourPass_67 : decode cX2_letHourPass 67 = .ok (.putfield 33, 3) := by decide +kernel
theorem dX2_letHourPass_70 : decode cX2_letHourPass 70 = .ok (.iconst 0, 1) := by decide +kernel
theorem dX2_letHourPass_71 : decode cX2_letHourPass 71 = .ok (.istore_n 2, 1) := by decide +kernel
theorem dX2_letHourPass_72 : decode cX2_letHourPass 72 = .ok (.iload_n 2, 1) := by decide +kernel
theorem dX2_letHourPass_73 : decode cX2_letHourPass 73 = .ok (.aload_n 0, 1) := by decide +kernel
theorem dX2_letHourPass_74 : decode cX2_letHourPass 74 = .ok (.getfield 42, 3) := by decide +kernel
theorem dX2_letHourPass_77 : decode cX2_letHourPass 77 = .ok (.if_icmp .ge 45, 3) := by decide +kernel
theorem dX2_letHourPass_80 : decode cX2_letHourPass 80 = .ok (.aload_n 0, 1) := by decide +kernel
theorem dX2_letHourPass_81 : decode cX2_letHourPass 81 = .ok (.getfield 27, 3) := by decide +kernel
theorem dX2_letHourPass_84 : decode cX2_letHourPass 84 = .ok (.iload_n 2, 1) := by decide +kernel
theorem dX2_letHourPass_85 : decode cX2_letHourPass 85 = .ok (.aaload, 1) := by decide +kernel
theorem dX2_letHourPass_86 : decode cX2_letHourPass 86 = .ok (.iconst 0, 1) := by decide +kernel
theorem dX2_letHourPass_87 : decode cX2_letHourPass 87 = .ok (.putfield 123, 3) := by decide +kernel
theorem dX2_letHourPass_90 : decode cX2_letHourPass 90 = .ok (.aload_n 0, 1) := by decide +kernel
theorem dX2_letHourPass_91 : decode cX2_letHourPass 91 = .ok (.getfield 27, 3) := by decide +kernel
theorem dX2_letHourPass_94 : decode cX2_letHourPass 94 = .ok (.iload_n 2, 1) := by decide +kernel
theorem dX2_letHourPass_95 : decode cX2_letHourPass 95 = .ok (.aaload, 1) := by decide +kernel
theorem dX2_letHourPass_96 : decode cX2_letHourPass 96 = .ok (.invokevirtual 143, 3) := by decide +kernel
theorem dX2_letHourPass_99 : decode cX2_letHourPass 99 = .ok (.aload_n 0, 1) := by decide +kernel
theorem dX2_letHourPass_100 : decode cX2_letHourPass 100 = .ok (.getfield 33, 3) := by decide +kernel
theorem dX2_letHourPass_103 : decode cX2_letHourPass 103 = .ok (.if_icmp .ne 13, 3) := by decide +kernel
theorem dX2_letHourPass_106 : decode cX2_letHourPass 106 = .ok (.aload_n 0, 1) := by decide +kernel
theorem dX2_letHourPass_107 : decode cX2_letHourPass 107 = .ok (.aload_n 0, 1) := by decide +kernel
theorem dX2_letHourPass_108 : decode cX2_letHourPass 108 = .ok (.getfield 27, 3) := by decide +kernel
theorem dX2_letHourPass_111 : decode cX2_letHourPass 111 = .ok (.iload_n 2, 1) := by decide +kernel
theorem dX2_letHourPass_112 : decode cX2_letHourPass 112 = .ok (.aaload, 1) := by decide +kernel
theorem dX2_letHourPass_113 : decode cX2_letHourPass 113 = .ok (.invokevirtual 147, 3) := by decide +kernel
theorem dX2_letHourPass_116 : decode cX2_letHourPass 116 = .ok (.iinc 2 1, 3) := by decide +kernel
theorem dX2_letHourPass_119 : decode cX2_letHourPass 119 = .ok (.goto (-47), 3) := by decide +kernel
theorem dX2_letHourPass_122 : decode cX2_letHourPass 122 = .ok (.return_, 1) := by decide +kernel
theorem dX2_heatRoom_0 : decode cX2_heatRoom 0 = .ok (.aload_n 1, 1) := by decide +kernel
theorem dX2_heatRoom_1 : decode cX2_heatRoom 1 = .ok (.getfield 150, 3) := by decide +kernel
theorem dX2_heatRoom_4 : decode cX2_heatRoom 4 = .ok (.istore_n 3, 1) := by decide +kernel
theorem dX2_heatRoom_5 : decode cX2_heatRoom 5 = .ok (.aload_n 1, 1) := by decide +kernel
theorem dX2_heatRoom_6 : decode cX2_heatRoom 6 = .ok (.aload_n 1, 1) := by decide +kernel
theorem dX2_heatRoom_7 : decode cX2_heatRoom 7 = .ok (.aload_n 0, 1) := by decide +kernel
theorem dX2_heatRoom_8 : decode cX2_heatRoom 8 = .ok (.getfield 9, 3) := by decide +kernel
theorem dX2_heatRoom_11 : decode cX2_heatRoom 11 = .ok (.invokevirtual 114, 3) := by decide +kernel
theorem dX2_heatRoom_14 : decode cX2_heatRoom 14 = .ok (.putfield 150, 3) := by decide +kernel
theorem dX2_heatRoom_17 : decode cX2_heatRoom 17 = .ok (.aload_n 2, 1) := by decide +kernel
theorem dX2_heatRoom_18 : decode cX2_heatRoom 18 = .ok (.ifnonnull 5, 3) := by decide +kernel
theorem dX2_heatRoom_21 : decode cX2_heatRoom 21 = .ok (.iconst 0, 1) := by decide +kernel
theorem dX2_heatRoom_22 : decode cX2_heatRoom 22 = .ok (.ireturn, 1) := by decide +kernel
theorem dX2_heatRoom_23 : decode cX2_heatRoom 23 = .ok (.aload_n 1, 1) := by decide +kernel
theorem dX2_heatRoom_24 : decode cX2_heatRoom 24 = .ok (.aload_n 2, 1) := by decide +kernel
theorem dX2_heatRoom_25 : decode cX2_heatRoom 25 = .ok (.getfield 120, 3) := by decide +kernel
theorem dX2_heatRoom_28 : decode cX2_heatRoom 28 = .ok (.invokevirtual 153, 3) := by decide +kernel
theorem dX2_heatRoom_31 : decode cX2_heatRoom 31 = .ok (.istore 4, 2) := by decide +kernel
theorem dX2_heatRoom_33 : decode cX2_heatRoom 33 = .ok (.iload 4, 2) := by decide +kernel
theorem dX2_heatRoom_35 : decode cX2_heatRoom 35 = .ok (.ifCond .le 13, 3) := by decide +kernel
theorem dX2_heatRoom_38 : decode cX2_heatRoom 38 = .ok (.aload_n 0, 1) := by decide +kernel
theorem dX2_heatRoom_39 : decode cX2_heatRoom 39 = .ok (.dup, 1) := by decide +kernel
theorem dX2_heatRoom_40 : decode cX2_heatRoom 40 = .ok (.getfield 54, 3) := by decide +kernel
theorem dX2_heatRoom_43 : decode cX2_heatRoom 43 = .ok (.iconst 1, 1) := by decide +kernel
theorem dX2_heatRoom_44 : decode cX2_heatRoom 44 = .ok (.iadd, 1) := by decide +kernel
theorem dX2_heatRoom_45 : decode cX2_heatRoom 45 = .ok (.putfield 54, 3) := by decide +kernel
theorem dX2_heatRoom_48 : decode cX2_heatRoom 48 = .ok (.aload_n 2, 1) := by decide +kernel
theorem dX2_heatRoom_49 : decode cX2_heatRoom 49 = .ok (.aload_n 0, 1) := by decide +kernel
theorem dX2_heatRoom_50 : decode cX2_heatRoom 50 = .ok (.getfield 33, 3) := by decide +kernel
theorem dX2_heatRoom_53 : decode cX2_heatRoom 53 = .ok (.invokevirtual 88, 3) := by decide +kernel
theorem dX2_heatRoom_56 : decode cX2_heatRoom 56 = .ok (.ifCond .eq 14, 3) := by decide +kernel
theorem dX2_heatRoom_59 : decode cX2_heatRoom 59 = .ok (.aload_n 0, 1) := by decide +kernel
theorem dX2_heatRoom_60 : decode cX2_heatRoom 60 = .ok (.aload_n 2, 1) := by decide +kernel
theorem dX2_heatRoom_61 : decode cX2_heatRoom 61 = .ok (.iload 4, 2) := by decide +kernel
theorem dX2_heatRoom_63 : decode cX2_heatRoom 63 = .ok (.iload_n 3, 1) := by decide +kernel
theorem dX2_heatRoom_64 : decode cX2_heatRoom 64 = .ok (.invokevirtual 156, 3) := by decide +kernel
theorem dX2_heatRoom_67 : decode cX2_heatRoom 67 = .ok (.goto 10, 3) := by decide +kernel
theorem dX2_heatRoom_70 : decode cX2_heatRoom 70 = .ok (.aload_n 0, 1) := by decide +kernel
theorem dX2_heatRoom_71 : decode cX2_heatRoom 71 = .ok (.aload_n 2, 1) := by decide +kernel
theorem dX2_heatRoom_72 : decode cX2_heatRoom 72 = .ok (.iload 4, 2) := by decide +kernel
theorem dX2_heatRoom_74 : decode cX2_heatRoom 74 = .ok (.invokevirtual 160, 3) := by decide +kernel
theorem dX2_heatRoom_77 : decode cX2_heatRoom 77 = .ok (.iload 4, 2) := by decide +kernel
theorem dX2_heatRoom_79 : decode cX2_heatRoom 79 = .ok (.ireturn, 1) := by decide +kernel
theorem dX2_chargePreheat_0 : decode cX2_chargePreheat 0 = .ok (.aload_n 1, 1) := by decide +kernel
theorem dX2_chargePreheat_1 : decode cX2_chargePreheat 1 = .ok (.iconst 1, 1) := by decide +kernel
theorem dX2_chargePreheat_2 : decode cX2_chargePreheat 2 = .ok (.putfield 110, 3) := by decide +kernel
theorem dX2_chargePreheat_5 : decode cX2_chargePreheat 5 = .ok (.aload_n 1, 1) := by decide +kernel
theorem dX2_chargePreheat_6 : decode cX2_chargePreheat 6 = .ok (.dup, 1) := by decide +kernel
theorem dX2_chargePreheat_7 : decode cX2_chargePreheat 7 = .ok (.getfield 164, 3) := by decide +kernel
theorem dX2_chargePreheat_10 : decode cX2_chargePreheat 10 = .ok (.iload_n 2, 1) := by decide +kernel
theorem dX2_chargePreheat_11 : decode cX2_chargePreheat 11 = .ok (.iadd, 1) := by decide +kernel
theorem dX2_chargePreheat_12 : decode cX2_chargePreheat 12 = .ok (.putfield 164, 3) := by decide +kernel
theorem dX2_chargePreheat_15 : decode cX2_chargePreheat 15 = .ok (.aload_n 0, 1) := by decide +kernel
theorem dX2_chargePreheat_16 : decode cX2_chargePreheat 16 = .ok (.aload_n 1, 1) := by decide +kernel
theorem dX2_chargePreheat_17 : decode cX2_chargePreheat 17 = .ok (.getfield 167, 3) := by decide +kernel
theorem dX2_chargePreheat_20 : decode cX2_chargePreheat 20 = .ok (.iload_n 2, 1) := by decide +kernel
theorem dX2_chargePreheat_21 : decode cX2_chargePreheat 21 = .ok (.invokevirtual 170, 3) := by decide +kernel
theorem dX2_chargePreheat_24 : decode cX2_chargePreheat 24 = .ok (.return_, 1) := by decide +kernel
theorem dX2_chargeOwnHour_0 : decode cX2_chargeOwnHour 0 = .ok (.aload_n 1, 1) := by decide +kernel
theorem dX2_chargeOwnHour_1 : decode cX2_chargeOwnHour 1 = .ok (.dup, 1) := by decide +kernel
theorem dX2_chargeOwnHour_2 : decode cX2_chargeOwnHour 2 = .ok (.getfield 174, 3) := by decide +kernel
theorem dX2_chargeOwnHour_5 : decode cX2_chargeOwnHour 5 = .ok (.iload_n 2, 1) := by decide +kernel
theorem dX2_chargeOwnHour_6 : decode cX2_chargeOwnHour 6 = .ok (.iadd, 1) := by decide +kernel
theorem dX2_chargeOwnHour_7 : decode cX2_chargeOwnHour 7 = .ok (.putfield 174, 3) := by decide +kernel
theorem dX2_chargeOwnHour_10 : decode cX2_chargeOwnHour 10 = .ok (.iload_n 3, 1) := by decide +kernel
theorem dX2_chargeOwnHour_11 : decode cX2_chargeOwnHour 11 = .ok (.aload_n 1, 1) := by decide +kernel
theorem dX2_chargeOwnHour_12 : decode cX2_chargeOwnHour 12 = .ok (.getfield 120, 3) := by decide +kernel
theorem dX2_chargeOwnHour_15 : decode cX2_chargeOwnHour 15 = .ok (.iconst 1, 1) := by decide +kernel
theorem dX2_chargeOwnHour_16 : decode cX2_chargeOwnHour 16 = .ok (.isub, 1) := by decide +kernel
theorem dX2_chargeOwnHour_17 : decode cX2_chargeOwnHour 17 = .ok (.if_icmp .ge 13, 3) := by decide +kernel
theorem dX2_chargeOwnHour_20 : decode cX2_chargeOwnHour 20 = .ok (.aload_n 1, 1) := by decide +kernel
theorem dX2_chargeOwnHour_21 : decode cX2_chargeOwnHour 21 = .ok (.dup, 1) := by decide +kernel
theorem dX2_chargeOwnHour_22 : decode cX2_chargeOwnHour 22 = .ok (.getfield 177, 3) := by decide +kernel
theorem dX2_chargeOwnHour_25 : decode cX2_chargeOwnHour 25 = .ok (.iconst 1, 1) := by decide +kernel
theorem dX2_chargeOwnHour_26 : decode cX2_chargeOwnHour 26 = .ok (.iadd, 1) := by decide +kernel
theorem dX2_chargeOwnHour_27 : decode cX2_chargeOwnHour 27 = .ok (.putfield 177, 3) := by decide +kernel
theorem dX2_chargeOwnHour_30 : decode cX2_chargeOwnHour 30 = .ok (.aload_n 1, 1) := by decide +kernel
theorem dX2_chargeOwnHour_31 : decode cX2_chargeOwnHour 31 = .ok (.getfield 123, 3) := by decide +kernel
theorem dX2_chargeOwnHour_34 : decode cX2_chargeOwnHour 34 = .ok (.ifCond .eq 16, 3) := by decide +kernel
theorem dX2_chargeOwnHour_37 : decode cX2_chargeOwnHour 37 = .ok (.aload_n 0, 1) := by decide +kernel
theorem dX2_chargeOwnHour_38 : decode cX2_chargeOwnHour 38 = .ok (.dup, 1) := by decide +kernel
theorem dX2_chargeOwnHour_39 : decode cX2_chargeOwnHour 39 = .ok (.getfield 51, 3) := by decide +kernel
theorem dX2_chargeOwnHour_42 : decode cX2_chargeOwnHour 42 = .ok (.iload_n 2, 1) := by decide +kernel
theorem dX2_chargeOwnHour_43 : decode cX2_chargeOwnHour 43 = .ok (.iadd, 1) := by decide +kernel
theorem dX2_chargeOwnHour_44 : decode cX2_chargeOwnHour 44 = .ok (.putfield 51, 3) := by decide +kernel
theorem dX2_chargeOwnHour_47 : decode cX2_chargeOwnHour 47 = .ok (.goto 12, 3) := by decide +kernel
theorem dX2_chargeOwnHour_50 : decode cX2_chargeOwnHour 50 = .ok (.aload_n 0, 1) := by decide +kernel
theorem dX2_chargeOwnHour_51 : decode cX2_chargeOwnHour 51 = .ok (.aload_n 1, 1) := by decide +kernel
theorem dX2_chargeOwnHour_52 : decode cX2_chargeOwnHour 52 = .ok (.getfield 167, 3) := by decide +kernel
theorem dX2_chargeOwnHour_55 : decode cX2_chargeOwnHour 55 = .ok (.iload_n 2, 1) := by decide +kernel
theorem dX2_chargeOwnHour_56 : decode cX2_chargeOwnHour 56 = .ok (.invokevirtual 170, 3) := by decide +kernel
theorem dX2_chargeOwnHour_59 : decode cX2_chargeOwnHour 59 = .ok (.return_, 1) := by decide +kernel
theorem dX2_chargeGroup_0 : decode cX2_chargeGroup 0 = .ok (.iload_n 1, 1) := by decide +kernel
theorem dX2_chargeGroup_1 : decode cX2_chargeGroup 1 = .ok (.ifCond .lt 31, 3) := by decide +kernel
theorem dX2_chargeGroup_4 : decode cX2_chargeGroup 4 = .ok (.iload_n 1, 1) := by decide +kernel
theorem dX2_chargeGroup_5 : decode cX2_chargeGroup 5 = .ok (.aload_n 0, 1) := by decide +kernel
theorem dX2_chargeGroup_6 : decode cX2_chargeGroup 6 = .ok (.getfield 39, 3) := by decide +kernel
theorem dX2_chargeGroup_9 : decode cX2_chargeGroup 9 = .ok (.if_icmp .ge 23, 3) := by decide +kernel
theorem dX2_chargeGroup_12 : decode cX2_chargeGroup 12 = .ok (.aload_n 0, 1) := by decide +kernel
theorem dX2_chargeGroup_13 : decode cX2_chargeGroup 13 = .ok (.getfield 21, 3) := by decide +kernel
theorem dX2_chargeGroup_16 : decode cX2_chargeGroup 16 = .ok (.iload_n 1, 1) := by decide +kernel
theorem dX2_chargeGroup_17 : decode cX2_chargeGroup 17 = .ok (.dup2, 1) := by decide +kernel
theorem dX2_chargeGroup_18 : decode cX2_chargeGroup 18 = .ok (.iaload, 1) := by decide +kernel
theorem dX2_chargeGroup_19 : decode cX2_chargeGroup 19 = .ok (.iload_n 2, 1) := by decide +kernel
theorem dX2_chargeGroup_20 : decode cX2_chargeGroup 20 = .ok (.iadd, 1) := by decide +kernel
theorem dX2_chargeGroup_21 : decode cX2_chargeGroup 21 = .ok (.iastore, 1) := by decide +kernel
theorem dX2_chargeGroup_22 : decode cX2_chargeGroup 22 = .ok (.aload_n 0, 1) := by decide +kernel
theorem dX2_chargeGroup_23 : decode cX2_chargeGroup 23 = .ok (.dup, 1) := by decide +kernel
theorem dX2_chargeGroup_24 : decode cX2_chargeGroup 24 = .ok (.getfield 48, 3) := by decide +kernel
theorem dX2_chargeGroup_27 : decode cX2_chargeGroup 27 = .ok (.iload_n 2, 1) := by decide +kernel
theorem dX2_chargeGroup_28 : decode cX2_chargeGroup 28 = .ok (.iadd, 1) := by decide +kernel
theorem dX2_chargeGroup_29 : decode cX2_chargeGroup 29 = .ok (.putfield 48, 3) := by decide +kernel
theorem dX2_chargeGroup_32 : decode cX2_chargeGroup 32 = .ok (.return_, 1) := by decide +kernel
theorem dX2_leaveHeat_0 : decode cX2_leaveHeat 0 = .ok (.aload_n 1, 1) := by decide +kernel
theorem dX2_leaveHeat_1 : decode cX2_leaveHeat 1 = .ok (.getfield 164, 3) := by decide +kernel
theorem dX2_leaveHeat_4 : decode cX2_leaveHeat 4 = .ok (.iconst 2, 1) := by decide +kernel
theorem dX2_leaveHeat_5 : decode cX2_leaveHeat 5 = .ok (.idiv, 1) := by decide +kernel
theorem dX2_leaveHeat_6 : decode cX2_leaveHeat 6 = .ok (.istore_n 2, 1) := by decide +kernel
theorem dX2_leaveHeat_7 : decode cX2_leaveHeat 7 = .ok (.iconst 0, 1) := by decide +kernel
theorem dX2_leaveHeat_8 : decode cX2_leaveHeat 8 = .ok (.istore_n 3, 1) := by decide +kernel
theorem dX2_leaveHeat_9 : decode cX2_leaveHeat 9 = .ok (.iload_n 3, 1) := by decide +kernel
theorem dX2_leaveHeat_10 : decode cX2_leaveHeat 10 = .ok (.aload_n 0, 1) := by decide +kernel
theorem dX2_leaveHeat_11 : decode cX2_leaveHeat 11 = .ok (.getfield 42, 3) := by decide +kernel
theorem dX2_leaveHeat_14 : decode cX2_leaveHeat 14 = .ok (.if_icmp .ge 73, 3) := by decide +kernel
theorem dX2_leaveHeat_17 : decode cX2_leaveHeat 17 = .ok (.aload_n 0, 1) := by decide +kernel
theorem dX2_leaveHeat_18 : decode cX2_leaveHeat 18 = .ok (.getfield 27, 3) := by decide +kernel
theorem dX2_leaveHeat_21 : decode cX2_leaveHeat 21 = .ok (.iload_n 3, 1) := by decide +kernel
theorem dX2_leaveHeat_22 : decode cX2_leaveHeat 22 = .ok (.aaload, 1) := by decide +kernel
theorem dX2_leaveHeat_23 : decode cX2_leaveHeat 23 = .ok (.astore 4, 2) := by decide +kernel
theorem dX2_leaveHeat_25 : decode cX2_leaveHeat 25 = .ok (.aload 4, 2) := by decide +kernel
theorem dX2_leaveHeat_27 : decode cX2_leaveHeat 27 = .ok (.getfield 74, 3) := by decide +kernel
theorem dX2_leaveHeat_30 : decode cX2_leaveHeat 30 = .ok (.aload_n 1, 1) := by decide +kernel
theorem dX2_leaveHeat_31 : decode cX2_leaveHeat 31 = .ok (.getfield 74, 3) := by decide +kernel
theorem dX2_leaveHeat_34 : decode cX2_leaveHeat 34 = .ok (.if_icmp .ne 47, 3) := by decide +kernel
theorem dX2_leaveHeat_37 : decode cX2_leaveHeat 37 = .ok (.aload 4, 2) := by decide +kernel
theorem dX2_leaveHeat_39 : decode cX2_leaveHeat 39 = .ok (.getfield 92, 3) := by decide +kernel
theorem dX2_leaveHeat_42 : decode cX2_leaveHeat 42 = .ok (.aload_n 1, 1) := by decide +kernel
theorem dX2_leaveHeat_43 : decode cX2_leaveHeat 43 = .ok (.invokevirtual 143, 3) := by decide +kernel
theorem dX2_leaveHeat_46 : decode cX2_leaveHeat 46 = .ok (.if_icmp .ne 35, 3) := by decide +kernel
theorem dX2_leaveHeat_49 : decode cX2_leaveHeat 49 = .ok (.aload 4, 2) := by decide +kernel
theorem dX2_leaveHeat_51 : decode cX2_leaveHeat 51 = .ok (.getfield 167, 3) := by decide +kernel
theorem dX2_leaveHeat_54 : decode cX2_leaveHeat 54 = .ok (.aload_n 1, 1) := by decide +kernel
theorem dX2_leaveHeat_55 : decode cX2_leaveHeat 55 = .ok (.getfield 167, 3) := by decide +kernel
theorem dX2_leaveHeat_58 : decode cX2_leaveHeat 58 = .ok (.if_icmp .eq 23, 3) := by decide +kernel
theorem dX2_leaveHeat_61 : decode cX2_leaveHeat 61 = .ok (.aload_n 0, 1) := by decide +kernel
theorem dX2_leaveHeat_62 : decode cX2_leaveHeat 62 = .ok (.aload_n 1, 1) := by decide +kernel
theorem dX2_leaveHeat_63 : decode cX2_leaveHeat 63 = .ok (.getfield 167, 3) := by decide +kernel
theorem dX2_leaveHeat_66 : decode cX2_leaveHeat 66 = .ok (.iload_n 2, 1) := by decide +kernel
theorem dX2_leaveHeat_67 : decode cX2_leaveHeat 67 = .ok (.ineg, 1) := by decide +kernel
theorem dX2_leaveHeat_68 : decode cX2_leaveHeat 68 = .ok (.invokevirtual 170, 3) := by decide +kernel
theorem dX2_leaveHeat_71 : decode cX2_leaveHeat 71 = .ok (.aload_n 0, 1) := by decide +kernel
theorem dX2_leaveHeat_72 : decode cX2_leaveHeat 72 = .ok (.aload 4, 2) := by decide +kernel
theorem dX2_leaveHeat_74 : decode cX2_leaveHeat 74 = .ok (.getfield 167, 3) := by decide +kernel
theorem dX2_leaveHeat_77 : decode cX2_leaveHeat 77 = .ok (.iload_n 2, 1) := by decide +kernel
theorem dX2_leaveHeat_78 : decode cX2_leaveHeat 78 = .ok (.invokevirtual 170, 3) := by decide +kernel
theorem dX2_leaveHeat_81 : decode cX2_leaveHeat 81 = .ok (.iinc 3 1, 3) := by decide +kernel
theorem dX2_leaveHeat_84 : decode cX2_leaveHeat 84 = .ok (.goto (-75), 3) := by decide +kernel
theorem dX2_leaveHeat_87 : decode cX2_leaveHeat 87 = .ok (.return_, 1) := by decide +kernel
theorem dX2_endOfBookings_0 : decode cX2_endOfBookings 0 = .ok (.iconst 0, 1) := by decide +kernel
theorem dX2_endOfBookings_1 : decode cX2_endOfBookings 1 = .ok (.istore_n 1, 1) := by decide +kernel
theorem dX2_endOfBookings_2 : decode cX2_endOfBookings 2 = .ok (.iconst 0, 1) := by decide +kernel
theorem dX2_endOfBookings_3 : decode cX2_endOfBookings 3 = .ok (.istore_n 2, 1) := by decide +kernel
theorem dX2_endOfBookings_4 : decode cX2_endOfBookings 4 = .ok (.iload_n 2, 1) := by decide +kernel
theorem dX2_endOfBookings_5 : decode cX2_endOfBookings 5 = .ok (.aload_n 0, 1) := by decide +kernel
theorem dX2_endOfBookings_6 : decode cX2_endOfBookings 6 = .ok (.getfield 42, 3) := by decide +kernel
theorem dX2_endOfBookings_9 : decode cX2_endOfBookings 9 = .ok (.if_icmp .ge 23, 3) := by decide +kernel
theorem dX2_endOfBookings_12 : decode cX2_endOfBookings 12 = .ok (.iload_n 1, 1) := by decide +kernel
theorem dX2_endOfBookings_13 : decode cX2_endOfBookings 13 = .ok (.aload_n 0, 1) := by decide +kernel
theorem dX2_endOfBookings_14 : decode cX2_endOfBookings 14 = .ok (.getfield 27, 3) := by decide +kernel
theorem dX2_endOfBookings_17 : decode cX2_endOfBookings 17 = .ok (.iload_n 2, 1) := by decide +kernel
theorem dX2_endOfBookings_18 : decode cX2_endOfBookings 18 = .ok (.aaload, 1) := by decide +kernel
theorem dX2_endOfBookings_19 : decode cX2_endOfBookings 19 = .ok (.invokevirtual 143, 3) := by decide +kernel
theorem dX2_endOfBookings_22 : decode cX2_endOfBookings 22 = .ok (.invokestatic 180, 3) := by decide +kernel
theorem dX2_endOfBookings_25 : decode cX2_endOfBookings 25 = .ok (.istore_n 1, 1) := by decide +kernel
theorem dX2_endOfBookings_26 : decode cX2_endOfBookings 26 = .ok (.iinc 2 1, 3) := by decide +kernel
theorem dX2_endOfBookings_29 : decode cX2_endOfBookings 29 = .ok (.goto (-25), 3) := by decide +kernel
theorem dX2_endOfBookings_32 : decode cX2_endOfBookings 32 = .ok (.iload_n 1, 1) := by decide +kernel
theorem dX2_endOfBookings_33 : decode cX2_endOfBookings 33 = .ok (.ireturn, 1) := by decide +kernel
theorem dX2_coldestBooking_0 : decode cX2_coldestBooking 0 = .ok (.bipush (-99), 2) := by decide +kernel
theorem dX2_coldestBooking_2 : decode cX2_coldestBooking 2 = .ok (.istore_n 1, 1) := by decide +kernel
theorem dX2_coldestBooking_3 : decode cX2_coldestBooking 3 = .ok (.iconst (-1), 1) := by decide +kernel
theorem dX2_coldestBooking_4 : decode cX2_coldestBooking 4 = .ok (.istore_n 2, 1) := by decide +kernel
theorem dX2_coldestBooking_5 : decode cX2_coldestBooking 5 = .ok (.iconst 0, 1) := by decide +kernel
theorem dX2_coldestBooking_6 : decode cX2_coldestBooking 6 = .ok (.istore_n 3, 1) := by decide +kernel
theorem dX2_coldestBooking_7 : decode cX2_coldestBooking 7 = .ok (.iload_n 3, 1) := by decide +kernel
theorem dX2_coldestBooking_8 : decode cX2_coldestBooking 8 = .ok (.aload_n 0, 1) := by decide +kernel
theorem dX2_coldestBooking_9 : decode cX2_coldestBooking 9 = .ok (.getfield 42, 3) := by decide +kernel
theorem dX2_coldestBooking_12 : decode cX2_coldestBooking 12 = .ok (.if_icmp .ge 34, 3) := by decide +kernel
theorem dX2_coldestBooking_15 : decode cX2_coldestBooking 15 = .ok (.aload_n 0, 1) := by decide +kernel
theorem dX2_coldestBooking_16 : decode cX2_coldestBooking 16 = .ok (.getfield 27, 3) := by decide +kernel
theorem dX2_coldestBooking_19 : decode cX2_coldestBooking 19 = .ok (.iload_n 3, 1) := by decide +kernel
theorem dX2_coldestBooking_20 : decode cX2_coldestBooking 20 = .ok (.aaload, 1) := by decide +kernel
theorem dX2_coldestBooking_21 : decode cX2_coldestBooking 21 = .ok (.getfield 177, 3) := by decide +kernel
theorem dX2_coldestBooking_24 : decode cX2_coldestBooking 24 = .ok (.iload_n 2, 1) := by decide +kernel
theorem dX2_coldestBooking_25 : decode cX2_coldestBooking 25 = .ok (.if_icmp .le 15, 3) := by decide +kernel
theorem dX2_coldestBooking_28 : decode cX2_coldestBooking 28 = .ok (.iload_n 3, 1) := by decide +kernel
theorem dX2_coldestBooking_29 : decode cX2_coldestBooking 29 = .ok (.istore_n 1, 1) := by decide +kernel
theorem dX2_coldestBooking_30 : decode cX2_coldestBooking 30 = .ok (.aload_n 0, 1) := by decide +kernel
theorem dX2_coldestBooking_31 : decode cX2_coldestBooking 31 = .ok (.getfield 27, 3) := by decide +kernel
theorem dX2_coldestBooking_34 : decode cX2_coldestBooking 34 = .ok (.iload_n 3, 1) := by decide +kernel
theorem dX2_coldestBooking_35 : decode cX2_coldestBooking 35 = .ok (.aaload, 1) := by decide +kernel
theorem dX2_coldestBooking_36 : decode cX2_coldestBooking 36 = .ok (.getfield 177, 3) := by decide +kernel
theorem dX2_coldestBooking_39 : decode cX2_coldestBooking 39 = .ok (.istore_n 2, 1) := by decide +kernel
theorem dX2_coldestBooking_40 : decode cX2_coldestBooking 40 = .ok (.iinc 3 1, 3) := by decide +kernel
theorem dX2_coldestBooking_43 : decode cX2_coldestBooking 43 = .ok (.goto (-36), 3) := by decide +kernel
theorem dX2_coldestBooking_46 : decode cX2_coldestBooking 46 = .ok (.iload_n 1, 1) := by decide +kernel
theorem dX2_coldestBooking_47 : decode cX2_coldestBooking 47 = .ok (.ireturn, 1) := by decide +kernel
theorem dX3_init_0 : decode cX3_init 0 = .ok (.aload_n 0, 1) := by decide +kernel
theorem dX3_init_1 : decode cX3_init 1 = .ok (.invokespecial 3, 3) := by decide +kernel
theorem dX3_init_4 : decode cX3_init 4 = .ok (.aload_n 0, 1) := by decide +kernel
theorem dX3_init_5 : decode cX3_init 5 = .ok (.bipush 120, 2) := by decide +kernel
theorem dX3_init_7 : decode cX3_init 7 = .ok (.newarray .int, 2) := by decide +kernel
theorem dX3_init_9 : decode cX3_init 9 = .ok (.putfield 9, 3) := by decide +kernel
theorem dX3_init_12 : decode cX3_init 12 = .ok (.return_, 1) := by decide +kernel
theorem dX3_add_0 : decode cX3_add 0 = .ok (.aload_n 0, 1) := by decide +kernel
theorem dX3_add_1 : decode cX3_add 1 = .ok (.getfield 15, 3) := by decide +kernel
theorem dX3_add_4 : decode cX3_add 4 = .ok (.aload_n 0, 1) := by decide +kernel
theorem dX3_add_5 : decode cX3_add 5 = .ok (.getfield 9, 3) := by decide +kernel
theorem dX3_add_8 : decode cX3_add 8 = .ok (.arraylength, 1) := by decide +kernel
theorem dX3_add_9 : decode cX3_add 9 = .ok (.if_icmp .ge 23, 3) := by decide +kernel
theorem dX3_add_12 : decode cX3_add 12 = .ok (.aload_n 0, 1) := by decide +kernel
theorem dX3_add_13 : decode cX3_add 13 = .ok (.getfield 9, 3) := by decide +kernel
theorem dX3_add_16 : decode cX3_add 16 = .ok (.aload_n 0, 1) := by decide +kernel
theorem dX3_add_17 : decode cX3_add 17 = .ok (.getfield 15, 3) := by decide +kernel
theorem dX3_add_20 : decode cX3_add 20 = .ok (.iload_n 1, 1) := by decide +kernel
theorem dX3_add_21 : decode cX3_add 21 = .ok (.iastore, 1) := by decide +kernel
theorem dX3_add_22 : decode cX3_add 22 = .ok (.aload_n 0, 1) := by decide +kernel
theorem dX3_add_23 : decode cX3_add 23 = .ok (.dup, 1) := by decide +kernel
theorem dX3_add_24 : decode cX3_add 24 = .ok (.getfield 15, 3) := by decide +kernel
theorem dX3_add_27 : decode cX3_add 27 = .ok (.iconst 1, 1) := by decide +kernel
theorem dX3_add_28 : decode cX3_add 28 = .ok (.iadd, 1) := by decide +kernel
theorem dX3_add_29 : decode cX3_add 29 = .ok (.putfield 15, 3) := by decide +kernel
theorem dX3_add_32 : decode cX3_add 32 = .ok (.return_, 1) := by decide +kernel
theorem dX3_readInto_0 : decode cX3_readInto 0 = .ok (.aload_n 1, 1) := by decide +kernel
theorem dX3_readInto_1 : decode cX3_readInto 1 = .ok (.invokevirtual 19, 3) := by decide +kernel
theorem dX3_readInto_4 : decode cX3_readInto 4 = .ok (.aload_n 0, 1) := by decide +kernel
theorem dX3_readInto_5 : decode cX3_readInto 5 = .ok (.iconst 0, 1) := by decide +kernel
theorem dX3_readInto_6 : decode cX3_readInto 6 = .ok (.putfield 24, 3) := by decide +kernel
theorem dX3_readInto_9 : decode cX3_readInto 9 = .ok (.aload_n 0, 1) := by decide +kernel
theorem dX3_readInto_10 : decode cX3_readInto 10 = .ok (.bipush (-99), 2) := by decide +kernel
theorem dX3_readInto_12 : decode cX3_readInto 12 = .ok (.putfield 27, 3) := by decide +kernel
theorem dX3_readInto_15 : decode cX3_readInto 15 = .ok (.aload_n 0, 1) := by decide +kernel
theorem dX3_readInto_16 : decode cX3_readInto 16 = .ok (.aload_n 0, 1) := by decide +kernel
theorem dX3_readInto_17 : decode cX3_readInto 17 = .ok (.invokevirtual 30, 3) := by decide +kernel
theorem dX3_readInto_20 : decode cX3_readInto 20 = .ok (.bipush 72, 2) := by decide +kernel
theorem dX3_readInto_22 : decode cX3_readInto 22 = .ok (.if_icmp .ne 7, 3) := by decide +kernel
theorem dX3_readInto_25 : decode cX3_readInto 25 = .ok (.iconst 1, 1) := by decide +kernel
theorem dX3_readInto_26 : decode cX3_readInto 26 = .ok (.goto 4, 3) := by decide +kernel
theorem dX3_readInto_29 : decode cX3_readInto 29 = .ok (.iconst 0, 1) := by decide +kernel
theorem dX3_readInto_30 : decode cX3_readInto 30 = .ok (.invokevirtual 34, 3) := by decide +kernel
theorem dX3_readInto_33 : decode cX3_readInto 33 = .ok (.iconst 0, 1) := by decide +kernel
theorem dX3_readInto_34 : decode cX3_readInto 34 = .ok (.istore_n 2, 1) := by decide +kernel
theorem dX3_readInto_35 : decode cX3_readInto 35 = .ok (.iload_n 2, 1) := by decide +kernel
theorem dX3_readInto_36 : decode cX3_readInto 36 = .ok (.bipush 120, 2) := by decide +kernel
theorem dX3_readInto_38 : decode cX3_readInto 38 = .ok (.if_icmp .ge 34, 3) := by decide +kernel
theorem dX3_readInto_41 : decode cX3_readInto 41 = .ok (.aload_n 0, 1) := by decide +kernel
theorem dX3_readInto_42 : decode cX3_readInto 42 = .ok (.getfield 27, 3) := by decide +kernel
theorem dX3_readInto_45 : decode cX3_readInto 45 = .ok (.bipush (-99), 2) := by decide +kernel
theorem dX3_readInto_47 : decode cX3_readInto 47 = .ok (.if_icmp .ne 25, 3) := by decide +kernel
theorem dX3_readInto_50 : decode cX3_readInto 50 = .ok (.aload_n 0, 1) := by decide +kernel
theorem dX3_readInto_51 : decode cX3_readInto 51 = .ok (.getfield 24, 3) := by decide +kernel
theorem dX3_readInto_54 : decode cX3_readInto 54 = .ok (.aload_n 0, 1) := by decide +kernel
theorem dX3_readInto_55 : decode cX3_readInto 55 = .ok (.getfield 15, 3) := by decide +kernel
theorem dX3_readInto_58 : decode cX3_readInto 58 = .ok (.if_icmp .ge 14, 3) := by decide +kernel
theorem dX3_readInto_61 : decode cX3_readInto 61 = .ok (.aload_n 0, 1) := by decide +kernel
theorem dX3_readInto_62 : decode cX3_readInto 62 = .ok (.aload_n 1, 1) := by decide +kernel
theorem dX3_readInto_63 : decode cX3_readInto 63 = .ok (.invokevirtual 38, 3) := by decide +kernel
theorem dX3_readInto_66 : decode cX3_readInto 66 = .ok (.iinc 2 1, 3) := by decide +kernel
theorem dX3_readInto_69 : decode cX3_readInto 69 = .ok (.goto (-34), 3) := by decide +kernel
theorem dX3_readInto_72 : decode cX3_readInto 72 = .ok (.aload_n 0, 1) := by decide +kernel
theorem dX3_readInto_73 : decode cX3_readInto 73 = .ok (.getfield 27, 3) := by decide +kernel
theorem dX3_readInto_76 : decode cX3_readInto 76 = .ok (.ireturn, 1) := by decide +kernel
theorem dX3_readPart_0 : decode cX3_readPart 0 = .ok (.aload_n 0, 1) := by decide +kernel
theorem dX3_readPart_1 : decode cX3_readPart 1 = .ok (.invokevirtual 30, 3) := by decide +kernel
theorem dX3_readPart_4 : decode cX3_readPart 4 = .ok (.lookupswitch 76 #[(98, 68), (103, 52), (111, 60), (114, 44)], 44) := by decide +kernel
theorem dX3_readPart_48 : decode cX3_readPart 48 = .ok (.aload_n 0, 1) := by decide +kernel
theorem dX3_readPart_49 : decode cX3_readPart 49 = .ok (.aload_n 1, 1) := by decide +kernel
theorem dX3_readPart_50 : decode cX3_readPart 50 = .ok (.invokevirtual 42, 3) := by decide +kernel
theorem dX3_readPart_53 : decode cX3_readPart 53 = .ok (.goto 32, 3) := by decide +kernel
theorem dX3_readPart_56 : decode cX3_readPart 56 = .ok (.aload_n 0, 1) := by decide +kernel
theorem dX3_readPart_57 : decode cX3_readPart 57 = .ok (.aload_n 1, 1) := by decide +kernel
theorem dX3_readPart_58 : decode cX3_readPart 58 = .ok (.invokevirtual 45, 3) := by decide +kernel
theorem dX3_readPart_61 : decode cX3_readPart 61 = .ok (.goto 24, 3) := by decide +kernel
theorem dX3_readPart_64 : decode cX3_readPart 64 = .ok (.aload_n 0, 1) := by decide +kernel
theorem dX3_readPart_65 : decode cX3_readPart 65 = .ok (.aload_n 1, 1) := by decide +kernel
theorem dX3_readPart_66 : decode cX3_readPart 66 = .ok (.invokevirtual 48, 3) := by decide +kernel
theorem dX3_readPart_69 : decode cX3_readPart 69 = .ok (.goto 16, 3) := by decide +kernel
theorem dX3_readPart_72 : decode cX3_readPart 72 = .ok (.aload_n 0, 1) := by decide +kernel
theorem dX3_readPart_73 : decode cX3_readPart 73 = .ok (.aload_n 1, 1) := by decide +kernel
theorem dX3_readPart_74 : decode cX3_readPart 74 = .ok (.invokevirtual 51, 3) := by decide +kernel
theorem dX3_readPart_77 : decode cX3_readPart 77 = .ok (.goto 8, 3) := by decide +kernel
theorem dX3_readPart_80 : decode cX3_readPart 80 = .ok (.aload_n 0, 1) := by decide +kernel
theorem dX3_readPart_81 : decode cX3_readPart 81 = .ok (.iconst 0, 1) := by decide +kernel
theorem dX3_readPart_82 : decode cX3_readPart 82 = .ok (.invokevirtual 34, 3) := by decide +kernel
theorem dX3_readPart_85 : decode cX3_readPart 85 = .ok (.return_, 1) := by decide +kernel
theorem dX3_readRoom_0 : decode cX3_readRoom 0 = .ok (.aload_n 0, 1) := by decide +kernel
theorem dX3_readRoom_1 : decode cX3_readRoom 1 = .ok (.aload_n 1, 1) := by decide +kernel
theorem dX3_readRoom_2 : decode cX3_readRoom 2 = .ok (.getfield 54, 3) := by decide +kernel
theorem dX3_readRoom_5 : decode cX3_readRoom 5 = .ok (.iconst 4, 1) := by decide +kernel
theorem dX3_readRoom_6 : decode cX3_readRoom 6 = .ok (.if_icmp .ge 7, 3) := by decide +kernel
theorem dX3_readRoom_9 : decode cX3_readRoom 9 = .ok (.iconst 1, 1) := by decide +kernel
theorem dX3_readRoom_10 : decode cX3_readRoom 10 = .ok (.goto 4, 3) := by decide +kernel
theorem dX3_readRoom_13 : decode cX3_readRoom 13 = .ok (.iconst 0, 1) := by decide +kernel
theorem dX3_readRoom_14 : decode cX3_readRoom 14 = .ok (.invokevirtual 34, 3) := by decide +kernel
theorem dX3_readRoom_17 : decode cX3_readRoom 17 = .ok (.aload_n 0, 1) := by decide +kernel
theorem dX3_readRoom_18 : decode cX3_readRoom 18 = .ok (.iconst 1, 1) := by decide +kernel
theorem dX3_readRoom_19 : decode cX3_readRoom 19 = .ok (.iconst 1, 1) := by decide +kernel
theorem dX3_readRoom_20 : decode cX3_readRoom 20 = .ok (.bipush 9, 2) := by decide +kernel
theorem dX3_readRoom_22 : decode cX3_readRoom 22 = .ok (.invokevirtual 57, 3) := by decide +kernel
theorem dX3_readRoom_25 : decode cX3_readRoom 25 = .ok (.istore_n 2, 1) := by decide +kernel
theorem dX3_readRoom_26 : decode cX3_readRoom 26 = .ok (.aload_n 0, 1) := by decide +kernel
theorem dX3_readRoom_27 : decode cX3_readRoom 27 = .ok (.iconst 1, 1) := by decide +kernel
theorem dX3_readRoom_28 : decode cX3_readRoom 28 = .ok (.iconst 1, 1) := by decide +kernel
theorem dX3_readRoom_29 : decode cX3_readRoom 29 = .ok (.bipush 9, 2) := by decide +kernel
theorem dX3_readRoom_31 : decode cX3_readRoom 31 = .ok (.invokevirtual 57, 3) := by decide +kernel
theorem dX3_readRoom_34 : decode cX3_readRoom 34 = .ok (.istore_n 3, 1) := by decide +kernel
theorem dX3_readRoom_35 : decode cX3_readRoom 35 = .ok (.aload_n 0, 1) := by decide +kernel
theorem dX3_readRoom_36 : decode cX3_readRoom 36 = .ok (.iconst 1, 1) := by decide +kernel
theorem dX3_readRoom_37 : decode cX3_readRoom 37 = .ok (.iconst 1, 1) := by decide +kernel
theorem dX3_readRoom_38 : decode cX3_readRoom 38 = .ok (.bipush 9, 2) := by decide +kernel
theorem dX3_readRoom_40 : decode cX3_readRoom 40 = .ok (.invokevirtual 57, 3) := by decide +kernel
theorem dX3_readRoom_43 : decode cX3_readRoom 43 = .ok (.istore 4, 2) := by decide +kernel
theorem dX3_readRoom_45 : decode cX3_readRoom 45 = .ok (.aload_n 0, 1) := by decide +kernel
theorem dX3_readRoom_46 : decode cX3_readRoom 46 = .ok (.iconst 2, 1) := by decide +kernel
theorem dX3_readRoom_47 : decode cX3_readRoom 47 = .ok (.iconst 0, 1) := by decide +kernel
theorem dX3_readRoom_48 : decode cX3_readRoom 48 = .ok (.bipush 30, 2) := by decide +kernel
theorem dX3_readRoom_50 : decode cX3_readRoom 50 = .ok (.invokevirtual 57, 3) := by decide +kernel
theorem dX3_readRoom_53 : decode cX3_readRoom 53 = .ok (.istore 5, 2) := by decide +kernel
theorem dX3_readRoom_55 : decode cX3_readRoom 55 = .ok (.aload_n 0, 1) := by decide +kernel
theorem dX3_readRoom_56 : decode cX3_readRoom 56 = .ok (.getfield 27, 3) := by decide +kernel
theorem dX3_readRoom_59 : decode cX3_readRoom 59 = .ok (.bipush (-99), 2) := by decide +kernel
theorem dX3_readRoom_61 : decode cX3_readRoom 61 = .ok (.if_icmp .ne 14, 3) := by decide +kernel
theorem dX3_readRoom_64 : decode cX3_readRoom 64 = .ok (.aload_n 1, 1) := by decide +kernel
theorem dX3_readRoom_65 : decode cX3_readRoom 65 = .ok (.iload_n 2, 1) := by decide +kernel
theorem dX3_readRoom_66 : decode cX3_readRoom 66 = .ok (.iload_n 3, 1) := by decide +kernel
theorem dX3_readRoom_67 : decode cX3_readRoom 67 = .ok (.iload 4, 2) := by decide +kernel
theorem dX3_readRoom_69 : decode cX3_readRoom 69 = .ok (.iload 5, 2) := by decide +kernel
theorem dX3_readRoom_71 : decode cX3_readRoom 71 = .ok (.invokevirtual 61, 3) := by decide +kernel
theorem dX3_readRoom_74 : decode cX3_readRoom 74 = .ok (.pop, 1) := by decide +kernel
theorem dX3_readRoom_75 : decode cX3_readRoom 75 = .ok (.return_, 1) := by decide +kernel
theorem dX3_readGroup_0 : decode cX3_readGroup 0 = .ok (.aload_n 0, 1) := by decide +kernel
theorem dX3_readGroup_1 : decode cX3_readGroup 1 = .ok (.aload_n 1, 1) := by decide +kernel
theorem dX3_readGroup_2 : decode cX3_readGroup 2 = .ok (.getfield 65, 3) := by decide +kernel
theorem dX3_readGroup_5 : decode cX3_readGroup 5 = .ok (.bipush 6, 2) := by decide +kernel
theorem dX3_readGroup_7 : decode cX3_readGroup 7 = .ok (.if_icmp .ge 7, 3) := by decide +kernel
theorem dX3_readGroup_10 : decode cX3_readGroup 10 = .ok (.iconst 1, 1) := by decide +kernel
theorem dX3_readGroup_11 : decode cX3_readGroup 11 = .ok (.goto 4, 3) := by decide +kernel
theorem dX3_readGroup_14 : decode cX3_readGroup 14 = .ok (.iconst 0, 1) := by decide +kernel
theorem dX3_readGroup_15 : decode cX3_readGroup 15 = .ok (.invokevirtual 34, 3) := by decide +kernel
theorem dX3_readGroup_18 : decode cX3_readGroup 18 = .ok (.aload_n 0, 1) := by decide +kernel
theorem dX3_readGroup_19 : decode cX3_readGroup 19 = .ok (.getfield 27, 3) := by decide +kernel
theorem dX3_readGroup_22 : decode cX3_readGroup 22 = .ok (.bipush (-99), 2) := by decide +kernel
theorem dX3_readGroup_24 : decode cX3_readGroup 24 = .ok (.if_icmp .ne 8, 3) := by decide +kernel
theorem dX3_readGroup_27 : decode cX3_readGroup 27 = .ok (.aload_n 1, 1) := by decide +kernel
theorem dX3_readGroup_28 : decode cX3_readGroup 28 = .ok (.invokevirtual 68, 3) := by decide +kernel
theorem dX3_readGroup_31 : decode cX3_readGroup 31 = .ok (.pop, 1) := by decide +kernel
theorem dX3_readGroup_32 : decode cX3_readGroup 32 = .ok (.return_, 1) := by decide +kernel
theorem dX3_readOutdoors_0 : decode cX3_readOutdoors 0 = .ok (.aload_n 0, 1) := by decide +kernel
theorem dX3_readOutdoors_1 : decode cX3_readOutdoors 1 = .ok (.dup, 1) := by decide +kernel
theorem dX3_readOutdoors_2 : decode cX3_readOutdoors 2 = .ok (.getfield 24, 3) := by decide +kernel
theorem dX3_readOutdoors_5 : decode cX3_readOutdoors 5 = .ok (.iconst 1, 1) := by decide +kernel
theorem dX3_readOutdoors_6 : decode cX3_readOutdoors 6 = .ok (.iadd, 1) := by decide +kernel
theorem dX3_readOutdoors_7 : decode cX3_readOutdoors 7 = .ok (.putfield 24, 3) := by decide +kernel
theorem dX3_readOutdoors_10 : decode cX3_readOutdoors 10 = .ok (.aload_n 0, 1) := by decide +kernel
theorem dX3_readOutdoors_11 : decode cX3_readOutdoors 11 = .ok (.invokevirtual 30, 3) := by decide +kernel
theorem dX3_readOutdoors_14 : decode cX3_readOutdoors 14 = .ok (.bipush 45, 2) := by decide +kernel
theorem dX3_readOutdoors_16 : decode cX3_readOutdoors 16 = .ok (.if_icmp .ne 7, 3) := by decide +kernel
theorem dX3_readOutdoors_19 : decode cX3_readOutdoors 19 = .ok (.iconst 1, 1) := by decide +kernel
theorem dX3_readOutdoors_20 : decode cX3_readOutdoors 20 = .ok (.goto 4, 3) := by decide +kernel
theorem dX3_readOutdoors_23 : decode cX3_readOutdoors 23 = .ok (.iconst 0, 1) := by decide +kernel
theorem dX3_readOutdoors_24 : decode cX3_readOutdoors 24 = .ok (.istore_n 2, 1) := by decide +kernel
theorem dX3_readOutdoors_25 : decode cX3_readOutdoors 25 = .ok (.aload_n 0, 1) := by decide +kernel
theorem dX3_readOutdoors_26 : decode cX3_readOutdoors 26 = .ok (.iload_n 2, 1) := by decide +kernel
theorem dX3_readOutdoors_27 : decode cX3_readOutdoors 27 = .ok (.ifCond .ne 12, 3) := by decide +kernel
theorem dX3_readOutdoors_30 : decode cX3_readOutdoors 30 = .ok (.aload_n 0, 1) := by decide +kernel
theorem dX3_readOutdoors_31 : decode cX3_readOutdoors 31 = .ok (.invokevirtual 30, 3) := by decide +kernel
theorem dX3_readOutdoors_34 : decode cX3_readOutdoors 34 = .ok (.bipush 43, 2) := by decide +kernel
theorem dX3_readOutdoors_36 : decode cX3_readOutdoors 36 = .ok (.if_icmp .ne 7, 3) := by decide +kernel
theorem dX3_readOutdoors_39 : decode cX3_readOutdoors 39 = .ok (.iconst 1, 1) := by decide +kernel
theorem dX3_readOutdoors_40 : decode cX3_readOutdoors 40 = .ok (.goto 4, 3) := by decide +kernel
theorem dX3_readOutdoors_43 : decode cX3_readOutdoors 43 = .ok (.iconst 0, 1) := by decide +kernel
theorem dX3_readOutdoors_44 : decode cX3_readOutdoors 44 = .ok (.invokevirtual 34, 3) := by decide +kernel
theorem dX3_readOutdoors_47 : decode cX3_readOutdoors 47 = .ok (.iload_n 2, 1) := by decide +kernel
theorem dX3_readOutdoors_48 : decode cX3_readOutdoors 48 = .ok (.ifCond .eq 14, 3) := by decide +kernel
theorem dX3_readOutdoors_51 : decode cX3_readOutdoors 51 = .ok (.aload_n 0, 1) := by decide +kernel
theorem dX3_readOutdoors_52 : decode cX3_readOutdoors 52 = .ok (.iconst 2, 1) := by decide +kernel
theorem dX3_readOutdoors_53 : decode cX3_readOutdoors 53 = .ok (.iconst 1, 1) := by decide +kernel
theorem dX3_readOutdoors_54 : decode cX3_readOutdoors 54 = .ok (.bipush 20, 2) := by decide +kernel
theorem dX3_readOutdoors_56 : decode cX3_readOutdoors 56 = .ok (.invokevirtual 57, 3) := by decide +kernel
theorem dX3_readOutdoors_59 : decode cX3_readOutdoors 59 = .ok (.goto 11, 3) := by decide +kernel
theorem dX3_readOutdoors_62 : decode cX3_readOutdoors 62 = .ok (.aload_n 0, 1) := by decide +kernel
theorem dX3_readOutdoors_63 : decode cX3_readOutdoors 63 = .ok (.iconst 2, 1) := by decide +kernel
theorem dX3_readOutdoors_64 : decode cX3_readOutdoors 64 = .ok (.iconst 0, 1) := by decide +kernel
theorem dX3_readOutdoors_65 : decode cX3_readOutdoors 65 = .ok (.bipush 25, 2) := by decide +kernel
theorem dX3_readOutdoors_67 : decode cX3_readOutdoors 67 = .ok (.invokevirtual 57, 3) := by decide +kernel
theorem dX3_readOutdoors_70 : decode cX3_readOutdoors 70 = .ok (.istore_n 3, 1) := by decide +kernel
theorem dX3_readOutdoors_71 : decode cX3_readOutdoors 71 = .ok (.aload_n 0, 1) := by decide +kernel
theorem dX3_readOutdoors_72 : decode cX3_readOutdoors 72 = .ok (.getfield 27, 3) := by decide +kernel
theorem dX3_readOutdoors_75 : decode cX3_readOutdoors 75 = .ok (.bipush (-99), 2) := by decide +kernel
theorem dX3_readOutdoors_77 : decode cX3_readOutdoors 77 = .ok (.if_icmp .ne 17, 3) := by decide +kernel
theorem dX3_readOutdoors_80 : decode cX3_readOutdoors 80 = .ok (.aload_n 1, 1) := by decide +kernel
theorem dX3_readOutdoors_81 : decode cX3_readOutdoors 81 = .ok (.iload_n 2, 1) := by decide +kernel
theorem dX3_readOutdoors_82 : decode cX3_readOutdoors 82 = .ok (.ifCond .eq 8, 3) := by decide +kernel
theorem dX3_readOutdoors_85 : decode cX3_readOutdoors 85 = .ok (.iload_n 3, 1) := by decide +kernel
theorem dX3_readOutdoors_86 : decode cX3_readOutdoors 86 = .ok (.ineg, 1) := by decide +kernel
theorem dX3_readOutdoors_87 : decode cX3_readOutdoors 87 = .ok (.goto 4, 3) := by decide +kernel
theorem dX3_readOutdoors_90 : decode cX3_readOutdoors 90 = .ok (.iload_n 3, 1) := by decide +kernel
theorem dX3_readOutdoors_91 : decode cX3_readOutdoors 91 = .ok (.putfield 71, 3) := by decide +kernel
theorem dX3_readOutdoors_94 : decode cX3_readOutdoors 94 = .ok (.return_, 1) := by decide +kernel
theorem dX3_readBooking_0 : decode cX3_readBooking 0 = .ok (.aload_n 0, 1) := by decide +kernel
theorem dX3_readBooking_1 : decode cX3_readBooking 1 = .ok (.getfield 24, 3) := by decide +kernel
theorem dX3_readBooking_4 : decode cX3_readBooking 4 = .ok (.istore_n 2, 1) := by decide +kernel
theorem dX3_readBooking_5 : decode cX3_readBooking 5 = .ok (.aload_n 0, 1) := by decide +kernel
theorem dX3_readBooking_6 : decode cX3_readBooking 6 = .ok (.aload_n 1, 1) := by decide +kernel
theorem dX3_readBooking_7 : decode cX3_readBooking 7 = .ok (.getfield 54, 3) := by decide +kernel
theorem dX3_readBooking_10 : decode cX3_readBooking 10 = .ok (.ifCond .le 23, 3) := by decide +kernel
theorem dX3_readBooking_13 : decode cX3_readBooking 13 = .ok (.aload_n 1, 1) := by decide +kernel
theorem dX3_readBooking_14 : decode cX3_readBooking 14 = .ok (.getfield 65, 3) := by decide +kernel
theorem dX3_readBooking_17 : decode cX3_readBooking 17 = .ok (.ifCond .le 16, 3) := by decide +kernel
theorem dX3_readBooking_20 : decode cX3_readBooking 20 = .ok (.aload_n 1, 1) := by decide +kernel
theorem dX3_readBooking_21 : decode cX3_readBooking 21 = .ok (.getfield 74, 3) := by decide +kernel
theorem dX3_readBooking_24 : decode cX3_readBooking 24 = .ok (.bipush 12, 2) := by decide +kernel
theorem dX3_readBooking_26 : decode cX3_readBooking 26 = .ok (.if_icmp .ge 7, 3) := by decide +kernel
theorem dX3_readBooking_29 : decode cX3_readBooking 29 = .ok (.iconst 1, 1) := by decide +kernel
theorem dX3_readBooking_30 : decode cX3_readBooking 30 = .ok (.goto 4, 3) := by decide +kernel
theorem dX3_readBooking_33 : decode cX3_readBooking 33 = .ok (.iconst 0, 1) := by decide +kernel
theorem dX3_readBooking_34 : decode cX3_readBooking 34 = .ok (.invokevirtual 34, 3) := by decide +kernel
theorem dX3_readBooking_37 : decode cX3_readBooking 37 = .ok (.aload_n 0, 1) := by decide +kernel
theorem dX3_readBooking_38 : decode cX3_readBooking 38 = .ok (.iconst 1, 1) := by decide +kernel
theorem dX3_readBooking_39 : decode cX3_readBooking 39 = .ok (.iconst 0, 1) := by decide +kernel
theorem dX3_readBooking_40 : decode cX3_readBooking 40 = .ok (.aload_n 1, 1) := by decide +kernel
theorem dX3_readBooking_41 : decode cX3_readBooking 41 = .ok (.getfield 54, 3) := by decide +kernel
theorem dX3_readBooking_44 : decode cX3_readBooking 44 = .ok (.iconst 1, 1) := by decide +kernel
theorem dX3_readBooking_45 : decode cX3_readBooking 45 = .ok (.isub, 1) := by decide +kernel
theorem dX3_readBooking_46 : decode cX3_readBooking 46 = .ok (.invokevirtual 57, 3) := by decide +kernel
theorem dX3_readBooking_49 : decode cX3_readBooking 49 = .ok (.istore_n 3, 1) := by decide +kernel
theorem dX3_readBooking_50 : decode cX3_readBooking 50 = .ok (.aload_n 0, 1) := by decide +kernel
theorem dX3_readBooking_51 : decode cX3_readBooking 51 = .ok (.iconst 1, 1) := by decide +kernel
theorem dX3_readBooking_52 : decode cX3_readBooking 52 = .ok (.iconst 0, 1) := by decide +kernel
theorem dX3_readBooking_53 : decode cX3_readBooking 53 = .ok (.aload_n 1, 1) := by decide +kernel
theorem dX3_readBooking_54 : decode cX3_readBooking 54 = .ok (.getfield 65, 3) := by decide +kernel
theorem dX3_readBooking_57 : decode cX3_readBooking 57 = .ok (.iconst 1, 1) := by decide +kernel
theorem dX3_readBooking_58 : decode cX3_readBooking 58 = .ok (.isub, 1) := by decide +kernel
theorem dX3_readBooking_59 : decode cX3_readBooking 59 = .ok (.invokevirtual 57, 3) := by decide +kernel
theorem dX3_readBooking_62 : decode cX3_readBooking 62 = .ok (.istore 4, 2) := by decide +kernel
theorem dX3_readBooking_64 : decode cX3_readBooking 64 = .ok (.aload_n 0, 1) := by decide +kernel
theorem dX3_readBooking_65 : decode cX3_readBooking 65 = .ok (.iconst 3, 1) := by decide +kernel
theorem dX3_readBooking_66 : decode cX3_readBooking 66 = .ok (.iconst 0, 1) := by decide +kernel
theorem dX3_readBooking_67 : decode cX3_readBooking 67 = .ok (.sipush 199, 3) := by decide +kernel
theorem dX3_readBooking_70 : decode cX3_readBooking 70 = .ok (.invokevirtual 57, 3) := by decide +kernel
theorem dX3_readBooking_73 : decode cX3_readBooking 73 = .ok (.istore 5, 2) := by decide +kernel
theorem dX3_readBooking_75 : decode cX3_readBooking 75 = .ok (.aload_n 0, 1) := by decide +kernel
theorem dX3_readBooking_76 : decode cX3_readBooking 76 = .ok (.iconst 2, 1) := by decide +kernel
theorem dX3_readBooking_77 : decode cX3_readBooking 77 = .ok (.iconst 1, 1) := by decide +kernel
theorem dX3_readBooking_78 : decode cX3_readBooking 78 = .ok (.bipush 12, 2) := by decide +kernel
theorem dX3_readBooking_80 : decode cX3_readBooking 80 = .ok (.invokevirtual 57, 3) := by decide +kernel
theorem dX3_readBooking_83 : decode cX3_readBooking 83 = .ok (.istore 6, 2) := by decide +kernel
theorem dX3_readBooking_85 : decode cX3_readBooking 85 = .ok (.aload_n 0, 1) := by decide +kernel
theorem dX3_readBooking_86 : decode cX3_readBooking 86 = .ok (.iconst 2, 1) := by decide +kernel
theorem dX3_readBooking_87 : decode cX3_readBooking 87 = .ok (.bipush 12, 2) := by decide +kernel
theorem dX3_readBooking_89 : decode cX3_readBooking 89 = .ok (.bipush 25, 2) := by decide +kernel
theorem dX3_readBooking_91 : decode cX3_readBooking 91 = .ok (.invokevirtual 57, 3) := by decide +kernel
theorem dX3_readBooking_94 : decode cX3_readBooking 94 = .ok (.istore 7, 2) := by decide +kernel
theorem dX3_readBooking_96 : decode cX3_readBooking 96 = .ok (.aload_n 0, 1) := by decide +kernel
theorem dX3_readBooking_97 : decode cX3_readBooking 97 = .ok (.getfield 27, 3) := by decide +kernel
theorem dX3_readBooking_100 : decode cX3_readBooking 100 = .ok (.bipush (-99), 2) := by decide +kernel
theorem dX3_readBooking_102 : decode cX3_readBooking 102 = .ok (.if_icmp .eq 4, 3) := by decide +kernel
theorem dX3_readBooking_105 : decode cX3_readBooking 105 = .ok (.return_, 1) := by decide +kernel
theorem dX3_readBooking_106 : decode cX3_readBooking 106 = .ok (.aload_n 1, 1) := by decide +kernel
theorem dX3_readBooking_107 : decode cX3_readBooking 107 = .ok (.iload_n 3, 1) := by decide +kernel
theorem dX3_readBooking_108 : decode cX3_readBooking 108 = .ok (.iload 5, 2) := by decide +kernel
theorem dX3_readBooking_110 : decode cX3_readBooking 110 = .ok (.iload 6, 2) := by decide +kernel
theorem dX3_readBooking_112 : decode cX3_readBooking 112 = .ok (.invokevirtual 77, 3) := by decide +kernel
theorem dX3_readBooking_115 : decode cX3_readBooking 115 = .ok (.ifCond .eq 20, 3) := by decide +kernel
theorem dX3_readBooking_118 : decode cX3_readBooking 118 = .ok (.aload_n 1, 1) := by decide +kernel
theorem dX3_readBooking_119 : decode cX3_readBooking 119 = .ok (.iload_n 3, 1) := by decide +kernel
theorem dX3_readBooking_120 : decode cX3_readBooking 120 = .ok (.iload 4, 2) := by decide +kernel
theorem dX3_readBooking_122 : decode cX3_readBooking 122 = .ok (.iload 5, 2) := by decide +kernel
theorem dX3_readBooking_124 : decode cX3_readBooking 124 = .ok (.iload 6, 2) := by decide +kernel
theorem dX3_readBooking_126 : decode cX3_readBooking 126 = .ok (.iload 7, 2) := by decide +kernel
theorem dX3_readBooking_128 : decode cX3_readBooking 128 = .ok (.invokevirtual 81, 3) := by decide +kernel
theorem dX3_readBooking_131 : decode cX3_readBooking 131 = .ok (.pop, 1) := by decide +kernel
theorem dX3_readBooking_132 : decode cX3_readBooking 132 = .ok (.goto 8, 3) := by decide +kernel
theorem dX3_readBooking_135 : decode cX3_readBooking 135 = .ok (.aload_n 0, 1) := by decide +kernel
theorem dX3_readBooking_136 : decode cX3_readBooking 136 = .ok (.iload_n 2, 1) := by decide +kernel
theorem dX3_readBooking_137 : decode cX3_readBooking 137 = .ok (.putfield 27, 3) := by decide +kernel
theorem dX3_readBooking_140 : decode cX3_readBooking 140 = .ok (.return_, 1) := by decide +kernel
theorem dX3_sign_0 : decode cX3_sign 0 = .ok (.aload_n 0, 1) := by decide +kernel
theorem dX3_sign_1 : decode cX3_sign 1 = .ok (.getfield 24, 3) := by decide +kernel
theorem dX3_sign_4 : decode cX3_sign 4 = .ok (.ifCond .lt 38, 3) := by decide +kernel
theorem dX3_sign_7 : decode cX3_sign 7 = .ok (.aload_n 0, 1) := by decide +kernel
theorem dX3_sign_8 : decode cX3_sign 8 = .ok (.getfield 24, 3) := by decide +kernel
theorem dX3_sign_11 : decode cX3_sign 11 = .ok (.aload_n 0, 1) := by decide +kernel
theorem dX3_sign_12 : decode cX3_sign 12 = .ok (.getfield 15, 3) := by decide +kernel
theorem dX3_sign_15 : decode cX3_sign 15 = .ok (.if_icmp .ge 27, 3) := by decide +kernel
theorem dX3_sign_18 : decode cX3_sign 18 = .ok (.aload_n 0, 1) := by decide +kernel
theorem dX3_sign_19 : decode cX3_sign 19 = .ok (.getfield 24, 3) := by decide +kernel
theorem dX3_sign_22 : decode cX3_sign 22 = .ok (.aload_n 0, 1) := by decide +kernel
theorem dX3_sign_23 : decode cX3_sign 23 = .ok (.getfield 9, 3) := by decide +kernel
theorem dX3_sign_26 : decode cX3_sign 26 = .ok (.arraylength, 1) := by decide +kernel
theorem dX3_sign_27 : decode cX3_sign 27 = .ok (.if_icmp .ge 15, 3) := by decide +kernel
theorem dX3_sign_30 : decode cX3_sign 30 = .ok (.aload_n 0, 1) := by decide +kernel
theorem dX3_sign_31 : decode cX3_sign 31 = .ok (.getfield 9, 3) := by decide +kernel
theorem dX3_sign_34 : decode cX3_sign 34 = .ok (.aload_n 0, 1) := by decide +kernel
theorem dX3_sign_35 : decode cX3_sign 35 = .ok (.getfield 24, 3) := by decide +kernel
theorem dX3_sign_38 : decode cX3_sign 38 = .ok (.iaload, 1) := by decide +kernel
theorem dX3_sign_39 : decode cX3_sign 39 = .ok (.goto 4, 3) := by decide +kernel
theorem dX3_sign_42 : decode cX3_sign 42 = .ok (.iconst (-1), 1) := by decide +kernel
theorem dX3_sign_43 : decode cX3_sign 43 = .ok (.ireturn, 1) := by decide +kernel
theorem dX3_require_0 : decode cX3_require 0 = .ok (.aload_n 0, 1) := by decide +kernel
theorem dX3_require_1 : decode cX3_require 1 = .ok (.getfield 27, 3) := by decide +kernel
theorem dX3_require_4 : decode cX3_require 4 = .ok (.bipush (-99), 2) := by decide +kernel
theorem dX3_require_6 : decode cX3_require 6 = .ok (.if_icmp .eq 4, 3) := by decide +kernel
theorem dX3_require_9 : decode cX3_require 9 = .ok (.return_, 1) := by decide +kernel
theorem dX3_require_10 : decode cX3_require 10 = .ok (.iload_n 1, 1) := by decide +kernel
theorem dX3_require_11 : decode cX3_require 11 = .ok (.ifCond .eq 16, 3) := by decide +kernel
theorem dX3_require_14 : decode cX3_require 14 = .ok (.aload_n 0, 1) := by decide +kernel
theorem dX3_require_15 : decode cX3_require 15 = .ok (.dup, 1) := by decide +kernel
theorem dX3_require_16 : decode cX3_require 16 = .ok (.getfield 24, 3) := by decide +kernel
theorem dX3_require_19 : decode cX3_require 19 = .ok (.iconst 1, 1) := by decide +kernel
theorem dX3_require_20 : decode cX3_require 20 = .ok (.iadd, 1) := by decide +kernel
theorem dX3_require_21 : decode cX3_require 21 = .ok (.putfield 24, 3) := by decide +kernel
theorem dX3_require_24 : decode cX3_require 24 = .ok (.goto 11, 3) := by decide +kernel
theorem dX3_require_27 : decode cX3_require 27 = .ok (.aload_n 0, 1) := by decide +kernel
theorem dX3_require_28 : decode cX3_require 28 = .ok (.aload_n 0, 1) := by decide +kernel
theorem dX3_require_29 : decode cX3_require 29 = .ok (.getfield 24, 3) := by decide +kernel
theorem dX3_require_32 : decode cX3_require 32 = .ok (.putfield 27, 3) := by decide +kernel
theorem dX3_require_35 : decode cX3_require 35 = .ok (.return_, 1) := by decide +kernel
theorem dX3_readNumber_0 : decode cX3_readNumber 0 = .ok (.iconst 1, 1) := by decide +kernel
theorem dX3_readNumber_1 : decode cX3_readNumber 1 = .ok (.istore 4, 2) := by decide +kernel
theorem dX3_readNumber_3 : decode cX3_readNumber 3 = .ok (.iconst 1, 1) := by decide +kernel
theorem dX3_readNumber_4 : decode cX3_readNumber 4 = .ok (.istore 5, 2) := by decide +kernel
theorem dX3_readNumber_6 : decode cX3_readNumber 6 = .ok (.iload 5, 2) := by decide +kernel
theorem dX3_readNumber_8 : decode cX3_readNumber 8 = .ok (.iload_n 1, 1) := by decide +kernel
theorem dX3_readNumber_9 : decode cX3_readNumber 9 = .ok (.if_icmp .ge 16, 3) := by decide +kernel
theorem dX3_readNumber_12 : decode cX3_readNumber 12 = .ok (.iload 4, 2) := by decide +kernel
theorem dX3_readNumber_14 : decode cX3_readNumber 14 = .ok (.bipush 10, 2) := by decide +kernel
theorem dX3_readNumber_16 : decode cX3_readNumber 16 = .ok (.imul, 1) := by decide +kernel
theorem dX3_readNumber_17 : decode cX3_readNumber 17 = .ok (.istore 4, 2) := by decide +kernel
theorem dX3_readNumber_19 : decode cX3_readNumber 19 = .ok (.iinc 5 1, 3) := by decide +kernel
theorem dX3_readNumber_22 : decode cX3_readNumber 22 = .ok (.goto (-16), 3) := by decide +kernel
theorem dX3_readNumber_25 : decode cX3_readNumber 25 = .ok (.iconst 0, 1) := by decide +kernel
theorem dX3_readNumber_26 : decode cX3_readNumber 26 = .ok (.istore 5, 2) := by decide +kernel
theorem dX3_readNumber_28 : decode cX3_readNumber 28 = .ok (.iconst 0, 1) := by decide +kernel
theorem dX3_readNumber_29 : decode cX3_readNumber 29 = .ok (.istore 6, 2) := by decide +kernel
theorem dX3_readNumber_31 : decode cX3_readNumber 31 = .ok (.iload 6, 2) := by decide +kernel
theorem dX3_readNumber_33 : decode cX3_readNumber 33 = .ok (.iload_n 1, 1) := by decide +kernel
theorem dX3_readNumber_34 : decode cX3_readNumber 34 = .ok (.if_icmp .ge 73, 3) := by decide +kernel
theorem dX3_readNumber_37 : decode cX3_readNumber 37 = .ok (.aload_n 0, 1) := by decide +kernel
theorem dX3_readNumber_38 : decode cX3_readNumber 38 = .ok (.invokevirtual 30, 3) := by decide +kernel
theorem dX3_readNumber_41 : decode cX3_readNumber 41 = .ok (.bipush 48, 2) := by decide +kernel
theorem dX3_readNumber_43 : decode cX3_readNumber 43 = .ok (.isub, 1) := by decide +kernel
theorem dX3_readNumber_44 : decode cX3_readNumber 44 = .ok (.istore 7, 2) := by decide +kernel
theorem dX3_readNumber_46 : decode cX3_readNumber 46 = .ok (.iload 5, 2) := by decide +kernel
theorem dX3_readNumber_48 : decode cX3_readNumber 48 = .ok (.iload 7, 2) := by decide +kernel
theorem dX3_readNumber_50 : decode cX3_readNumber 50 = .ok (.iload 4, 2) := by decide +kernel
theorem dX3_readNumber_52 : decode cX3_readNumber 52 = .ok (.imul, 1) := by decide +kernel
theorem dX3_readNumber_53 : decode cX3_readNumber 53 = .ok (.iadd, 1) := by decide +kernel
theorem dX3_readNumber_54 : decode cX3_readNumber 54 = .ok (.istore 5, 2) := by decide +kernel
theorem dX3_readNumber_56 : decode cX3_readNumber 56 = .ok (.aload_n 0, 1) := by decide +kernel
theorem dX3_readNumber_57 : decode cX3_readNumber 57 = .ok (.iload 7, 2) := by decide +kernel
theorem dX3_readNumber_59 : decode cX3_readNumber 59 = .ok (.ifCond .lt 31, 3) := by decide +kernel
theorem dX3_readNumber_62 : decode cX3_readNumber 62 = .ok (.iload 7, 2) := by decide +kernel
theorem dX3_readNumber_64 : decode cX3_readNumber 64 = .ok (.bipush 9, 2) := by decide +kernel
theorem dX3_readNumber_66 : decode cX3_readNumber 66 = .ok (.if_icmp .gt 24, 3) := by decide +kernel
theorem dX3_readNumber_69 : decode cX3_readNumber 69 = .ok (.iload 5, 2) := by decide +kernel
theorem dX3_readNumber_71 : decode cX3_readNumber 71 = .ok (.iload_n 3, 1) := by decide +kernel
theorem dX3_readNumber_72 : decode cX3_readNumber 72 = .ok (.if_icmp .gt 18, 3) := by decide +kernel
theorem dX3_readNumber_75 : decode cX3_readNumber 75 = .ok (.iload 5, 2) := by decide +kernel
theorem dX3_readNumber_77 : decode cX3_readNumber 77 = .ok (.iload 4, 2) := by decide +kernel
theorem dX3_readNumber_79 : decode cX3_readNumber 79 = .ok (.iadd, 1) := by decide +kernel
theorem dX3_readNumber_80 : decode cX3_readNumber 80 = .ok (.iconst 1, 1) := by decide +kernel
theorem dX3_readNumber_81 : decode cX3_readNumber 81 = .ok (.isub, 1) := by decide +kernel
theorem dX3_readNumber_82 : decode cX3_readNumber 82 = .ok (.iload_n 2, 1) := by decide +kernel
theorem dX3_readNumber_83 : decode cX3_readNumber 83 = .ok (.if_icmp .lt 7, 3) := by decide +kernel
theorem dX3_readNumber_86 : decode cX3_readNumber 86 = .ok (.iconst 1, 1) := by decide +kernel
theorem dX3_readNumber_87 : decode cX3_readNumber 87 = .ok (.goto 4, 3) := by decide +kernel
theorem dX3_readNumber_90 : decode cX3_readNumber 90 = .ok (.iconst 0, 1) := by decide +kernel
theorem dX3_readNumber_91 : decode cX3_readNumber 91 = .ok (.invokevirtual 34, 3) := by decide +kernel
theorem dX3_readNumber_94 : decode cX3_readNumber 94 = .ok (.iload 4, 2) := by decide +kernel
theorem dX3_readNumber_96 : decode cX3_readNumber 96 = .ok (.bipush 10, 2) := by decide +kernel
theorem dX3_readNumber_98 : decode cX3_readNumber 98 = .ok (.idiv, 1) := by decide +kernel
theorem dX3_readNumber_99 : decode cX3_readNumber 99 = .ok (.istore 4, 2) := by decide +kernel
theorem dX3_readNumber_101 : decode cX3_readNumber 101 = .ok (.iinc 6 1, 3) := by decide +kernel
theorem dX3_readNumber_104 : decode cX3_readNumber 104 = .ok (.goto (-73), 3) := by decide +kernel
theorem dX3_readNumber_107 : decode cX3_readNumber 107 = .ok (.iload 5, 2) := by decide +kernel
theorem dX3_readNumber_109 : decode cX3_readNumber 109 = .ok (.ireturn, 1) := by decide +kernel
theorem dX4_init_0 : decode cX4_init 0 = .ok (.aload_n 0, 1) := by decide +kernel
theorem dX4_init_1 : decode cX4_init 1 = .ok (.invokespecial 3, 3) := by decide +kernel
theorem dX4_init_4 : decode cX4_init 4 = .ok (.aload_n 0, 1) := by decide +kernel
theorem dX4_init_5 : decode cX4_init 5 = .ok (.bipush 14, 2) := by decide +kernel
theorem dX4_init_7 : decode cX4_init 7 = .ok (.anewarray 9, 3) := by decide +kernel
theorem dX4_init_10 : decode cX4_init 10 = .ok (.putfield 11, 3) := by decide +kernel
theorem dX4_init_13 : decode cX4_init 13 = .ok (.iconst 0, 1) := by decide +kernel
theorem dX4_init_14 : decode cX4_init 14 = .ok (.istore_n 1, 1) := by decide +kernel
theorem dX4_init_15 : decode cX4_init 15 = .ok (.iload_n 1, 1) := by decide +kernel
theorem dX4_init_16 : decode cX4_init 16 = .ok (.aload_n 0, 1) := by decide +kernel
theorem dX4_init_17 : decode cX4_init 17 = .ok (.getfield 11, 3) := by decide +kernel
theorem dX4_init_20 : decode cX4_init 20 = .ok (.arraylength, 1) := by decide +kernel
theorem dX4_init_21 : decode cX4_init 21 = .ok (.if_icmp .ge 22, 3) := by decide +kernel
theorem dX4_init_24 : decode cX4_init 24 = .ok (.aload_n 0, 1) := by decide +kernel
theorem dX4_init_25 : decode cX4_init 25 = .ok (.getfield 11, 3) := by decide +kernel
theorem dX4_init_28 : decode cX4_init 28 = .ok (.iload_n 1, 1) := by decide +kernel
theorem dX4_init_29 : decode cX4_init 29 = .ok (.new 9, 3) := by decide +kernel
theorem dX4_init_32 : decode cX4_init 32 = .ok (.dup, 1) := by decide +kernel
theorem dX4_init_33 : decode cX4_init 33 = .ok (.invokespecial 17, 3) := by decide +kernel
theorem dX4_init_36 : decode cX4_init 36 = .ok (.aastore, 1) := by decide +kernel
theorem dX4_init_37 : decode cX4_init 37 = .ok (.iinc 1 1, 3) := by decide +kernel
theorem dX4_init_40 : decode cX4_init 40 = .ok (.goto (-25), 3) := by decide +kernel
theorem dX4_init_43 : decode cX4_init 43 = .ok (.return_, 1) := by decide +kernel
theorem dX4_remember_0 : decode cX4_remember 0 = .ok (.aload_n 0, 1) := by decide +kernel
theorem dX4_remember_1 : decode cX4_remember 1 = .ok (.getfield 11, 3) := by decide +kernel
theorem dX4_remember_4 : decode cX4_remember 4 = .ok (.aload_n 0, 1) := by decide +kernel
theorem dX4_remember_5 : decode cX4_remember 5 = .ok (.getfield 18, 3) := by decide +kernel
theorem dX4_remember_8 : decode cX4_remember 8 = .ok (.aaload, 1) := by decide +kernel
theorem dX4_remember_9 : decode cX4_remember 9 = .ok (.aload_n 1, 1) := by decide +kernel
theorem dX4_remember_10 : decode cX4_remember 10 = .ok (.invokevirtual 22, 3) := by decide +kernel
theorem dX4_remember_13 : decode cX4_remember 13 = .ok (.aload_n 0, 1) := by decide +kernel
theorem dX4_remember_14 : decode cX4_remember 14 = .ok (.aload_n 0, 1) := by decide +kernel
theorem dX4_remember_15 : decode cX4_remember 15 = .ok (.getfield 18, 3) := by decide +kernel
theorem dX4_remember_18 : decode cX4_remember 18 = .ok (.iconst 1, 1) := by decide +kernel
theorem dX4_remember_19 : decode cX4_remember 19 = .ok (.iadd, 1) := by decide +kernel
theorem dX4_remember_20 : decode cX4_remember 20 = .ok (.bipush 14, 2) := by decide +kernel
theorem dX4_remember_22 : decode cX4_remember 22 = .ok (.irem, 1) := by decide +kernel
theorem dX4_remember_23 : decode cX4_remember 23 = .ok (.putfield 18, 3) := by decide +kernel
theorem dX4_remember_26 : decode cX4_remember 26 = .ok (.aload_n 0, 1) := by decide +kernel
theorem dX4_remember_27 : decode cX4_remember 27 = .ok (.aload_n 0, 1) := by decide +kernel
theorem dX4_remember_28 : decode cX4_remember 28 = .ok (.getfield 26, 3) := by decide +kernel
theorem dX4_remember_31 : decode cX4_remember 31 = .ok (.iconst 1, 1) := by decide +kernel
theorem dX4_remember_32 : decode cX4_remember 32 = .ok (.iadd, 1) := by decide +kernel
theorem dX4_remember_33 : decode cX4_remember 33 = .ok (.bipush 14, 2) := by decide +kernel
theorem dX4_remember_35 : decode cX4_remember 35 = .ok (.invokestatic 29, 3) := by decide +kernel
theorem dX4_remember_38 : decode cX4_remember 38 = .ok (.putfield 26, 3) := by decide +kernel
theorem dX4_remember_41 : decode cX4_remember 41 = .ok (.return_, 1) := by decide +kernel
theorem dX4_takeBack_0 : decode cX4_takeBack 0 = .ok (.aload_n 0, 1) := by decide +kernel
theorem dX4_takeBack_1 : decode cX4_takeBack 1 = .ok (.getfield 26, 3) := by decide +kernel
theorem dX4_takeBack_4 : decode cX4_takeBack 4 = .ok (.ifCond .ne 4, 3) := by decide +kernel
theorem dX4_takeBack_7 : decode cX4_takeBack 7 = .ok (.return_, 1) := by decide +kernel
theorem dX4_takeBack_8 : decode cX4_takeBack 8 = .ok (.aload_n 0, 1) := by decide +kernel
theorem dX4_takeBack_9 : decode cX4_takeBack 9 = .ok (.aload_n 0, 1) := by decide +kernel
theorem dX4_takeBack_10 : decode cX4_takeBack 10 = .ok (.getfield 18, 3) := by decide +kernel
theorem dX4_takeBack_13 : decode cX4_takeBack 13 = .ok (.bipush 14, 2) := by decide +kernel
theorem dX4_takeBack_15 : decode cX4_takeBack 15 = .ok (.iadd, 1) := by decide +kernel
theorem dX4_takeBack_16 : decode cX4_takeBack 16 = .ok (.iconst 1, 1) := by decide +kernel
theorem dX4_takeBack_17 : decode cX4_takeBack 17 = .ok (.isub, 1) := by decide +kernel
theorem dX4_takeBack_18 : decode cX4_takeBack 18 = .ok (.bipush 14, 2) := by decide +kernel
theorem dX4_takeBack_20 : decode cX4_takeBack 20 = .ok (.irem, 1) := by decide +kernel
theorem dX4_takeBack_21 : decode cX4_takeBack 21 = .ok (.putfield 18, 3) := by decide +kernel
theorem dX4_takeBack_24 : decode cX4_takeBack 24 = .ok (.aload_n 0, 1) := by decide +kernel
theorem dX4_takeBack_25 : decode cX4_takeBack 25 = .ok (.dup, 1) := by decide +kernel
theorem dX4_takeBack_26 : decode cX4_takeBack 26 = .ok (.getfield 26, 3) := by decide +kernel
theorem dX4_takeBack_29 : decode cX4_takeBack 29 = .ok (.iconst 1, 1) := by decide +kernel
theorem dX4_takeBack_30 : decode cX4_takeBack 30 = .ok (.isub, 1) := by decide +kernel
theorem dX4_takeBack_31 : decode cX4_takeBack 31 = .ok (.putfield 26, 3) := by decide +kernel
theorem dX4_takeBack_34 : decode cX4_takeBack 34 = .ok (.aload_n 1, 1) := by decide +kernel
theorem dX4_takeBack_35 : decode cX4_takeBack 35 = .ok (.aload_n 0, 1) := by decide +kernel
theorem dX4_takeBack_36 : decode cX4_takeBack 36 = .ok (.getfield 11, 3) := by decide +kernel
theorem dX4_takeBack_39 : decode cX4_takeBack 39 = .ok (.aload_n 0, 1) := by decide +kernel
theorem dX4_takeBack_40 : decode cX4_takeBack 40 = .ok (.getfield 18, 3) := by decide +kernel
theorem dX4_takeBack_43 : decode cX4_takeBack 43 = .ok (.aaload, 1) := by decide +kernel
theorem dX4_takeBack_44 : decode cX4_takeBack 44 = .ok (.invokevirtual 22, 3) := by decide +kernel
theorem dX4_takeBack_47 : decode cX4_takeBack 47 = .ok (.return_, 1) := by decide +kernel
theorem dX4_forgetAll_0 : decode cX4_forgetAll 0 = .ok (.aload_n 0, 1) := by decide +kernel
theorem dX4_forgetAll_1 : decode cX4_forgetAll 1 = .ok (.iconst 0, 1) := by decide +kernel
theorem dX4_forgetAll_2 : decode cX4_forgetAll 2 = .ok (.putfield 26, 3) := by decide +kernel
theorem dX4_forgetAll_5 : decode cX4_forgetAll 5 = .ok (.return_, 1) := by decide +kernel
theorem dX5_init_0 : decode cX5_init 0 = .ok (.aload_n 0, 1) := by decide +kernel
theorem dX5_init_1 : decode cX5_init 1 = .ok (.invokespecial 1, 3) := by decide +kernel
theorem dX5_init_4 : decode cX5_init 4 = .ok (.return_, 1) := by decide +kernel
theorem dX5_become_0 : decode cX5_become 0 = .ok (.aload_n 0, 1) := by decide +kernel
theorem dX5_become_1 : decode cX5_become 1 = .ok (.iload_n 1, 1) := by decide +kernel
theorem dX5_become_2 : decode cX5_become 2 = .ok (.putfield 7, 3) := by decide +kernel
theorem dX5_become_5 : decode cX5_become 5 = .ok (.aload_n 0, 1) := by decide +kernel
theorem dX5_become_6 : decode cX5_become 6 = .ok (.iload_n 2, 1) := by decide +kernel
theorem dX5_become_7 : decode cX5_become 7 = .ok (.putfield 13, 3) := by decide +kernel
theorem dX5_become_10 : decode cX5_become 10 = .ok (.aload_n 0, 1) := by decide +kernel
theorem dX5_become_11 : decode cX5_become 11 = .ok (.iload_n 3, 1) := by decide +kernel
theorem dX5_become_12 : decode cX5_become 12 = .ok (.putfield 16, 3) := by decide +kernel
theorem dX5_become_15 : decode cX5_become 15 = .ok (.aload_n 0, 1) := by decide +kernel
theorem dX5_become_16 : decode cX5_become 16 = .ok (.iload 4, 2) := by decide +kernel
theorem dX5_become_18 : decode cX5_become 18 = .ok (.putfield 19, 3) := by decide +kernel
theorem dX5_become_21 : decode cX5_become 21 = .ok (.return_, 1) := by decide +kernel
theorem dX5_copyFrom_0 : decode cX5_copyFrom 0 = .ok (.aload_n 0, 1) := by decide +kernel
theorem dX5_copyFrom_1 : decode cX5_copyFrom 1 = .ok (.aload_n 1, 1) := by decide +kernel
theorem dX5_copyFrom_2 : decode cX5_copyFrom 2 = .ok (.getfield 7, 3) := by decide +kernel
theorem dX5_copyFrom_5 : decode cX5_copyFrom 5 = .ok (.aload_n 1, 1) := by decide +kernel
theorem dX5_copyFrom_6 : decode cX5_copyFrom 6 = .ok (.getfield 13, 3) := by decide +kernel
theorem dX5_copyFrom_9 : decode cX5_copyFrom 9 = .ok (.aload_n 1, 1) := by decide +kernel
theorem dX5_copyFrom_10 : decode cX5_copyFrom 10 = .ok (.getfield 16, 3) := by decide +kernel
theorem dX5_copyFrom_13 : decode cX5_copyFrom 13 = .ok (.aload_n 1, 1) := by decide +kernel
theorem dX5_copyFrom_14 : decode cX5_copyFrom 14 = .ok (.getfield 19, 3) := by decide +kernel
theorem dX5_copyFrom_17 : decode cX5_copyFrom 17 = .ok (.invokevirtual 22, 3) := by decide +kernel
theorem dX5_copyFrom_20 : decode cX5_copyFrom 20 = .ok (.return_, 1) := by decide +kernel
theorem dX5_numberAbout_0 : decode cX5_numberAbout 0 = .ok (.iload_n 1, 1) := by decide +kernel
theorem dX5_numberAbout_1 : decode cX5_numberAbout 1 = .ok (.tableswitch 42 0 2 #[27, 32, 37], 27) := by decide +kernel
theorem dX5_numberAbout_28 : decode cX5_numberAbout 28 = .ok (.aload_n 0, 1) := by decide +kernel
theorem dX5_numberAbout_29 : decode cX5_numberAbout 29 = .ok (.getfield 7, 3) := by decide +kernel
theorem dX5_numberAbout_32 : decode cX5_numberAbout 32 = .ok (.ireturn, 1) := by decide +kernel
theorem dX5_numberAbout_33 : decode cX5_numberAbout 33 = .ok (.aload_n 0, 1) := by decide +kernel
theorem dX5_numberAbout_34 : decode cX5_numberAbout 34 = .ok (.getfield 13, 3) := by decide +kernel
theorem dX5_numberAbout_37 : decode cX5_numberAbout 37 = .ok (.ireturn, 1) := by decide +kernel
theorem dX5_numberAbout_38 : decode cX5_numberAbout 38 = .ok (.aload_n 0, 1) := by decide +kernel
theorem dX5_numberAbout_39 : decode cX5_numberAbout 39 = .ok (.getfield 16, 3) := by decide +kernel
theorem dX5_numberAbout_42 : decode cX5_numberAbout 42 = .ok (.ireturn, 1) := by decide +kernel
theorem dX5_numberAbout_43 : decode cX5_numberAbout 43 = .ok (.aload_n 0, 1) := by decide +kernel
theorem dX5_numberAbout_44 : decode cX5_numberAbout 44 = .ok (.getfield 19, 3) := by decide +kernel
theorem dX5_numberAbout_47 : decode cX5_numberAbout 47 = .ok (.ireturn, 1) := by decide +kernel
theorem dX5_cooled_0 : decode cX5_cooled 0 = .ok (.aload_n 0, 1) := by decide +kernel
theorem dX5_cooled_1 : decode cX5_cooled 1 = .ok (.getfield 19, 3) := by decide +kernel
theorem dX5_cooled_4 : decode cX5_cooled 4 = .ok (.aload_n 0, 1) := by decide +kernel
theorem dX5_cooled_5 : decode cX5_cooled 5 = .ok (.getfield 13, 3) := by decide +kernel
theorem dX5_cooled_8 : decode cX5_cooled 8 = .ok (.aload_n 0, 1) := by decide +kernel
theorem dX5_cooled_9 : decode cX5_cooled 9 = .ok (.getfield 19, 3) := by decide +kernel
theorem dX5_cooled_12 : decode cX5_cooled 12 = .ok (.iload_n 1, 1) := by decide +kernel
theorem dX5_cooled_13 : decode cX5_cooled 13 = .ok (.isub, 1) := by decide +kernel
theorem dX5_cooled_14 : decode cX5_cooled 14 = .ok (.imul, 1) := by decide +kernel
theorem dX5_cooled_15 : decode cX5_cooled 15 = .ok (.bipush 100, 2) := by decide +kernel
theorem dX5_cooled_17 : decode cX5_cooled 17 = .ok (.idiv, 1) := by decide +kernel
theorem dX5_cooled_18 : decode cX5_cooled 18 = .ok (.isub, 1) := by decide +kernel
theorem dX5_cooled_19 : decode cX5_cooled 19 = .ok (.ireturn, 1) := by decide +kernel
theorem dX5_warmTowards_0 : decode cX5_warmTowards 0 = .ok (.iconst 0, 1) := by decide +kernel
theorem dX5_warmTowards_1 : decode cX5_warmTowards 1 = .ok (.iload_n 1, 1) := by decide +kernel
theorem dX5_warmTowards_2 : decode cX5_warmTowards 2 = .ok (.aload_n 0, 1) := by decide +kernel
theorem dX5_warmTowards_3 : decode cX5_warmTowards 3 = .ok (.getfield 19, 3) := by decide +kernel
theorem dX5_warmTowards_6 : decode cX5_warmTowards 6 = .ok (.isub, 1) := by decide +kernel
theorem dX5_warmTowards_7 : decode cX5_warmTowards 7 = .ok (.aload_n 0, 1) := by decide +kernel
theorem dX5_warmTowards_8 : decode cX5_warmTowards 8 = .ok (.getfield 16, 3) := by decide +kernel
theorem dX5_warmTowards_11 : decode cX5_warmTowards 11 = .ok (.invokestatic 26, 3) := by decide +kernel
theorem dX5_warmTowards_14 : decode cX5_warmTowards 14 = .ok (.invokestatic 32, 3) := by decide +kernel
theorem dX5_warmTowards_17 : decode cX5_warmTowards 17 = .ok (.istore_n 2, 1) := by decide +kernel
theorem dX5_warmTowards_18 : decode cX5_warmTowards 18 = .ok (.aload_n 0, 1) := by decide +kernel
theorem dX5_warmTowards_19 : decode cX5_warmTowards 19 = .ok (.dup, 1) := by decide +kernel
theorem dX5_warmTowards_20 : decode cX5_warmTowards 20 = .ok (.getfield 19, 3) := by decide +kernel
theorem dX5_warmTowards_23 : decode cX5_warmTowards 23 = .ok (.iload_n 2, 1) := by decide +kernel
theorem dX5_warmTowards_24 : decode cX5_warmTowards 24 = .ok (.iadd, 1) := by decide +kernel
theorem dX5_warmTowards_25 : decode cX5_warmTowards 25 = .ok (.putfield 19, 3) := by decide +kernel
theorem dX5_warmTowards_28 : decode cX5_warmTowards 28 = .ok (.iload_n 2, 1) := by decide +kernel
theorem dX5_warmTowards_29 : decode cX5_warmTowards 29 = .ok (.aload_n 0, 1) := by decide +kernel
theorem dX5_warmTowards_30 : decode cX5_warmTowards 30 = .ok (.getfield 7, 3) := by decide +kernel
theorem dX5_warmTowards_33 : decode cX5_warmTowards 33 = .ok (.imul, 1) := by decide +kernel
theorem dX5_warmTowards_34 : decode cX5_warmTowards 34 = .ok (.ireturn, 1) := by decide +kernel
theorem dX6_init_0 : decode cX6_init 0 = .ok (.aload_n 0, 1) := by decide +kernel
theorem dX6_init_1 : decode cX6_init 1 = .ok (.invokespecial 1, 3) := by decide +kernel
theorem dX6_init_4 : decode cX6_init 4 = .ok (.aload_n 0, 1) := by decide +kernel
theorem dX6_init_5 : decode cX6_init 5 = .ok (.new 7, 3) := by decide +kernel
theorem dX6_init_8 : decode cX6_init 8 = .ok (.dup, 1) := by decide +kernel
theorem dX6_init_9 : decode cX6_init 9 = .ok (.invokespecial 9, 3) := by decide +kernel
theorem dX6_init_12 : decode cX6_init 12 = .ok (.putfield 10, 3) := by decide +kernel
theorem dX6_init_15 : decode cX6_init 15 = .ok (.aload_n 0, 1) := by decide +kernel
theorem dX6_init_16 : decode cX6_init 16 = .ok (.new 16, 3) := by decide +kernel
theorem dX6_init_19 : decode cX6_init 19 = .ok (.dup, 1) := by decide +kernel
theorem dX6_init_20 : decode cX6_init 20 = .ok (.invokespecial 18, 3) := by decide +kernel
theorem dX6_init_23 : decode cX6_init 23 = .ok (.putfield 19, 3) := by decide +kernel
theorem dX6_init_26 : decode cX6_init 26 = .ok (.aload_n 0, 1) := by decide +kernel
theorem dX6_init_27 : decode cX6_init 27 = .ok (.new 23, 3) := by decide +kernel
theorem dX6_init_30 : decode cX6_init 30 = .ok (.dup, 1) := by decide +kernel
theorem dX6_init_31 : decode cX6_init 31 = .ok (.invokespecial 25, 3) := by decide +kernel
theorem dX6_init_34 : decode cX6_init 34 = .ok (.putfield 26, 3) := by decide +kernel
theorem dX6_init_37 : decode cX6_init 37 = .ok (.aload_n 0, 1) := by decide +kernel
theorem dX6_init_38 : decode cX6_init 38 = .ok (.iconst 2, 1) := by decide +kernel
theorem dX6_init_39 : decode cX6_init 39 = .ok (.anewarray 16, 3) := by decide +kernel
theorem dX6_init_42 : decode cX6_init 42 = .ok (.putfield 30, 3) := by decide +kernel
theorem dX6_init_45 : decode cX6_init 45 = .ok (.aload_n 0, 1) := by decide +kernel
theorem dX6_init_46 : decode cX6_init 46 = .ok (.iconst 2, 1) := by decide +kernel
theorem dX6_init_47 : decode cX6_init 47 = .ok (.newarray .boolean, 2) := by decide +kernel
theorem dX6_init_49 : decode cX6_init 49 = .ok (.putfield 34, 3) := by decide +kernel
theorem dX6_init_52 : decode cX6_init 52 = .ok (.aload_n 0, 1) := by decide +kernel
theorem dX6_init_53 : decode cX6_init 53 = .ok (.new 38, 3) := by decide +kernel
theorem dX6_init_56 : decode cX6_init 56 = .ok (.dup, 1) := by decide +kernel
theorem dX6_init_57 : decode cX6_init 57 = .ok (.invokespecial 40, 3) := by decide +kernel
theorem dX6_init_60 : decode cX6_init 60 = .ok (.putfield 41, 3) := by decide +kernel
theorem dX6_init_63 : decode cX6_init 63 = .ok (.aload_n 0, 1) := by decide +kernel
theorem dX6_init_64 : decode cX6_init 64 = .ok (.new 16, 3) := by decide +kernel
theorem dX6_init_67 : decode cX6_init 67 = .ok (.dup, 1) := by decide +kernel
theorem dX6_init_68 : decode cX6_init 68 = .ok (.invokespecial 18, 3) := by decide +kernel
theorem dX6_init_71 : decode cX6_init 71 = .ok (.putfield 45, 3) := by decide +kernel
theorem dX6_init_74 : decode cX6_init 74 = .ok (.aload_n 0, 1) := by decide +kernel
theorem dX6_init_75 : decode cX6_init 75 = .ok (.new 16, 3) := by decide +kernel
theorem dX6_init_78 : decode cX6_init 78 = .ok (.dup, 1) := by decide +kernel
theorem dX6_init_79 : decode cX6_init 79 = .ok (.invokespecial 18, 3) := by decide +kernel
theorem dX6_init_82 : decode cX6_init 82 = .ok (.putfield 48, 3) := by decide +kernel
theorem dX6_init_85 : decode cX6_init 85 = .ok (.iconst 0, 1) := by decide +kernel
theorem dX6_init_86 : decode cX6_init 86 = .ok (.istore_n 1, 1) := by decide +kernel
theorem dX6_init_87 : decode cX6_init 87 = .ok (.iload_n 1, 1) := by decide +kernel
theorem dX6_init_88 : decode cX6_init 88 = .ok (.aload_n 0, 1) := by decide +kernel
theorem dX6_init_89 : decode cX6_init 89 = .ok (.getfield 30, 3) := by decide +kernel
theorem dX6_init_92 : decode cX6_init 92 = .ok (.arraylength, 1) := by decide +kernel
theorem dX6_init_93 : decode cX6_init 93 = .ok (.if_icmp .ge 22, 3) := by decide +kernel
theorem dX6_init_96 : decode cX6_init 96 = .ok (.aload_n 0, 1) := by decide +kernel
theorem dX6_init_97 : decode cX6_init 97 = .ok (.getfield 30, 3) := by decide +kernel
theorem dX6_init_100 : decode cX6_init 100 = .ok (.iload_n 1, 1) := by decide +kernel
theorem dX6_init_101 : decode cX6_init 101 = .ok (.new 16, 3) := by decide +kernel
theorem dX6_init_104 : decode cX6_init 104 = .ok (.dup, 1) := by decide +kernel
theorem dX6_init_105 : decode cX6_init 105 = .ok (.invokespecial 18, 3) := by decide +kernel
theorem dX6_init_108 : decode cX6_init 108 = .ok (.aastore, 1) := by decide +kernel
theorem dX6_init_109 : decode cX6_init 109 = .ok (.iinc 1 1, 3) := by decide +kernel
theorem dX6_init_112 : decode cX6_init 112 = .ok (.goto (-25), 3) := by decide +kernel
theorem dX6_init_115 : decode cX6_init 115 = .ok (.return_, 1) := by decide +kernel
theorem dX6_append_0 : decode cX6_append 0 = .ok (.iload_n 1, 1) := by decide +kernel
theorem dX6_append_1 : decode cX6_append 1 = .ok (.iconst 0, 1) := by decide +kernel
theorem dX6_append_2 : decode cX6_append 2 = .ok (.sipush 255, 3) := by decide +kernel
theorem dX6_append_5 : decode cX6_append 5 = .ok (.invokestatic 51, 3) := by decide +kernel
theorem dX6_append_8 : decode cX6_append 8 = .ok (.aload_n 0, 1) := by decide +kernel
theorem dX6_append_9 : decode cX6_append 9 = .ok (.getfield 10, 3) := by decide +kernel
theorem dX6_append_12 : decode cX6_append 12 = .ok (.getfield 55, 3) := by decide +kernel
theorem dX6_append_15 : decode cX6_append 15 = .ok (.bipush 120, 2) := by decide +kernel
theorem dX6_append_17 : decode cX6_append 17 = .ok (.if_icmp .lt 13, 3) := by decide +kernel
theorem dX6_append_20 : decode cX6_append 20 = .ok (.new 59, 3) := by decide +kernel
theorem dX6_append_23 : decode cX6_append 23 = .ok (.dup, 1) := by decide +kernel
theorem dX6_append_24 : decode cX6_append 24 = .ok (.ldc 61, 2) := by decide +kernel
theorem dX6_append_26 : decode cX6_append 26 = .ok (.invokespecial 63, 3) := by decide +kernel
theorem dX6_append_29 : decode cX6_append 29 = .ok (.athrow, 1) := by decide +kernel
theorem dX6_append_30 : decode cX6_append 30 = .ok (.aload_n 0, 1) := by decide +kernel
theorem dX6_append_31 : decode cX6_append 31 = .ok (.getfield 10, 3) := by decide +kernel
theorem dX6_append_34 : decode cX6_append 34 = .ok (.iload_n 1, 1) := by decide +kernel
theorem dX6_append_35 : decode cX6_append 35 = .ok (.invokevirtual 66, 3) := by decide +kernel
theorem dX6_append_38 : decode cX6_append 38 = .ok (.aload_n 0, 1) := by decide +kernel
theorem dX6_append_39 : decode cX6_append 39 = .ok (.getfield 10, 3) := by decide +kernel
theorem dX6_append_42 : decode cX6_append 42 = .ok (.getfield 55, 3) := by decide +kernel
theorem dX6_append_45 : decode cX6_append 45 = .ok (.ireturn, 1) := by decide +kernel
theorem dX6_clearText_0 : decode cX6_clearText 0 = .ok (.aload_n 0, 1) := by decide +kernel
theorem dX6_clearText_1 : decode cX6_clearText 1 = .ok (.getfield 10, 3) := by decide +kernel
theorem dX6_clearText_4 : decode cX6_clearText 4 = .ok (.getfield 55, 3) := by decide +kernel
theorem dX6_clearText_7 : decode cX6_clearText 7 = .ok (.istore_n 1, 1) := by decide +kernel
theorem dX6_clearText_8 : decode cX6_clearText 8 = .ok (.aload_n 0, 1) := by decide +kernel
theorem dX6_clearText_9 : decode cX6_clearText 9 = .ok (.getfield 10, 3) := by decide +kernel
theorem dX6_clearText_12 : decode cX6_clearText 12 = .ok (.iconst 0, 1) := by decide +kernel
theorem dX6_clearText_13 : decode cX6_clearText 13 = .ok (.putfield 55, 3) := by decide +kernel
theorem dX6_clearText_16 : decode cX6_clearText 16 = .ok (.iload_n 1, 1) := by decide +kernel
theorem dX6_clearText_17 : decode cX6_clearText 17 = .ok (.ireturn, 1) := by decide +kernel
theorem dX6_errorPosition_0 : decode cX6_errorPosition 0 = .ok (.aload_n 0, 1) := by decide +kernel
theorem dX6_errorPosition_1 : decode cX6_errorPosition 1 = .ok (.getfield 10, 3) := by decide +kernel
theorem dX6_errorPosition_4 : decode cX6_errorPosition 4 = .ok (.aload_n 0, 1) := by decide +kernel
theorem dX6_errorPosition_5 : decode cX6_errorPosition 5 = .ok (.getfield 45, 3) := by decide +kernel
theorem dX6_errorPosition_8 : decode cX6_errorPosition 8 = .ok (.invokevirtual 70, 3) := by decide +kernel
theorem dX6_errorPosition_11 : decode cX6_errorPosition 11 = .ok (.ireturn, 1) := by decide +kernel
theorem dX6_load_0 : decode cX6_load 0 = .ok (.aload_n 0, 1) := by decide +kernel
theorem dX6_load_1 : decode cX6_load 1 = .ok (.getfield 10, 3) := by decide +kernel
theorem dX6_load_4 : decode cX6_load 4 = .ok (.aload_n 0, 1) := by decide +kernel
theorem dX6_load_5 : decode cX6_load 5 = .ok (.getfield 45, 3) := by decide +kernel
theorem dX6_load_8 : decode cX6_load 8 = .ok (.invokevirtual 70, 3) := by decide +kernel
theorem dX6_load_11 : decode cX6_load 11 = .ok (.bipush (-99), 2) := by decide +kernel
theorem dX6_load_13 : decode cX6_load 13 = .ok (.if_icmp .eq 13, 3) := by decide +kernel
theorem dX6_load_16 : decode cX6_load 16 = .ok (.new 59, 3) := by decide +kernel
theorem dX6_load_19 : decode cX6_load 19 = .ok (.dup, 1) := by decide +kernel
theorem dX6_load_20 : decode cX6_load 20 = .ok (.ldc 74, 2) := by decide +kernel
theorem dX6_load_22 : decode cX6_load 22 = .ok (.invokespecial 63, 3) := by decide +kernel
theorem dX6_load_25 : decode cX6_load 25 = .ok (.athrow, 1) := by decide +kernel
theorem dX6_load_26 : decode cX6_load 26 = .ok (.aload_n 0, 1) := by decide +kernel
theorem dX6_load_27 : decode cX6_load 27 = .ok (.getfield 19, 3) := by decide +kernel
theorem dX6_load_30 : decode cX6_load 30 = .ok (.aload_n 0, 1) := by decide +kernel
theorem dX6_load_31 : decode cX6_load 31 = .ok (.getfield 45, 3) := by decide +kernel
theorem dX6_load_34 : decode cX6_load 34 = .ok (.invokevirtual 76, 3) := by decide +kernel
theorem dX6_load_37 : decode cX6_load 37 = .ok (.aload_n 0, 1) := by decide +kernel
theorem dX6_load_38 : decode cX6_load 38 = .ok (.getfield 26, 3) := by decide +kernel
theorem dX6_load_41 : decode cX6_load 41 = .ok (.invokevirtual 80, 3) := by decide +kernel
theorem dX6_load_44 : decode cX6_load 44 = .ok (.iconst 0, 1) := by decide +kernel
theorem dX6_load_45 : decode cX6_load 45 = .ok (.istore_n 1, 1) := by decide +kernel
theorem dX6_load_46 : decode cX6_load 46 = .ok (.iload_n 1, 1) := by decide +kernel
theorem dX6_load_47 : decode cX6_load 47 = .ok (.aload_n 0, 1) := by decide +kernel
theorem dX6_load_48 : decode cX6_load 48 = .ok (.getfield 34, 3) := by decide +kernel
theorem dX6_load_51 : decode cX6_load 51 = .ok (.arraylength, 1) := by decide +kernel
theorem dX6_load_52 : decode cX6_load 52 = .ok (.if_icmp .ge 16, 3) := by decide +kernel
theorem dX6_load_55 : decode cX6_load 55 = .ok (.aload_n 0, 1) := by decide +kernel
theorem dX6_load_56 : decode cX6_load 56 = .ok (.getfield 34, 3) := by decide +kernel
theorem dX6_load_59 : decode cX6_load 59 = .ok (.iload_n 1, 1) := by decide +kernel
theorem dX6_load_60 : decode cX6_load 60 = .ok (.iconst 0, 1) := by decide +kernel
theorem dX6_load_61 : decode cX6_load 61 = .ok (.bastore, 1) := by decide +kernel
theorem dX6_load_62 : decode cX6_load 62 = .ok (.iinc 1 1, 3) := by decide +kernel
theorem dX6_load_65 : decode cX6_load 65 = .ok (.goto (-19), 3) := by decide +kernel
theorem dX6_load_68 : decode cX6_load 68 = .ok (.aload_n 0, 1) := by decide +kernel
theorem dX6_load_69 : decode cX6_load 69 = .ok (.getfield 19, 3) := by decide +kernel
theorem dX6_load_72 : decode cX6_load 72 = .ok (.getfield 83, 3) := by decide +kernel
theorem dX6_load_75 : decode cX6_load 75 = .ok (.ireturn, 1) := by decide +kernel
theorem dX6_about_0 : decode cX6_about 0 = .ok (.iload_n 1, 1) := by decide +kernel
theorem dX6_about_1 : decode cX6_about 1 = .ok (.iconst 0, 1) := by decide +kernel
theorem dX6_about_2 : decode cX6_about 2 = .ok (.bipush 9, 2) := by decide +kernel
theorem dX6_about_4 : decode cX6_about 4 = .ok (.invokestatic 51, 3) := by decide +kernel
theorem dX6_about_7 : decode cX6_about 7 = .ok (.aload_n 0, 1) := by decide +kernel
theorem dX6_about_8 : decode cX6_about 8 = .ok (.getfield 19, 3) := by decide +kernel
theorem dX6_about_11 : decode cX6_about 11 = .ok (.iload_n 1, 1) := by decide +kernel
theorem dX6_about_12 : decode cX6_about 12 = .ok (.invokevirtual 86, 3) := by decide +kernel
theorem dX6_about_15 : decode cX6_about 15 = .ok (.ireturn, 1) := by decide +kernel
theorem dX6_room_0 : decode cX6_room 0 = .ok (.aload_n 0, 1) := by decide +kernel
theorem dX6_room_1 : decode cX6_room 1 = .ok (.iload_n 1, 1) := by decide +kernel
theorem dX6_room_2 : decode cX6_room 2 = .ok (.invokevirtual 90, 3) := by decide +kernel
theorem dX6_room_5 : decode cX6_room 5 = .ok (.astore_n 3, 1) := by decide +kernel
theorem dX6_room_6 : decode cX6_room 6 = .ok (.iload_n 2, 1) := by decide +kernel
theorem dX6_room_7 : decode cX6_room 7 = .ok (.iconst 0, 1) := by decide +kernel
theorem dX6_room_8 : decode cX6_room 8 = .ok (.bipush 6, 2) := by decide +kernel
theorem dX6_room_10 : decode cX6_room 10 = .ok (.invokestatic 51, 3) := by decide +kernel
theorem dX6_room_13 : decode cX6_room 13 = .ok (.iload_n 2, 1) := by decide +kernel
theorem dX6_room_14 : decode cX6_room 14 = .ok (.tableswitch 53 4 6 #[26, 35, 44], 26) := by decide +kernel
theorem dX6_room_40 : decode cX6_room 40 = .ok (.aload_n 0, 1) := by decide +kernel
theorem dX6_room_41 : decode cX6_room 41 = .ok (.getfield 19, 3) := by decide +kernel
theorem dX6_room_44 : decode cX6_room 44 = .ok (.iload_n 1, 1) := by decide +kernel
theorem dX6_room_45 : decode cX6_room 45 = .ok (.invokevirtual 94, 3) := by decide +kernel
theorem dX6_room_48 : decode cX6_room 48 = .ok (.ireturn, 1) := by decide +kernel
theorem dX6_room_49 : decode cX6_room 49 = .ok (.aload_n 0, 1) := by decide +kernel
theorem dX6_room_50 : decode cX6_room 50 = .ok (.getfield 19, 3) := by decide +kernel
theorem dX6_room_53 : decode cX6_room 53 = .ok (.iload_n 1, 1) := by decide +kernel
theorem dX6_room_54 : decode cX6_room 54 = .ok (.invokevirtual 97, 3) := by decide +kernel
theorem dX6_room_57 : decode cX6_room 57 = .ok (.ireturn, 1) := by decide +kernel
theorem dX6_room_58 : decode cX6_room 58 = .ok (.aload_n 0, 1) := by decide +kernel
theorem dX6_room_59 : decode cX6_room 59 = .ok (.getfield 19, 3) := by decide +kernel
theorem dX6_room_62 : decode cX6_room 62 = .ok (.iload_n 1, 1) := by decide +kernel
theorem dX6_room_63 : decode cX6_room 63 = .ok (.invokevirtual 100, 3) := by decide +kernel
theorem dX6_room_66 : decode cX6_room 66 = .ok (.ireturn, 1) := by decide +kernel
theorem dX6_room_67 : decode cX6_room 67 = .ok (.aload_n 3, 1) := by decide +kernel
theorem dX6_room_68 : decode cX6_room 68 = .ok (.iload_n 2, 1) := by decide +kernel
theorem dX6_room_69 : decode cX6_room 69 = .ok (.invokevirtual 103, 3) := by decide +kernel
theorem dX6_room_72 : decode cX6_room 72 = .ok (.ireturn, 1) := by decide +kernel
theorem dX6_owes_0 : decode cX6_owes 0 = .ok (.aload_n 0, 1) := by decide +kernel
theorem dX6_owes_1 : decode cX6_owes 1 = .ok (.iload_n 1, 1) := by decide +kernel
theorem dX6_owes_2 : decode cX6_owes 2 = .ok (.invokevirtual 106, 3) := by decide +kernel
theorem dX6_owes_5 : decode cX6_owes 5 = .ok (.aload_n 0, 1) := by decide +kernel
theorem dX6_owes_6 : decode cX6_owes 6 = .ok (.getfield 19, 3) := by decide +kernel
theorem dX6_owes_9 : decode cX6_owes 9 = .ok (.iload_n 1, 1) := by decide +kernel
theorem dX6_owes_10 : decode cX6_owes 10 = .ok (.invokevirtual 109, 3) := by decide +kernel
theorem dX6_owes_13 : decode cX6_owes 13 = .ok (.ireturn, 1) := by decide +kernel
theorem dX6_booking_0 : decode cX6_booking 0 = .ok (.aload_n 0, 1) := by decide +kernel
theorem dX6_booking_1 : decode cX6_booking 1 = .ok (.iload_n 1, 1) := by decide +kernel
theorem dX6_booking_2 : decode cX6_booking 2 = .ok (.invokevirtual 112, 3) := by decide +kernel
theorem dX6_booking_5 : decode cX6_booking 5 = .ok (.astore_n 3, 1) := by decide +kernel
theorem dX6_booking_6 : decode cX6_booking 6 = .ok (.iload_n 2, 1) := by decide +kernel
theorem dX6_booking_7 : decode cX6_booking 7 = .ok (.iconst 0, 1) := by decide +kernel
theorem dX6_booking_8 : decode cX6_booking 8 = .ok (.bipush 9, 2) := by decide +kernel
theorem dX6_booking_10 : decode cX6_booking 10 = .ok (.invokestatic 51, 3) := by decide +kernel
theorem dX6_booking_13 : decode cX6_booking 13 = .ok (.iload_n 2, 1) := by decide +kernel
theorem dX6_booking_14 : decode cX6_booking 14 = .ok (.bipush 9, 2) := by decide +kernel
theorem dX6_booking_16 : decode cX6_booking 16 = .ok (.if_icmp .ne 23, 3) := by decide +kernel
theorem dX6_booking_19 : decode cX6_booking 19 = .ok (.aload_n 3, 1) := by decide +kernel
theorem dX6_booking_20 : decode cX6_booking 20 = .ok (.aload_n 0, 1) := by decide +kernel
theorem dX6_booking_21 : decode cX6_booking 21 = .ok (.getfield 19, 3) := by decide +kernel
theorem dX6_booking_24 : decode cX6_booking 24 = .ok (.getfield 116, 3) := by decide +kernel
theorem dX6_booking_27 : decode cX6_booking 27 = .ok (.invokevirtual 119, 3) := by decide +kernel
theorem dX6_booking_30 : decode cX6_booking 30 = .ok (.ifCond .eq 7, 3) := by decide +kernel
theorem dX6_booking_33 : decode cX6_booking 33 = .ok (.iconst 1, 1) := by decide +kernel
theorem dX6_booking_34 : decode cX6_booking 34 = .ok (.goto 4, 3) := by decide +kernel
theorem dX6_booking_37 : decode cX6_booking 37 = .ok (.iconst 0, 1) := by decide +kernel
theorem dX6_booking_38 : decode cX6_booking 38 = .ok (.ireturn, 1) := by decide +kernel
theorem dX6_booking_39 : decode cX6_booking 39 = .ok (.aload_n 3, 1) := by decide +kernel
theorem dX6_booking_40 : decode cX6_booking 40 = .ok (.iload_n 2, 1) := by decide +kernel
theorem dX6_booking_41 : decode cX6_booking 41 = .ok (.invokevirtual 125, 3) := by decide +kernel
theorem dX6_booking_44 : decode cX6_booking 44 = .ok (.ireturn, 1) := by decide +kernel
theorem dX6_addRoom_0 : decode cX6_addRoom 0 = .ok (.iload_n 1, 1) := by decide +kernel
theorem dX6_addRoom_1 : decode cX6_addRoom 1 = .ok (.iconst 1, 1) := by decide +kernel
theorem dX6_addRoom_2 : decode cX6_addRoom 2 = .ok (.bipush 9, 2) := by decide +kernel
theorem dX6_addRoom_4 : decode cX6_addRoom 4 = .ok (.invokestatic 51, 3) := by decide +kernel
theorem dX6_addRoom_7 : decode cX6_addRoom 7 = .ok (.iload_n 2, 1) := by decide +kernel
theorem dX6_addRoom_8 : decode cX6_addRoom 8 = .ok (.iconst 1, 1) := by decide +kernel
theorem dX6_addRoom_9 : decode cX6_addRoom 9 = .ok (.bipush 9, 2) := by decide +kernel
theorem dX6_addRoom_11 : decode cX6_addRoom 11 = .ok (.invokestatic 51, 3) := by decide +kernel
theorem dX6_addRoom_14 : decode cX6_addRoom 14 = .ok (.iload_n 3, 1) := by decide +kernel
theorem dX6_addRoom_15 : decode cX6_addRoom 15 = .ok (.iconst 1, 1) := by decide +kernel
theorem dX6_addRoom_16 : decode cX6_addRoom 16 = .ok (.bipush 9, 2) := by decide +kernel
theorem dX6_addRoom_18 : decode cX6_addRoom 18 = .ok (.invokestatic 51, 3) := by decide +kernel
theorem dX6_addRoom_21 : decode cX6_addRoom 21 = .ok (.iload 4, 2) := by decide +kernel
theorem dX6_addRoom_23 : decode cX6_addRoom 23 = .ok (.bipush (-10), 2) := by decide +kernel
theorem dX6_addRoom_25 : decode cX6_addRoom 25 = .ok (.bipush 30, 2) := by decide +kernel
theorem dX6_addRoom_27 : decode cX6_addRoom 27 = .ok (.invokestatic 51, 3) := by decide +kernel
theorem dX6_addRoom_30 : decode cX6_addRoom 30 = .ok (.aload_n 0, 1) := by decide +kernel
theorem dX6_addRoom_31 : decode cX6_addRoom 31 = .ok (.getfield 19, 3) := by decide +kernel
theorem dX6_addRoom_34 : decode cX6_addRoom 34 = .ok (.getfield 83, 3) := by decide +kernel
theorem dX6_addRoom_37 : decode cX6_addRoom 37 = .ok (.iconst 4, 1) := by decide +kernel
theorem dX6_addRoom_38 : decode cX6_addRoom 38 = .ok (.if_icmp .lt 13, 3) := by decide +kernel
theorem dX6_addRoom_41 : decode cX6_addRoom 41 = .ok (.new 59, 3) := by decide +kernel
theorem dX6_addRoom_44 : decode cX6_addRoom 44 = .ok (.dup, 1) := by decide +kernel
theorem dX6_addRoom_45 : decode cX6_addRoom 45 = .ok (.ldc 126, 2) := by decide +kernel
theorem dX6_addRoom_47 : decode cX6_addRoom 47 = .ok (.invokespecial 63, 3) := by decide +kernel
theorem dX6_addRoom_50 : decode cX6_addRoom 50 = .ok (.athrow, 1) := by decide +kernel
theorem dX6_addRoom_51 : decode cX6_addRoom 51 = .ok (.aload_n 0, 1) := by decide +kernel
theorem dX6_addRoom_52 : decode cX6_addRoom 52 = .ok (.getfield 26, 3) := by decide +kernel
theorem dX6_addRoom_55 : decode cX6_addRoom 55 = .ok (.aload_n 0, 1) := by decide +kernel
theorem dX6_addRoom_56 : decode cX6_addRoom 56 = .ok (.getfield 19, 3) := by decide +kernel
theorem dX6_addRoom_59 : decode cX6_addRoom 59 = .ok (.invokevirtual 128, 3) := by decide +kernel
theorem dX6_addRoom_62 : decode cX6_addRoom 62 = .ok (.aload_n 0, 1) := by decide +kernel
theorem dX6_addRoom_63 : decode cX6_addRoom 63 = .ok (.getfield 19, 3) := by decide +kernel
theorem dX6_addRoom_66 : decode cX6_addRoom 66 = .ok (.iload_n 1, 1) := by decide +kernel
theorem dX6_addRoom_67 : decode cX6_addRoom 67 = .ok (.iload_n 2, 1) := by decide +kernel
theorem dX6_addRoom_68 : decode cX6_addRoom 68 = .ok (.iload_n 3, 1) := by decide +kernel
theorem dX6_addRoom_69 : decode cX6_addRoom 69 = .ok (.iload 4, 2) := by decide +kernel
theorem dX6_addRoom_71 : decode cX6_addRoom 71 = .ok (.invokevirtual 131, 3) := by decide +kernel
theorem dX6_addRoom_74 : decode cX6_addRoom 74 = .ok (.ireturn, 1) := by decide +kernel
theorem dX6_addGroup_0 : decode cX6_addGroup 0 = .ok (.aload_n 0, 1) := by decide +kernel
theorem dX6_addGroup_1 : decode cX6_addGroup 1 = .ok (.getfield 19, 3) := by decide +kernel
theorem dX6_addGroup_4 : decode cX6_addGroup 4 = .ok (.getfield 135, 3) := by decide +kernel
theorem dX6_addGroup_7 : decode cX6_addGroup 7 = .ok (.bipush 6, 2) := by decide +kernel
theorem dX6_addGroup_9 : decode cX6_addGroup 9 = .ok (.if_icmp .lt 13, 3) := by decide +kernel
theorem dX6_addGroup_12 : decode cX6_addGroup 12 = .ok (.new 59, 3) := by decide +kernel
theorem dX6_addGroup_15 : decode cX6_addGroup 15 = .ok (.dup, 1) := by decide +kernel
theorem dX6_addGroup_16 : decode cX6_addGroup 16 = .ok (.ldc 138, 2) := by decide +kernel
theorem dX6_addGroup_18 : decode cX6_addGroup 18 = .ok (.invokespecial 63, 3) := by decide +kernel
theorem dX6_addGroup_21 : decode cX6_addGroup 21 = .ok (.athrow, 1) := by decide +kernel
theorem dX6_addGroup_22 : decode cX6_addGroup 22 = .ok (.aload_n 0, 1) := by decide +kernel
theorem dX6_addGroup_23 : decode cX6_addGroup 23 = .ok (.getfield 26, 3) := by decide +kernel
theorem dX6_addGroup_26 : decode cX6_addGroup 26 = .ok (.aload_n 0, 1) := by decide +kernel
theorem dX6_addGroup_27 : decode cX6_addGroup 27 = .ok (.getfield 19, 3) := by decide +kernel
theorem dX6_addGroup_30 : decode cX6_addGroup 30 = .ok (.invokevirtual 128, 3) := by decide +kernel
theorem dX6_addGroup_33 : decode cX6_addGroup 33 = .ok (.aload_n 0, 1) := by decide +kernel
theorem dX6_addGroup_34 : decode cX6_addGroup 34 = .ok (.getfield 19, 3) := by decide +kernel
theorem dX6_addGroup_37 : decode cX6_addGroup 37 = .ok (.invokevirtual 140, 3) := by decide +kernel
theorem dX6_addGroup_40 : decode cX6_addGroup 40 = .ok (.ireturn, 1) := by decide +kernel
theorem dX6_book_0 : decode cX6_book 0 = .ok (.aload_n 0, 1) := by decide +kernel
theorem dX6_book_1 : decode cX6_book 1 = .ok (.iload_n 1, 1) := by decide +kernel
theorem dX6_book_2 : decode cX6_book 2 = .ok (.iload_n 2, 1) := by decide +kernel
theorem dX6_book_3 : decode cX6_book 3 = .ok (.iload_n 3, 1) := by decide +kernel
theorem dX6_book_4 : decode cX6_book 4 = .ok (.iload 4, 2) := by decide +kernel
theorem dX6_book_6 : decode cX6_book 6 = .ok (.iload 5, 2) := by decide +kernel
theorem dX6_book_8 : decode cX6_book 8 = .ok (.invokevirtual 144, 3) := by decide +kernel
theorem dX6_book_11 : decode cX6_book 11 = .ok (.aload_n 0, 1) := by decide +kernel
theorem dX6_book_12 : decode cX6_book 12 = .ok (.getfield 19, 3) := by decide +kernel
theorem dX6_book_15 : decode cX6_book 15 = .ok (.iload_n 1, 1) := by decide +kernel
theorem dX6_book_16 : decode cX6_book 16 = .ok (.iload_n 3, 1) := by decide +kernel
theorem dX6_book_17 : decode cX6_book 17 = .ok (.iload 4, 2) := by decide +kernel
theorem dX6_book_19 : decode cX6_book 19 = .ok (.invokevirtual 148, 3) := by decide +kernel
theorem dX6_book_22 : decode cX6_book 22 = .ok (.ifCond .ne 13, 3) := by decide +kernel
theorem dX6_book_25 : decode cX6_book 25 = .ok (.new 59, 3) := by decide +kernel
theorem dX6_book_28 : decode cX6_book 28 = .ok (.dup, 1) := by decide +kernel
theorem dX6_book_29 : decode cX6_book 29 = .ok (.ldc 152, 2) := by decide +kernel
theorem dX6_book_31 : decode cX6_book 31 = .ok (.invokespecial 63, 3) := by decide +kernel
theorem dX6_book_34 : decode cX6_book 34 = .ok (.athrow, 1) := by decide +kernel
theorem dX6_book_35 : decode cX6_book 35 = .ok (.aload_n 0, 1) := by decide +kernel
theorem dX6_book_36 : decode cX6_book 36 = .ok (.getfield 26, 3) := by decide +kernel
theorem dX6_book_39 : decode cX6_book 39 = .ok (.aload_n 0, 1) := by decide +kernel
theorem dX6_book_40 : decode cX6_book 40 = .ok (.getfield 19, 3) := by decide +kernel
theorem dX6_book_43 : decode cX6_book 43 = .ok (.invokevirtual 128, 3) := by decide +kernel
theorem dX6_book_46 : decode cX6_book 46 = .ok (.aload_n 0, 1) := by decide +kernel
theorem dX6_book_47 : decode cX6_book 47 = .ok (.getfield 19, 3) := by decide +kernel
theorem dX6_book_50 : decode cX6_book 50 = .ok (.iload_n 1, 1) := by decide +kernel
theorem dX6_book_51 : decode cX6_book 51 = .ok (.iload_n 2, 1) := by decide +kernel
theorem dX6_book_52 : decode cX6_book 52 = .ok (.iload_n 3, 1) := by decide +kernel
theorem dX6_book_53 : decode cX6_book 53 = .ok (.iload 4, 2) := by decide +kernel
theorem dX6_book_55 : decode cX6_book 55 = .ok (.iload 5, 2) := by decide +kernel
theorem dX6_book_57 : decode cX6_book 57 = .ok (.invokevirtual 154, 3) := by decide +kernel
theorem dX6_book_60 : decode cX6_book 60 = .ok (.ireturn, 1) := by decide +kernel
theorem dX6_cancel_0 : decode cX6_cancel 0 = .ok (.aload_n 0, 1) := by decide +kernel
theorem dX6_cancel_1 : decode cX6_cancel 1 = .ok (.iload_n 1, 1) := by decide +kernel
theorem dX6_cancel_2 : decode cX6_cancel 2 = .ok (.invokevirtual 112, 3) := by decide +kernel
theorem dX6_cancel_5 : decode cX6_cancel 5 = .ok (.astore_n 2, 1) := by decide +kernel
theorem dX6_cancel_6 : decode cX6_cancel 6 = .ok (.aload_n 2, 1) := by decide +kernel
theorem dX6_cancel_7 : decode cX6_cancel 7 = .ok (.aload_n 0, 1) := by decide +kernel
theorem dX6_cancel_8 : decode cX6_cancel 8 = .ok (.getfield 19, 3) := by decide +kernel
theorem dX6_cancel_11 : decode cX6_cancel 11 = .ok (.getfield 116, 3) := by decide +kernel
theorem dX6_cancel_14 : decode cX6_cancel 14 = .ok (.invokevirtual 158, 3) := by decide +kernel
theorem dX6_cancel_17 : decode cX6_cancel 17 = .ok (.ifCond .ne 13, 3) := by decide +kernel
theorem dX6_cancel_20 : decode cX6_cancel 20 = .ok (.new 59, 3) := by decide +kernel
theorem dX6_cancel_23 : decode cX6_cancel 23 = .ok (.dup, 1) := by decide +kernel
theorem dX6_cancel_24 : decode cX6_cancel 24 = .ok (.ldc 161, 2) := by decide +kernel
theorem dX6_cancel_26 : decode cX6_cancel 26 = .ok (.invokespecial 63, 3) := by decide +kernel
theorem dX6_cancel_29 : decode cX6_cancel 29 = .ok (.athrow, 1) := by decide +kernel
theorem dX6_cancel_30 : decode cX6_cancel 30 = .ok (.aload_n 0, 1) := by decide +kernel
theorem dX6_cancel_31 : decode cX6_cancel 31 = .ok (.getfield 26, 3) := by decide +kernel
theorem dX6_cancel_34 : decode cX6_cancel 34 = .ok (.aload_n 0, 1) := by decide +kernel
theorem dX6_cancel_35 : decode cX6_cancel 35 = .ok (.getfield 19, 3) := by decide +kernel
theorem dX6_cancel_38 : decode cX6_cancel 38 = .ok (.invokevirtual 128, 3) := by decide +kernel
theorem dX6_cancel_41 : decode cX6_cancel 41 = .ok (.aload_n 0, 1) := by decide +kernel
theorem dX6_cancel_42 : decode cX6_cancel 42 = .ok (.getfield 19, 3) := by decide +kernel
theorem dX6_cancel_45 : decode cX6_cancel 45 = .ok (.iload_n 1, 1) := by decide +kernel
theorem dX6_cancel_46 : decode cX6_cancel 46 = .ok (.invokevirtual 163, 3) := by decide +kernel
theorem dX6_cancel_49 : decode cX6_cancel 49 = .ok (.aload_n 0, 1) := by decide +kernel
theorem dX6_cancel_50 : decode cX6_cancel 50 = .ok (.getfield 19, 3) := by decide +kernel
theorem dX6_cancel_53 : decode cX6_cancel 53 = .ok (.getfield 166, 3) := by decide +kernel
theorem dX6_cancel_56 : decode cX6_cancel 56 = .ok (.ireturn, 1) := by decide +kernel
theorem dX6_prove_0 : decode cX6_prove 0 = .ok (.aload_n 0, 1) := by decide +kernel
theorem dX6_prove_1 : decode cX6_prove 1 = .ok (.iload_n 1, 1) := by decide +kernel
theorem dX6_prove_2 : decode cX6_prove 2 = .ok (.invokevirtual 90, 3) := by decide +kernel
theorem dX6_prove_5 : decode cX6_prove 5 = .ok (.pop, 1) := by decide +kernel
theorem dX6_prove_6 : decode cX6_prove 6 = .ok (.aload_n 0, 1) := by decide +kernel
theorem dX6_prove_7 : decode cX6_prove 7 = .ok (.getfield 19, 3) := by decide +kernel
theorem dX6_prove_10 : decode cX6_prove 10 = .ok (.iload_n 1, 1) := by decide +kernel
theorem dX6_prove_11 : decode cX6_prove 11 = .ok (.invokevirtual 94, 3) := by decide +kernel
theorem dX6_prove_14 : decode cX6_prove 14 = .ok (.istore_n 3, 1) := by decide +kernel
theorem dX6_prove_15 : decode cX6_prove 15 = .ok (.iload_n 3, 1) := by decide +kernel
theorem dX6_prove_16 : decode cX6_prove 16 = .ok (.bipush (-99), 2) := by decide +kernel
theorem dX6_prove_18 : decode cX6_prove 18 = .ok (.if_icmp .ne 13, 3) := by decide +kernel
theorem dX6_prove_21 : decode cX6_prove 21 = .ok (.new 59, 3) := by decide +kernel
theorem dX6_prove_24 : decode cX6_prove 24 = .ok (.dup, 1) := by decide +kernel
theorem dX6_prove_25 : decode cX6_prove 25 = .ok (.ldc 169, 2) := by decide +kernel
theorem dX6_prove_27 : decode cX6_prove 27 = .ok (.invokespecial 63, 3) := by decide +kernel
theorem dX6_prove_30 : decode cX6_prove 30 = .ok (.athrow, 1) := by decide +kernel
theorem dX6_prove_31 : decode cX6_prove 31 = .ok (.aload_n 0, 1) := by decide +kernel
theorem dX6_prove_32 : decode cX6_prove 32 = .ok (.getfield 26, 3) := by decide +kernel
theorem dX6_prove_35 : decode cX6_prove 35 = .ok (.aload_n 0, 1) := by decide +kernel
theorem dX6_prove_36 : decode cX6_prove 36 = .ok (.getfield 19, 3) := by decide +kernel
theorem dX6_prove_39 : decode cX6_prove 39 = .ok (.invokevirtual 128, 3) := by decide +kernel
theorem dX6_prove_42 : decode cX6_prove 42 = .ok (.aload_n 0, 1) := by decide +kernel
theorem dX6_prove_43 : decode cX6_prove 43 = .ok (.getfield 19, 3) := by decide +kernel
theorem dX6_prove_46 : decode cX6_prove 46 = .ok (.iload_n 1, 1) := by decide +kernel
theorem dX6_prove_47 : decode cX6_prove 47 = .ok (.iload_n 2, 1) := by decide +kernel
theorem dX6_prove_48 : decode cX6_prove 48 = .ok (.invokevirtual 171, 3) := by decide +kernel
theorem dX6_prove_51 : decode cX6_prove 51 = .ok (.iload_n 3, 1) := by decide +kernel
theorem dX6_prove_52 : decode cX6_prove 52 = .ok (.ireturn, 1) := by decide +kernel
theorem dX6_outside_0 : decode cX6_outside 0 = .ok (.iload_n 1, 1) := by decide +kernel
theorem dX6_outside_1 : decode cX6_outside 1 = .ok (.bipush (-20), 2) := by decide +kernel
theorem dX6_outside_3 : decode cX6_outside 3 = .ok (.bipush 25, 2) := by decide +kernel
theorem dX6_outside_5 : decode cX6_outside 5 = .ok (.invokestatic 51, 3) := by decide +kernel
theorem dX6_outside_8 : decode cX6_outside 8 = .ok (.aload_n 0, 1) := by decide +kernel
theorem dX6_outside_9 : decode cX6_outside 9 = .ok (.getfield 26, 3) := by decide +kernel
theorem dX6_outside_12 : decode cX6_outside 12 = .ok (.aload_n 0, 1) := by decide +kernel
theorem dX6_outside_13 : decode cX6_outside 13 = .ok (.getfield 19, 3) := by decide +kernel
theorem dX6_outside_16 : decode cX6_outside 16 = .ok (.invokevirtual 128, 3) := by decide +kernel
theorem dX6_outside_19 : decode cX6_outside 19 = .ok (.aload_n 0, 1) := by decide +kernel
theorem dX6_outside_20 : decode cX6_outside 20 = .ok (.getfield 19, 3) := by decide +kernel
theorem dX6_outside_23 : decode cX6_outside 23 = .ok (.getfield 175, 3) := by decide +kernel
theorem dX6_outside_26 : decode cX6_outside 26 = .ok (.istore_n 2, 1) := by decide +kernel
theorem dX6_outside_27 : decode cX6_outside 27 = .ok (.aload_n 0, 1) := by decide +kernel
theorem dX6_outside_28 : decode cX6_outside 28 = .ok (.getfield 19, 3) := by decide +kernel
theorem dX6_outside_31 : decode cX6_outside 31 = .ok (.iload_n 1, 1) := by decide +kernel
theorem dX6_outside_32 : decode cX6_outside 32 = .ok (.putfield 175, 3) := by decide +kernel
theorem dX6_outside_35 : decode cX6_outside 35 = .ok (.iload_n 2, 1) := by decide +kernel
theorem dX6_outside_36 : decode cX6_outside 36 = .ok (.ireturn, 1) := by decide +kernel
theorem dX6_pay_0 : decode cX6_pay 0 = .ok (.aload_n 0, 1) := by decide +kernel
theorem dX6_pay_1 : decode cX6_pay 1 = .ok (.iload_n 1, 1) := by decide +kernel
theorem dX6_pay_2 : decode cX6_pay 2 = .ok (.invokevirtual 106, 3) := by decide +kernel
theorem dX6_pay_5 : decode cX6_pay 5 = .ok (.aload_n 0, 1) := by decide +kernel
theorem dX6_pay_6 : decode cX6_pay 6 = .ok (.getfield 26, 3) := by decide +kernel
theorem dX6_pay_9 : decode cX6_pay 9 = .ok (.aload_n 0, 1) := by decide +kernel
theorem dX6_pay_10 : decode cX6_pay 10 = .ok (.getfield 19, 3) := by decide +kernel
theorem dX6_pay_13 : decode cX6_pay 13 = .ok (.invokevirtual 128, 3) := by decide +kernel
theorem dX6_pay_16 : decode cX6_pay 16 = .ok (.aload_n 0, 1) := by decide +kernel
theorem dX6_pay_17 : decode cX6_pay 17 = .ok (.getfield 19, 3) := by decide +kernel
theorem dX6_pay_20 : decode cX6_pay 20 = .ok (.iload_n 1, 1) := by decide +kernel
theorem dX6_pay_21 : decode cX6_pay 21 = .ok (.invokevirtual 178, 3) := by decide +kernel
theorem dX6_pay_24 : decode cX6_pay 24 = .ok (.ireturn, 1) := by decide +kernel
theorem dX6_pass_0 : decode cX6_pass 0 = .ok (.iload_n 1, 1) := by decide +kernel
theorem dX6_pass_1 : decode cX6_pass 1 = .ok (.iconst 1, 1) := by decide +kernel
theorem dX6_pass_2 : decode cX6_pass 2 = .ok (.bipush 48, 2) := by decide +kernel
theorem dX6_pass_4 : decode cX6_pass 4 = .ok (.invokestatic 51, 3) := by decide +kernel
theorem dX6_pass_7 : decode cX6_pass 7 = .ok (.aload_n 0, 1) := by decide +kernel
theorem dX6_pass_8 : decode cX6_pass 8 = .ok (.getfield 19, 3) := by decide +kernel
theorem dX6_pass_11 : decode cX6_pass 11 = .ok (.getfield 116, 3) := by decide +kernel
theorem dX6_pass_14 : decode cX6_pass 14 = .ok (.iload_n 1, 1) := by decide +kernel
theorem dX6_pass_15 : decode cX6_pass 15 = .ok (.iadd, 1) := by decide +kernel
theorem dX6_pass_16 : decode cX6_pass 16 = .ok (.sipush 240, 3) := by decide +kernel
theorem dX6_pass_19 : decode cX6_pass 19 = .ok (.if_icmp .le 13, 3) := by decide +kernel
theorem dX6_pass_22 : decode cX6_pass 22 = .ok (.new 59, 3) := by decide +kernel
theorem dX6_pass_25 : decode cX6_pass 25 = .ok (.dup, 1) := by decide +kernel
theorem dX6_pass_26 : decode cX6_pass 26 = .ok (.ldc 181, 2) := by decide +kernel
theorem dX6_pass_28 : decode cX6_pass 28 = .ok (.invokespecial 63, 3) := by decide +kernel
theorem dX6_pass_31 : decode cX6_pass 31 = .ok (.athrow, 1) := by decide +kernel
theorem dX6_pass_32 : decode cX6_pass 32 = .ok (.aload_n 0, 1) := by decide +kernel
theorem dX6_pass_33 : decode cX6_pass 33 = .ok (.getfield 26, 3) := by decide +kernel
theorem dX6_pass_36 : decode cX6_pass 36 = .ok (.aload_n 0, 1) := by decide +kernel
theorem dX6_pass_37 : decode cX6_pass 37 = .ok (.getfield 19, 3) := by decide +kernel
theorem dX6_pass_40 : decode cX6_pass 40 = .ok (.invokevirtual 128, 3) := by decide +kernel
theorem dX6_pass_43 : decode cX6_pass 43 = .ok (.aload_n 0, 1) := by decide +kernel
theorem dX6_pass_44 : decode cX6_pass 44 = .ok (.getfield 19, 3) := by decide +kernel
theorem dX6_pass_47 : decode cX6_pass 47 = .ok (.getfield 183, 3) := by decide +kernel
theorem dX6_pass_50 : decode cX6_pass 50 = .ok (.istore_n 2, 1) := by decide +kernel
theorem dX6_pass_51 : decode cX6_pass 51 = .ok (.aload_n 0, 1) := by decide +kernel
theorem dX6_pass_52 : decode cX6_pass 52 = .ok (.getfield 19, 3) := by decide +kernel
theorem dX6_pass_55 : decode cX6_pass 55 = .ok (.iload_n 1, 1) := by decide +kernel
theorem dX6_pass_56 : decode cX6_pass 56 = .ok (.invokevirtual 186, 3) := by decide +kernel
theorem dX6_pass_59 : decode cX6_pass 59 = .ok (.aload_n 0, 1) := by decide +kernel
theorem dX6_pass_60 : decode cX6_pass 60 = .ok (.getfield 19, 3) := by decide +kernel
theorem dX6_pass_63 : decode cX6_pass 63 = .ok (.getfield 183, 3) := by decide +kernel
theorem dX6_pass_66 : decode cX6_pass 66 = .ok (.iload_n 2, 1) := by decide +kernel
theorem dX6_pass_67 : decode cX6_pass 67 = .ok (.isub, 1) := by decide +kernel
theorem dX6_pass_68 : decode cX6_pass 68 = .ok (.ireturn, 1) := by decide +kernel
theorem dX6_undo_0 : decode cX6_undo 0 = .ok (.aload_n 0, 1) := by decide +kernel
theorem dX6_undo_1 : decode cX6_undo 1 = .ok (.getfield 26, 3) := by decide +kernel
theorem dX6_undo_4 : decode cX6_undo 4 = .ok (.getfield 189, 3) := by decide +kernel
theorem dX6_undo_7 : decode cX6_undo 7 = .ok (.ifCond .ne 13, 3) := by decide +kernel
theorem dX6_undo_10 : decode cX6_undo 10 = .ok (.new 59, 3) := by decide +kernel
theorem dX6_undo_13 : decode cX6_undo 13 = .ok (.dup, 1) := by decide +kernel
theorem dX6_undo_14 : decode cX6_undo 14 = .ok (.ldc 192, 2) := by decide +kernel
theorem dX6_undo_16 : decode cX6_undo 16 = .ok (.invokespecial 63, 3) := by decide +kernel
theorem dX6_undo_19 : decode cX6_undo 19 = .ok (.athrow, 1) := by decide +kernel
theorem dX6_undo_20 : decode cX6_undo 20 = .ok (.aload_n 0, 1) := by decide +kernel
theorem dX6_undo_21 : decode cX6_undo 21 = .ok (.getfield 26, 3) := by decide +kernel
theorem dX6_undo_24 : decode cX6_undo 24 = .ok (.aload_n 0, 1) := by decide +kernel
theorem dX6_undo_25 : decode cX6_undo 25 = .ok (.getfield 19, 3) := by decide +kernel
theorem dX6_undo_28 : decode cX6_undo 28 = .ok (.invokevirtual 194, 3) := by decide +kernel
theorem dX6_undo_31 : decode cX6_undo 31 = .ok (.aload_n 0, 1) := by decide +kernel
theorem dX6_undo_32 : decode cX6_undo 32 = .ok (.getfield 26, 3) := by decide +kernel
theorem dX6_undo_35 : decode cX6_undo 35 = .ok (.getfield 189, 3) := by decide +kernel
theorem dX6_undo_38 : decode cX6_undo 38 = .ok (.ireturn, 1) := by decide +kernel
theorem dX6_later_0 : decode cX6_later 0 = .ok (.aload_n 0, 1) := by decide +kernel
theorem dX6_later_1 : decode cX6_later 1 = .ok (.iload_n 1, 1) := by decide +kernel
theorem dX6_later_2 : decode cX6_later 2 = .ok (.invokevirtual 90, 3) := by decide +kernel
theorem dX6_later_5 : decode cX6_later 5 = .ok (.pop, 1) := by decide +kernel
theorem dX6_later_6 : decode cX6_later 6 = .ok (.iload_n 2, 1) := by decide +kernel
theorem dX6_later_7 : decode cX6_later 7 = .ok (.iconst 0, 1) := by decide +kernel
theorem dX6_later_8 : decode cX6_later 8 = .ok (.bipush 48, 2) := by decide +kernel
theorem dX6_later_10 : decode cX6_later 10 = .ok (.invokestatic 51, 3) := by decide +kernel
theorem dX6_later_13 : decode cX6_later 13 = .ok (.aload_n 0, 1) := by decide +kernel
theorem dX6_later_14 : decode cX6_later 14 = .ok (.getfield 45, 3) := by decide +kernel
theorem dX6_later_17 : decode cX6_later 17 = .ok (.aload_n 0, 1) := by decide +kernel
theorem dX6_later_18 : decode cX6_later 18 = .ok (.getfield 19, 3) := by decide +kernel
theorem dX6_later_21 : decode cX6_later 21 = .ok (.invokevirtual 76, 3) := by decide +kernel
theorem dX6_later_24 : decode cX6_later 24 = .ok (.aload_n 0, 1) := by decide +kernel
theorem dX6_later_25 : decode cX6_later 25 = .ok (.getfield 45, 3) := by decide +kernel
theorem dX6_later_28 : decode cX6_later 28 = .ok (.iload_n 2, 1) := by decide +kernel
theorem dX6_later_29 : decode cX6_later 29 = .ok (.invokevirtual 186, 3) := by decide +kernel
theorem dX6_later_32 : decode cX6_later 32 = .ok (.aload_n 0, 1) := by decide +kernel
theorem dX6_later_33 : decode cX6_later 33 = .ok (.getfield 45, 3) := by decide +kernel
theorem dX6_later_36 : decode cX6_later 36 = .ok (.iload_n 1, 1) := by decide +kernel
theorem dX6_later_37 : decode cX6_later 37 = .ok (.invokevirtual 197, 3) := by decide +kernel
theorem dX6_later_40 : decode cX6_later 40 = .ok (.astore_n 3, 1) := by decide +kernel
theorem dX6_later_41 : decode cX6_later 41 = .ok (.aload_n 3, 1) := by decide +kernel
theorem dX6_later_42 : decode cX6_later 42 = .ok (.ifnonnull 8, 3) := by decide +kernel
theorem dX6_later_45 : decode cX6_later 45 = .ok (.bipush (-99), 2) := by decide +kernel
theorem dX6_later_47 : decode cX6_later 47 = .ok (.goto 7, 3) := by decide +kernel
theorem dX6_later_50 : decode cX6_later 50 = .ok (.aload_n 3, 1) := by decide +kernel
theorem dX6_later_51 : decode cX6_later 51 = .ok (.getfield 200, 3) := by decide +kernel
theorem dX6_later_54 : decode cX6_later 54 = .ok (.ireturn, 1) := by decide +kernel
theorem dX6_begins_0 : decode cX6_begins 0 = .ok (.aload_n 0, 1) := by decide +kernel
theorem dX6_begins_1 : decode cX6_begins 1 = .ok (.iload_n 1, 1) := by decide +kernel
theorem dX6_begins_2 : decode cX6_begins 2 = .ok (.invokevirtual 112, 3) := by decide +kernel
theorem dX6_begins_5 : decode cX6_begins 5 = .ok (.astore_n 2, 1) := by decide +kernel
theorem dX6_begins_6 : decode cX6_begins 6 = .ok (.aload_n 0, 1) := by decide +kernel
theorem dX6_begins_7 : decode cX6_begins 7 = .ok (.getfield 45, 3) := by decide +kernel
theorem dX6_begins_10 : decode cX6_begins 10 = .ok (.aload_n 0, 1) := by decide +kernel
theorem dX6_begins_11 : decode cX6_begins 11 = .ok (.getfield 19, 3) := by decide +kernel
theorem dX6_begins_14 : decode cX6_begins 14 = .ok (.invokevirtual 76, 3) := by decide +kernel
theorem dX6_begins_17 : decode cX6_begins 17 = .ok (.aload_n 2, 1) := by decide +kernel
theorem dX6_begins_18 : decode cX6_begins 18 = .ok (.invokevirtual 203, 3) := by decide +kernel
theorem dX6_begins_21 : decode cX6_begins 21 = .ok (.aload_n 0, 1) := by decide +kernel
theorem dX6_begins_22 : decode cX6_begins 22 = .ok (.getfield 19, 3) := by decide +kernel
theorem dX6_begins_25 : decode cX6_begins 25 = .ok (.getfield 116, 3) := by decide +kernel
theorem dX6_begins_28 : decode cX6_begins 28 = .ok (.isub, 1) := by decide +kernel
theorem dX6_begins_29 : decode cX6_begins 29 = .ok (.istore_n 3, 1) := by decide +kernel
theorem dX6_begins_30 : decode cX6_begins 30 = .ok (.iconst 0, 1) := by decide +kernel
theorem dX6_begins_31 : decode cX6_begins 31 = .ok (.istore 4, 2) := by decide +kernel
theorem dX6_begins_33 : decode cX6_begins 33 = .ok (.iload 4, 2) := by decide +kernel
theorem dX6_begins_35 : decode cX6_begins 35 = .ok (.iload_n 3, 1) := by decide +kernel
theorem dX6_begins_36 : decode cX6_begins 36 = .ok (.if_icmp .ge 39, 3) := by decide +kernel
theorem dX6_begins_39 : decode cX6_begins 39 = .ok (.aload_n 0, 1) := by decide +kernel
theorem dX6_begins_40 : decode cX6_begins 40 = .ok (.getfield 45, 3) := by decide +kernel
theorem dX6_begins_43 : decode cX6_begins 43 = .ok (.aload_n 2, 1) := by decide +kernel
theorem dX6_begins_44 : decode cX6_begins 44 = .ok (.getfield 206, 3) := by decide +kernel
theorem dX6_begins_47 : decode cX6_begins 47 = .ok (.invokevirtual 100, 3) := by decide +kernel
theorem dX6_begins_50 : decode cX6_begins 50 = .ok (.iload_n 1, 1) := by decide +kernel
theorem dX6_begins_51 : decode cX6_begins 51 = .ok (.if_icmp .ne 11, 3) := by decide +kernel
theorem dX6_begins_54 : decode cX6_begins 54 = .ok (.aload_n 0, 1) := by decide +kernel
theorem dX6_begins_55 : decode cX6_begins 55 = .ok (.getfield 45, 3) := by decide +kernel
theorem dX6_begins_58 : decode cX6_begins 58 = .ok (.getfield 116, 3) := by decide +kernel
theorem dX6_begins_61 : decode cX6_begins 61 = .ok (.ireturn, 1) := by decide +kernel
theorem dX6_begins_62 : decode cX6_begins 62 = .ok (.aload_n 0, 1) := by decide +kernel
theorem dX6_begins_63 : decode cX6_begins 63 = .ok (.getfield 45, 3) := by decide +kernel
theorem dX6_begins_66 : decode cX6_begins 66 = .ok (.invokevirtual 209, 3) := by decide +kernel
theorem dX6_begins_69 : decode cX6_begins 69 = .ok (.iinc 4 1, 3) := by decide +kernel
theorem dX6_begins_72 : decode cX6_begins 72 = .ok (.goto (-39), 3) := by decide +kernel
theorem dX6_begins_75 : decode cX6_begins 75 = .ok (.bipush (-99), 2) := by decide +kernel
theorem dX6_begins_77 : decode cX6_begins 77 = .ok (.ireturn, 1) := by decide +kernel
theorem dX6_cost_0 : decode cX6_cost 0 = .ok (.aload_n 0, 1) := by decide +kernel
theorem dX6_cost_1 : decode cX6_cost 1 = .ok (.iload_n 1, 1) := by decide +kernel
theorem dX6_cost_2 : decode cX6_cost 2 = .ok (.iload_n 2, 1) := by decide +kernel
theorem dX6_cost_3 : decode cX6_cost 3 = .ok (.iload_n 3, 1) := by decide +kernel
theorem dX6_cost_4 : decode cX6_cost 4 = .ok (.iload 4, 2) := by decide +kernel
theorem dX6_cost_6 : decode cX6_cost 6 = .ok (.iload 5, 2) := by decide +kernel
theorem dX6_cost_8 : decode cX6_cost 8 = .ok (.invokevirtual 144, 3) := by decide +kernel
theorem dX6_cost_11 : decode cX6_cost 11 = .ok (.aload_n 0, 1) := by decide +kernel
theorem dX6_cost_12 : decode cX6_cost 12 = .ok (.getfield 19, 3) := by decide +kernel
theorem dX6_cost_15 : decode cX6_cost 15 = .ok (.iload_n 1, 1) := by decide +kernel
theorem dX6_cost_16 : decode cX6_cost 16 = .ok (.iload_n 3, 1) := by decide +kernel
theorem dX6_cost_17 : decode cX6_cost 17 = .ok (.iload 4, 2) := by decide +kernel
theorem dX6_cost_19 : decode cX6_cost 19 = .ok (.invokevirtual 148, 3) := by decide +kernel
theorem dX6_cost_22 : decode cX6_cost 22 = .ok (.ifCond .ne 6, 3) := by decide +kernel
theorem dX6_cost_25 : decode cX6_cost 25 = .ok (.bipush (-99), 2) := by decide +kernel
theorem dX6_cost_27 : decode cX6_cost 27 = .ok (.ireturn, 1) := by decide +kernel
theorem dX6_cost_28 : decode cX6_cost 28 = .ok (.iload_n 3, 1) := by decide +kernel
theorem dX6_cost_29 : decode cX6_cost 29 = .ok (.iload 4, 2) := by decide +kernel
theorem dX6_cost_31 : decode cX6_cost 31 = .ok (.iadd, 1) := by decide +kernel
theorem dX6_cost_32 : decode cX6_cost 32 = .ok (.aload_n 0, 1) := by decide +kernel
theorem dX6_cost_33 : decode cX6_cost 33 = .ok (.getfield 19, 3) := by decide +kernel
theorem dX6_cost_36 : decode cX6_cost 36 = .ok (.getfield 116, 3) := by decide +kernel
theorem dX6_cost_39 : decode cX6_cost 39 = .ok (.isub, 1) := by decide +kernel
theorem dX6_cost_40 : decode cX6_cost 40 = .ok (.istore 6, 2) := by decide +kernel
theorem dX6_cost_42 : decode cX6_cost 42 = .ok (.aload_n 0, 1) := by decide +kernel
theorem dX6_cost_43 : decode cX6_cost 43 = .ok (.getfield 45, 3) := by decide +kernel
theorem dX6_cost_46 : decode cX6_cost 46 = .ok (.aload_n 0, 1) := by decide +kernel
theorem dX6_cost_47 : decode cX6_cost 47 = .ok (.getfield 19, 3) := by decide +kernel
theorem dX6_cost_50 : decode cX6_cost 50 = .ok (.invokevirtual 76, 3) := by decide +kernel
theorem dX6_cost_53 : decode cX6_cost 53 = .ok (.aload_n 0, 1) := by decide +kernel
theorem dX6_cost_54 : decode cX6_cost 54 = .ok (.getfield 45, 3) := by decide +kernel
theorem dX6_cost_57 : decode cX6_cost 57 = .ok (.iload 6, 2) := by decide +kernel
theorem dX6_cost_59 : decode cX6_cost 59 = .ok (.invokevirtual 186, 3) := by decide +kernel
theorem dX6_cost_62 : decode cX6_cost 62 = .ok (.aload_n 0, 1) := by decide +kernel
theorem dX6_cost_63 : decode cX6_cost 63 = .ok (.getfield 48, 3) := by decide +kernel
theorem dX6_cost_66 : decode cX6_cost 66 = .ok (.aload_n 0, 1) := by decide +kernel
theorem dX6_cost_67 : decode cX6_cost 67 = .ok (.getfield 19, 3) := by decide +kernel
theorem dX6_cost_70 : decode cX6_cost 70 = .ok (.invokevirtual 76, 3) := by decide +kernel
theorem dX6_cost_73 : decode cX6_cost 73 = .ok (.aload_n 0, 1) := by decide +kernel
theorem dX6_cost_74 : decode cX6_cost 74 = .ok (.getfield 48, 3) := by decide +kernel
theorem dX6_cost_77 : decode cX6_cost 77 = .ok (.iload_n 1, 1) := by decide +kernel
theorem dX6_cost_78 : decode cX6_cost 78 = .ok (.iload_n 2, 1) := by decide +kernel
theorem dX6_cost_79 : decode cX6_cost 79 = .ok (.iload_n 3, 1) := by decide +kernel
theorem dX6_cost_80 : decode cX6_cost 80 = .ok (.iload 4, 2) := by decide +kernel
theorem dX6_cost_82 : decode cX6_cost 82 = .ok (.iload 5, 2) := by decide +kernel
theorem dX6_cost_84 : decode cX6_cost 84 = .ok (.invokevirtual 154, 3) := by decide +kernel
theorem dX6_cost_87 : decode cX6_cost 87 = .ok (.pop, 1) := by decide +kernel
theorem dX6_cost_88 : decode cX6_cost 88 = .ok (.aload_n 0, 1) := by decide +kernel
theorem dX6_cost_89 : decode cX6_cost 89 = .ok (.getfield 48, 3) := by decide +kernel
theorem dX6_cost_92 : decode cX6_cost 92 = .ok (.iload 6, 2) := by decide +kernel
theorem dX6_cost_94 : decode cX6_cost 94 = .ok (.invokevirtual 186, 3) := by decide +kernel
theorem dX6_cost_97 : decode cX6_cost 97 = .ok (.aload_n 0, 1) := by decide +kernel
theorem dX6_cost_98 : decode cX6_cost 98 = .ok (.getfield 48, 3) := by decide +kernel
theorem dX6_cost_101 : decode cX6_cost 101 = .ok (.getfield 183, 3) := by decide +kernel
theorem dX6_cost_104 : decode cX6_cost 104 = .ok (.aload_n 0, 1) := by decide +kernel
theorem dX6_cost_105 : decode cX6_cost 105 = .ok (.getfield 45, 3) := by decide +kernel
theorem dX6_cost_108 : decode cX6_cost 108 = .ok (.getfield 183, 3) := by decide +kernel
theorem dX6_cost_111 : decode cX6_cost 111 = .ok (.isub, 1) := by decide +kernel
theorem dX6_cost_112 : decode cX6_cost 112 = .ok (.ireturn, 1) := by decide +kernel
theorem dX6_willOwe_0 : decode cX6_willOwe 0 = .ok (.aload_n 0, 1) := by decide +kernel
theorem dX6_willOwe_1 : decode cX6_willOwe 1 = .ok (.iload_n 1, 1) := by decide +kernel
theorem dX6_willOwe_2 : decode cX6_willOwe 2 = .ok (.invokevirtual 106, 3) := by decide +kernel
theorem dX6_willOwe_5 : decode cX6_willOwe 5 = .ok (.aload_n 0, 1) := by decide +kernel
theorem dX6_willOwe_6 : decode cX6_willOwe 6 = .ok (.invokevirtual 212, 3) := by decide +kernel
theorem dX6_willOwe_9 : decode cX6_willOwe 9 = .ok (.aload_n 0, 1) := by decide +kernel
theorem dX6_willOwe_10 : decode cX6_willOwe 10 = .ok (.getfield 45, 3) := by decide +kernel
theorem dX6_willOwe_13 : decode cX6_willOwe 13 = .ok (.iload_n 1, 1) := by decide +kernel
theorem dX6_willOwe_14 : decode cX6_willOwe 14 = .ok (.invokevirtual 109, 3) := by decide +kernel
theorem dX6_willOwe_17 : decode cX6_willOwe 17 = .ok (.ireturn, 1) := by decide +kernel
theorem dX6_coldest_0 : decode cX6_coldest 0 = .ok (.aload_n 0, 1) := by decide +kernel
theorem dX6_coldest_1 : decode cX6_coldest 1 = .ok (.invokevirtual 212, 3) := by decide +kernel
theorem dX6_coldest_4 : decode cX6_coldest 4 = .ok (.aload_n 0, 1) := by decide +kernel
theorem dX6_coldest_5 : decode cX6_coldest 5 = .ok (.getfield 45, 3) := by decide +kernel
theorem dX6_coldest_8 : decode cX6_coldest 8 = .ok (.invokevirtual 215, 3) := by decide +kernel
theorem dX6_coldest_11 : decode cX6_coldest 11 = .ok (.ireturn, 1) := by decide +kernel
theorem dX6_passAllBookingsOnTrial_0 : decode cX6_passAllBookingsOnTrial 0 = .ok (.aload_n 0, 1) := by decide +kernel
theorem dX6_passAllBookingsOnTrial_1 : decode cX6_passAllBookingsOnTrial 1 = .ok (.getfield 45, 3) := by decide +kernel
theorem dX6_passAllBookingsOnTrial_4 : decode cX6_passAllBookingsOnTrial 4 = .ok (.aload_n 0, 1) := by decide +kernel
theorem dX6_passAllBookingsOnTrial_5 : decode cX6_passAllBookingsOnTrial 5 = .ok (.getfield 19, 3) := by decide +kernel
theorem dX6_passAllBookingsOnTrial_8 : decode cX6_passAllBookingsOnTrial 8 = .ok (.invokevirtual 76, 3) := by decide +kernel
theorem dX6_passAllBookingsOnTrial_11 : decode cX6_passAllBookingsOnTrial 11 = .ok (.aload_n 0, 1) := by decide +kernel
theorem dX6_passAllBookingsOnTrial_12 : decode cX6_passAllBookingsOnTrial 12 = .ok (.getfield 45, 3) := by decide +kernel
theorem dX6_passAllBookingsOnTrial_15 : decode cX6_passAllBookingsOnTrial 15 = .ok (.aload_n 0, 1) := by decide +kernel
theorem dX6_passAllBookingsOnTrial_16 : decode cX6_passAllBookingsOnTrial 16 = .ok (.getfield 19, 3) := by decide +kernel
theorem dX6_passAllBookingsOnTrial_19 : decode cX6_passAllBookingsOnTrial 19 = .ok (.invokevirtual 218, 3) := by decide +kernel
theorem dX6_passAllBookingsOnTrial_22 : decode cX6_passAllBookingsOnTrial 22 = .ok (.aload_n 0, 1) := by decide +kernel
theorem dX6_passAllBookingsOnTrial_23 : decode cX6_passAllBookingsOnTrial 23 = .ok (.getfield 19, 3) := by decide +kernel
theorem dX6_passAllBookingsOnTrial_26 : decode cX6_passAllBookingsOnTrial 26 = .ok (.getfield 116, 3) := by decide +kernel
theorem dX6_passAllBookingsOnTrial_29 : decode cX6_passAllBookingsOnTrial 29 = .ok (.isub, 1) := by decide +kernel
theorem dX6_passAllBookingsOnTrial_30 : decode cX6_passAllBookingsOnTrial 30 = .ok (.invokevirtual 186, 3) := by decide +kernel
theorem dX6_passAllBookingsOnTrial_33 : decode cX6_passAllBookingsOnTrial 33 = .ok (.return_, 1) := by decide +kernel
theorem dX6_runScript_0 : decode cX6_runScript 0 = .ok (.iload_n 1, 1) := by decide +kernel
theorem dX6_runScript_1 : decode cX6_runScript 1 = .ok (.iconst 1, 1) := by decide +kernel
theorem dX6_runScript_2 : decode cX6_runScript 2 = .ok (.iconst 3, 1) := by decide +kernel
theorem dX6_runScript_3 : decode cX6_runScript 3 = .ok (.invokestatic 51, 3) := by decide +kernel
theorem dX6_runScript_6 : decode cX6_runScript 6 = .ok (.lload_n 2, 1) := by decide +kernel
theorem dX6_runScript_7 : decode cX6_runScript 7 = .ok (.lconst 0, 1) := by decide +kernel
theorem dX6_runScript_8 : decode cX6_runScript 8 = .ok (.lcmp, 1) := by decide +kernel
theorem dX6_runScript_9 : decode cX6_runScript 9 = .ok (.ifCond .lt 13, 3) := by decide +kernel
theorem dX6_runScript_12 : decode cX6_runScript 12 = .ok (.lload_n 2, 1) := by decide +kernel
theorem dX6_runScript_13 : decode cX6_runScript 13 = .ok (.iload_n 1, 1) := by decide +kernel
theorem dX6_runScript_14 : decode cX6_runScript 14 = .ok (.invokestatic 221, 3) := by decide +kernel
theorem dX6_runScript_17 : decode cX6_runScript 17 = .ok (.lconst 0, 1) := by decide +kernel
theorem dX6_runScript_18 : decode cX6_runScript 18 = .ok (.lcmp, 1) := by decide +kernel
theorem dX6_runScript_19 : decode cX6_runScript 19 = .ok (.ifCond .eq 13, 3) := by decide +kernel
theorem dX6_runScript_22 : decode cX6_runScript 22 = .ok (.new 225, 3) := by decide +kernel
theorem dX6_runScript_25 : decode cX6_runScript 25 = .ok (.dup, 1) := by decide +kernel
theorem dX6_runScript_26 : decode cX6_runScript 26 = .ok (.ldc 227, 2) := by decide +kernel
theorem dX6_runScript_28 : decode cX6_runScript 28 = .ok (.invokespecial 229, 3) := by decide +kernel
theorem dX6_runScript_31 : decode cX6_runScript 31 = .ok (.athrow, 1) := by decide +kernel
theorem dX6_runScript_32 : decode cX6_runScript 32 = .ok (.aload_n 0, 1) := by decide +kernel
theorem dX6_runScript_33 : decode cX6_runScript 33 = .ok (.getfield 45, 3) := by decide +kernel
theorem dX6_runScript_36 : decode cX6_runScript 36 = .ok (.aload_n 0, 1) := by decide +kernel
theorem dX6_runScript_37 : decode cX6_runScript 37 = .ok (.getfield 19, 3) := by decide +kernel
theorem dX6_runScript_40 : decode cX6_runScript 40 = .ok (.invokevirtual 76, 3) := by decide +kernel
theorem dX6_runScript_43 : decode cX6_runScript 43 = .ok (.iconst 0, 1) := by decide +kernel
theorem dX6_runScript_44 : decode cX6_runScript 44 = .ok (.istore 4, 2) := by decide +kernel
theorem dX6_runScript_46 : decode cX6_runScript 46 = .ok (.iload 4, 2) := by decide +kernel
theorem dX6_runScript_48 : decode cX6_runScript 48 = .ok (.iload_n 1, 1) := by decide +kernel
theorem dX6_runScript_49 : decode cX6_runScript 49 = .ok (.if_icmp .ge 43, 3) := by decide +kernel
theorem dX6_runScript_52 : decode cX6_runScript 52 = .ok (.aload_n 0, 1) := by decide +kernel
theorem dX6_runScript_53 : decode cX6_runScript 53 = .ok (.getfield 41, 3) := by decide +kernel
theorem dX6_runScript_56 : decode cX6_runScript 56 = .ok (.lload_n 2, 1) := by decide +kernel
theorem dX6_runScript_57 : decode cX6_runScript 57 = .ok (.iload_n 1, 1) := by decide +kernel
theorem dX6_runScript_58 : decode cX6_runScript 58 = .ok (.iconst 1, 1) := by decide +kernel
theorem dX6_runScript_59 : decode cX6_runScript 59 = .ok (.isub, 1) := by decide +kernel
theorem dX6_runScript_60 : decode cX6_runScript 60 = .ok (.iload 4, 2) := by decide +kernel
theorem dX6_runScript_62 : decode cX6_runScript 62 = .ok (.isub, 1) := by decide +kernel
theorem dX6_runScript_63 : decode cX6_runScript 63 = .ok (.invokestatic 221, 3) := by decide +kernel
theorem dX6_runScript_66 : decode cX6_runScript 66 = .ok (.invokevirtual 230, 3) := by decide +kernel
theorem dX6_runScript_69 : decode cX6_runScript 69 = .ok (.aload_n 0, 1) := by decide +kernel
theorem dX6_runScript_70 : decode cX6_runScript 70 = .ok (.getfield 41, 3) := by decide +kernel
theorem dX6_runScript_73 : decode cX6_runScript 73 = .ok (.aload_n 0, 1) := by decide +kernel
theorem dX6_runScript_74 : decode cX6_runScript 74 = .ok (.getfield 45, 3) := by decide +kernel
theorem dX6_runScript_77 : decode cX6_runScript 77 = .ok (.invokevirtual 234, 3) := by decide +kernel
theorem dX6_runScript_80 : decode cX6_runScript 80 = .ok (.ifCond .ne 6, 3) := by decide +kernel
theorem dX6_runScript_83 : decode cX6_runScript 83 = .ok (.iload 4, 2) := by decide +kernel
theorem dX6_runScript_85 : decode cX6_runScript 85 = .ok (.ireturn, 1) := by decide +kernel
theorem dX6_runScript_86 : decode cX6_runScript 86 = .ok (.iinc 4 1, 3) := by decide +kernel
theorem dX6_runScript_89 : decode cX6_runScript 89 = .ok (.goto (-43), 3) := by decide +kernel
theorem dX6_runScript_92 : decode cX6_runScript 92 = .ok (.bipush (-99), 2) := by decide +kernel
theorem dX6_runScript_94 : decode cX6_runScript 94 = .ok (.ireturn, 1) := by decide +kernel
theorem dX6_simulate_0 : decode cX6_simulate 0 = .ok (.iload_n 3, 1) := by decide +kernel
theorem dX6_simulate_1 : decode cX6_simulate 1 = .ok (.iconst 1, 1) := by decide +kernel
theorem dX6_simulate_2 : decode cX6_simulate 2 = .ok (.bipush 99, 2) := by decide +kernel
theorem dX6_simulate_4 : decode cX6_simulate 4 = .ok (.invokestatic 51, 3) := by decide +kernel
theorem dX6_simulate_7 : decode cX6_simulate 7 = .ok (.aload_n 0, 1) := by decide +kernel
theorem dX6_simulate_8 : decode cX6_simulate 8 = .ok (.getfield 45, 3) := by decide +kernel
theorem dX6_simulate_11 : decode cX6_simulate 11 = .ok (.aload_n 0, 1) := by decide +kernel
theorem dX6_simulate_12 : decode cX6_simulate 12 = .ok (.getfield 19, 3) := by decide +kernel
theorem dX6_simulate_15 : decode cX6_simulate 15 = .ok (.invokevirtual 76, 3) := by decide +kernel
theorem dX6_simulate_18 : decode cX6_simulate 18 = .ok (.lload_n 1, 1) := by decide +kernel
theorem dX6_simulate_19 : decode cX6_simulate 19 = .ok (.lstore 4, 2) := by decide +kernel
theorem dX6_simulate_21 : decode cX6_simulate 21 = .ok (.iconst 0, 1) := by decide +kernel
theorem dX6_simulate_22 : decode cX6_simulate 22 = .ok (.istore 6, 2) := by decide +kernel
theorem dX6_simulate_24 : decode cX6_simulate 24 = .ok (.iload 6, 2) := by decide +kernel
theorem dX6_simulate_26 : decode cX6_simulate 26 = .ok (.iload_n 3, 1) := by decide +kernel
theorem dX6_simulate_27 : decode cX6_simulate 27 = .ok (.if_icmp .ge 82, 3) := by decide +kernel
theorem dX6_simulate_30 : decode cX6_simulate 30 = .ok (.aload_n 0, 1) := by decide +kernel
theorem dX6_simulate_31 : decode cX6_simulate 31 = .ok (.getfield 45, 3) := by decide +kernel
theorem dX6_simulate_34 : decode cX6_simulate 34 = .ok (.getfield 116, 3) := by decide +kernel
theorem dX6_simulate_37 : decode cX6_simulate 37 = .ok (.sipush 240, 3) := by decide +kernel
theorem dX6_simulate_40 : decode cX6_simulate 40 = .ok (.if_icmp .ge 69, 3) := by decide +kernel
theorem dX6_simulate_43 : decode cX6_simulate 43 = .ok (.lload 4, 2) := by decide +kernel
theorem dX6_simulate_45 : decode cX6_simulate 45 = .ok (.ldc2_w 238, 3) := by decide +kernel
theorem dX6_simulate_48 : decode cX6_simulate 48 = .ok (.lmul, 1) := by decide +kernel
theorem dX6_simulate_49 : decode cX6_simulate 49 = .ok (.ldc2_w 240, 3) := by decide +kernel
theorem dX6_simulate_52 : decode cX6_simulate 52 = .ok (.ladd, 1) := by decide +kernel
theorem dX6_simulate_53 : decode cX6_simulate 53 = .ok (.lstore 4, 2) := by decide +kernel
theorem dX6_simulate_55 : decode cX6_simulate 55 = .ok (.lload 4, 2) := by decide +kernel
theorem dX6_simulate_57 : decode cX6_simulate 57 = .ok (.bipush 33, 2) := by decide +kernel
theorem dX6_simulate_59 : decode cX6_simulate 59 = .ok (.lushr, 1) := by decide +kernel
theorem dX6_simulate_60 : decode cX6_simulate 60 = .ok (.l2i, 1) := by decide +kernel
theorem dX6_simulate_61 : decode cX6_simulate 61 = .ok (.istore 7, 2) := by decide +kernel
theorem dX6_simulate_63 : decode cX6_simulate 63 = .ok (.aload_n 0, 1) := by decide +kernel
theorem dX6_simulate_64 : decode cX6_simulate 64 = .ok (.getfield 45, 3) := by decide +kernel
theorem dX6_simulate_67 : decode cX6_simulate 67 = .ok (.iload 7, 2) := by decide +kernel
theorem dX6_simulate_69 : decode cX6_simulate 69 = .ok (.bipush 30, 2) := by decide +kernel
theorem dX6_simulate_71 : decode cX6_simulate 71 = .ok (.irem, 1) := by decide +kernel
theorem dX6_simulate_72 : decode cX6_simulate 72 = .ok (.bipush 10, 2) := by decide +kernel
theorem dX6_simulate_74 : decode cX6_simulate 74 = .ok (.isub, 1) := by decide +kernel
theorem dX6_simulate_75 : decode cX6_simulate 75 = .ok (.putfield 175, 3) := by decide +kernel
theorem dX6_simulate_78 : decode cX6_simulate 78 = .ok (.iload 7, 2) := by decide +kernel
theorem dX6_simulate_80 : decode cX6_simulate 80 = .ok (.bipush 64, 2) := by decide +kernel
theorem dX6_simulate_82 : decode cX6_simulate 82 = .ok (.idiv, 1) := by decide +kernel
theorem dX6_simulate_83 : decode cX6_simulate 83 = .ok (.bipush 8, 2) := by decide +kernel
theorem dX6_simulate_85 : decode cX6_simulate 85 = .ok (.irem, 1) := by decide +kernel
theorem dX6_simulate_86 : decode cX6_simulate 86 = .ok (.ifCond .ne 10, 3) := by decide +kernel
theorem dX6_simulate_89 : decode cX6_simulate 89 = .ok (.aload_n 0, 1) := by decide +kernel
theorem dX6_simulate_90 : decode cX6_simulate 90 = .ok (.getfield 45, 3) := by decide +kernel
theorem dX6_simulate_93 : decode cX6_simulate 93 = .ok (.invokevirtual 242, 3) := by decide +kernel
theorem dX6_simulate_96 : decode cX6_simulate 96 = .ok (.aload_n 0, 1) := by decide +kernel
theorem dX6_simulate_97 : decode cX6_simulate 97 = .ok (.getfield 45, 3) := by decide +kernel
theorem dX6_simulate_100 : decode cX6_simulate 100 = .ok (.invokevirtual 209, 3) := by decide +kernel
theorem dX6_simulate_103 : decode cX6_simulate 103 = .ok (.iinc 6 1, 3) := by decide +kernel
theorem dX6_simulate_106 : decode cX6_simulate 106 = .ok (.goto (-82), 3) := by decide +kernel
theorem dX6_simulate_109 : decode cX6_simulate 109 = .ok (.aload_n 0, 1) := by decide +kernel
theorem dX6_simulate_110 : decode cX6_simulate 110 = .ok (.getfield 45, 3) := by decide +kernel
theorem dX6_simulate_113 : decode cX6_simulate 113 = .ok (.getfield 245, 3) := by decide +kernel
theorem dX6_simulate_116 : decode cX6_simulate 116 = .ok (.aload_n 0, 1) := by decide +kernel
theorem dX6_simulate_117 : decode cX6_simulate 117 = .ok (.getfield 19, 3) := by decide +kernel
theorem dX6_simulate_120 : decode cX6_simulate 120 = .ok (.getfield 245, 3) := by decide +kernel
theorem dX6_simulate_123 : decode cX6_simulate 123 = .ok (.isub, 1) := by decide +kernel
theorem dX6_simulate_124 : decode cX6_simulate 124 = .ok (.sipush 9999, 3) := by decide +kernel
theorem dX6_simulate_127 : decode cX6_simulate 127 = .ok (.invokestatic 248, 3) := by decide +kernel
theorem dX6_simulate_130 : decode cX6_simulate 130 = .ok (.istore 6, 2) := by decide +kernel
theorem dX6_simulate_132 : decode cX6_simulate 132 = .ok (.sipush 1000, 3) := by decide +kernel
theorem dX6_simulate_135 : decode cX6_simulate 135 = .ok (.iload 6, 2) := by decide +kernel
theorem dX6_simulate_137 : decode cX6_simulate 137 = .ok (.imul, 1) := by decide +kernel
theorem dX6_simulate_138 : decode cX6_simulate 138 = .ok (.aload_n 0, 1) := by decide +kernel
theorem dX6_simulate_139 : decode cX6_simulate 139 = .ok (.getfield 45, 3) := by decide +kernel
theorem dX6_simulate_142 : decode cX6_simulate 142 = .ok (.getfield 254, 3) := by decide +kernel
theorem dX6_simulate_145 : decode cX6_simulate 145 = .ok (.aload_n 0, 1) := by decide +kernel
theorem dX6_simulate_146 : decode cX6_simulate 146 = .ok (.getfield 19, 3) := by decide +kernel
theorem dX6_simulate_149 : decode cX6_simulate 149 = .ok (.getfield 254, 3) := by decide +kernel
theorem dX6_simulate_152 : decode cX6_simulate 152 = .ok (.isub, 1) := by decide +kernel
theorem dX6_simulate_153 : decode cX6_simulate 153 = .ok (.iadd, 1) := by decide +kernel
theorem dX6_simulate_154 : decode cX6_simulate 154 = .ok (.ireturn, 1) := by decide +kernel
theorem dX6_save_0 : decode cX6_save 0 = .ok (.iload_n 1, 1) := by decide +kernel
theorem dX6_save_1 : decode cX6_save 1 = .ok (.invokestatic 257, 3) := by decide +kernel
theorem dX6_save_4 : decode cX6_save 4 = .ok (.aload_n 0, 1) := by decide +kernel
theorem dX6_save_5 : decode cX6_save 5 = .ok (.getfield 30, 3) := by decide +kernel
theorem dX6_save_8 : decode cX6_save 8 = .ok (.iload_n 1, 1) := by decide +kernel
theorem dX6_save_9 : decode cX6_save 9 = .ok (.aaload, 1) := by decide +kernel
theorem dX6_save_10 : decode cX6_save 10 = .ok (.aload_n 0, 1) := by decide +kernel
theorem dX6_save_11 : decode cX6_save 11 = .ok (.getfield 19, 3) := by decide +kernel
theorem dX6_save_14 : decode cX6_save 14 = .ok (.invokevirtual 76, 3) := by decide +kernel
theorem dX6_save_17 : decode cX6_save 17 = .ok (.aload_n 0, 1) := by decide +kernel
theorem dX6_save_18 : decode cX6_save 18 = .ok (.getfield 34, 3) := by decide +kernel
theorem dX6_save_21 : decode cX6_save 21 = .ok (.iload_n 1, 1) := by decide +kernel
theorem dX6_save_22 : decode cX6_save 22 = .ok (.iconst 1, 1) := by decide +kernel
theorem dX6_save_23 : decode cX6_save 23 = .ok (.bastore, 1) := by decide +kernel
theorem dX6_save_24 : decode cX6_save 24 = .ok (.aload_n 0, 1) := by decide +kernel
theorem dX6_save_25 : decode cX6_save 25 = .ok (.getfield 19, 3) := by decide +kernel
theorem dX6_save_28 : decode cX6_save 28 = .ok (.getfield 116, 3) := by decide +kernel
theorem dX6_save_31 : decode cX6_save 31 = .ok (.ireturn, 1) := by decide +kernel
theorem dX6_restore_0 : decode cX6_restore 0 = .ok (.iload_n 1, 1) := by decide +kernel
theorem dX6_restore_1 : decode cX6_restore 1 = .ok (.invokestatic 257, 3) := by decide +kernel
theorem dX6_restore_4 : decode cX6_restore 4 = .ok (.aload_n 0, 1) := by decide +kernel
theorem dX6_restore_5 : decode cX6_restore 5 = .ok (.getfield 34, 3) := by decide +kernel
theorem dX6_restore_8 : decode cX6_restore 8 = .ok (.iload_n 1, 1) := by decide +kernel
theorem dX6_restore_9 : decode cX6_restore 9 = .ok (.baload, 1) := by decide +kernel
theorem dX6_restore_10 : decode cX6_restore 10 = .ok (.ifCond .ne 14, 3) := by decide +kernel
theorem dX6_restore_13 : decode cX6_restore 13 = .ok (.new 59, 3) := by decide +kernel
theorem dX6_restore_16 : decode cX6_restore 16 = .ok (.dup, 1) := by decide +kernel
theorem dX6_restore_17 : decode cX6_restore 17 = .ok (.ldc_w 260, 3) := by decide +kernel
theorem dX6_restore_20 : decode cX6_restore 20 = .ok (.invokespecial 63, 3) := by decide +kernel
theorem dX6_restore_23 : decode cX6_restore 23 = .ok (.athrow, 1) := by decide +kernel
theorem dX6_restore_24 : decode cX6_restore 24 = .ok (.aload_n 0, 1) := by decide +kernel
theorem dX6_restore_25 : decode cX6_restore 25 = .ok (.getfield 19, 3) := by decide +kernel
theorem dX6_restore_28 : decode cX6_restore 28 = .ok (.aload_n 0, 1) := by decide +kernel
theorem dX6_restore_29 : decode cX6_restore 29 = .ok (.getfield 30, 3) := by decide +kernel
theorem dX6_restore_32 : decode cX6_restore 32 = .ok (.iload_n 1, 1) := by decide +kernel
theorem dX6_restore_33 : decode cX6_restore 33 = .ok (.aaload, 1) := by decide +kernel
theorem dX6_restore_34 : decode cX6_restore 34 = .ok (.invokevirtual 76, 3) := by decide +kernel
theorem dX6_restore_37 : decode cX6_restore 37 = .ok (.aload_n 0, 1) := by decide +kernel
theorem dX6_restore_38 : decode cX6_restore 38 = .ok (.getfield 26, 3) := by decide +kernel
theorem dX6_restore_41 : decode cX6_restore 41 = .ok (.invokevirtual 80, 3) := by decide +kernel
theorem dX6_restore_44 : decode cX6_restore 44 = .ok (.aload_n 0, 1) := by decide +kernel
theorem dX6_restore_45 : decode cX6_restore 45 = .ok (.getfield 19, 3) := by decide +kernel
theorem dX6_restore_48 : decode cX6_restore 48 = .ok (.getfield 116, 3) := by decide +kernel
theorem dX6_restore_51 : decode cX6_restore 51 = .ok (.ireturn, 1) := by decide +kernel
theorem dX6_requireRange_0 : decode cX6_requireRange 0 = .ok (.iload_n 0, 1) := by decide +kernel
theorem dX6_requireRange_1 : decode cX6_requireRange 1 = .ok (.iload_n 1, 1) := by decide +kernel
theorem dX6_requireRange_2 : decode cX6_requireRange 2 = .ok (.if_icmp .lt 8, 3) := by decide +kernel
theorem dX6_requireRange_5 : decode cX6_requireRange 5 = .ok (.iload_n 0, 1) := by decide +kernel
theorem dX6_requireRange_6 : decode cX6_requireRange 6 = .ok (.iload_n 2, 1) := by decide +kernel
theorem dX6_requireRange_7 : decode cX6_requireRange 7 = .ok (.if_icmp .le 14, 3) := by decide +kernel
theorem dX6_requireRange_10 : decode cX6_requireRange 10 = .ok (.new 225, 3) := by decide +kernel
theorem dX6_requireRange_13 : decode cX6_requireRange 13 = .ok (.dup, 1) := by decide +kernel
theorem dX6_requireRange_14 : decode cX6_requireRange 14 = .ok (.ldc_w 262, 3) := by decide +kernel
theorem dX6_requireRange_17 : decode cX6_requireRange 17 = .ok (.invokespecial 229, 3) := by decide +kernel
theorem dX6_requireRange_20 : decode cX6_requireRange 20 = .ok (.athrow, 1) := by decide +kernel
theorem dX6_requireRange_21 : decode cX6_requireRange 21 = .ok (.return_, 1) := by decide +kernel
theorem dX6_requireRoom_0 : decode cX6_requireRoom 0 = .ok (.aload_n 0, 1) := by decide +kernel
theorem dX6_requireRoom_1 : decode cX6_requireRoom 1 = .ok (.getfield 19, 3) := by decide +kernel
theorem dX6_requireRoom_4 : decode cX6_requireRoom 4 = .ok (.iload_n 1, 1) := by decide +kernel
theorem dX6_requireRoom_5 : decode cX6_requireRoom 5 = .ok (.invokevirtual 197, 3) := by decide +kernel
theorem dX6_requireRoom_8 : decode cX6_requireRoom 8 = .ok (.astore_n 2, 1) := by decide +kernel
theorem dX6_requireRoom_9 : decode cX6_requireRoom 9 = .ok (.aload_n 2, 1) := by decide +kernel
theorem dX6_requireRoom_10 : decode cX6_requireRoom 10 = .ok (.ifnonnull 14, 3) := by decide +kernel
theorem dX6_requireRoom_13 : decode cX6_requireRoom 13 = .ok (.new 264, 3) := by decide +kernel
theorem dX6_requireRoom_16 : decode cX6_requireRoom 16 = .ok (.dup, 1) := by decide +kernel
theorem dX6_requireRoom_17 : decode cX6_requireRoom 17 = .ok (.ldc_w 266, 3) := by decide +kernel
theorem dX6_requireRoom_20 : decode cX6_requireRoom 20 = .ok (.invokespecial 268, 3) := by decide +kernel
theorem dX6_requireRoom_23 : decode cX6_requireRoom 23 = .ok (.athrow, 1) := by decide +kernel
theorem dX6_requireRoom_24 : decode cX6_requireRoom 24 = .ok (.aload_n 2, 1) := by decide +kernel
theorem dX6_requireRoom_25 : decode cX6_requireRoom 25 = .ok (.areturn, 1) := by decide +kernel
theorem dX6_requireGroup_0 : decode cX6_requireGroup 0 = .ok (.aload_n 0, 1) := by decide +kernel
theorem dX6_requireGroup_1 : decode cX6_requireGroup 1 = .ok (.getfield 19, 3) := by decide +kernel
theorem dX6_requireGroup_4 : decode cX6_requireGroup 4 = .ok (.iload_n 1, 1) := by decide +kernel
theorem dX6_requireGroup_5 : decode cX6_requireGroup 5 = .ok (.invokevirtual 269, 3) := by decide +kernel
theorem dX6_requireGroup_8 : decode cX6_requireGroup 8 = .ok (.ifCond .ne 14, 3) := by decide +kernel
theorem dX6_requireGroup_11 : decode cX6_requireGroup 11 = .ok (.new 264, 3) := by decide +kernel
theorem dX6_requireGroup_14 : decode cX6_requireGroup 14 = .ok (.dup, 1) := by decide +kernel
theorem dX6_requireGroup_15 : decode cX6_requireGroup 15 = .ok (.ldc_w 272, 3) := by decide +kernel
theorem dX6_requireGroup_18 : decode cX6_requireGroup 18 = .ok (.invokespecial 268, 3) := by decide +kernel
theorem dX6_requireGroup_21 : decode cX6_requireGroup 21 = .ok (.athrow, 1) := by decide +kernel
theorem dX6_requireGroup_22 : decode cX6_requireGroup 22 = .ok (.return_, 1) := by decide +kernel
theorem dX6_requireBooking_0 : decode cX6_requireBooking 0 = .ok (.aload_n 0, 1) := by decide +kernel
theorem dX6_requireBooking_1 : decode cX6_requireBooking 1 = .ok (.getfield 19, 3) := by decide +kernel
theorem dX6_requireBooking_4 : decode cX6_requireBooking 4 = .ok (.iload_n 1, 1) := by decide +kernel
theorem dX6_requireBooking_5 : decode cX6_requireBooking 5 = .ok (.invokevirtual 274, 3) := by decide +kernel
theorem dX6_requireBooking_8 : decode cX6_requireBooking 8 = .ok (.astore_n 2, 1) := by decide +kernel
theorem dX6_requireBooking_9 : decode cX6_requireBooking 9 = .ok (.aload_n 2, 1) := by decide +kernel
theorem dX6_requireBooking_10 : decode cX6_requireBooking 10 = .ok (.ifnonnull 14, 3) := by decide +kernel
theorem dX6_requireBooking_13 : decode cX6_requireBooking 13 = .ok (.new 264, 3) := by decide +kernel
theorem dX6_requireBooking_16 : decode cX6_requireBooking 16 = .ok (.dup, 1) := by decide +kernel
theorem dX6_requireBooking_17 : decode cX6_requireBooking 17 = .ok (.ldc_w 277, 3) := by decide +kernel
theorem dX6_requireBooking_20 : decode cX6_requireBooking 20 = .ok (.invokespecial 268, 3) := by decide +kernel
theorem dX6_requireBooking_23 : decode cX6_requireBooking 23 = .ok (.athrow, 1) := by decide +kernel
theorem dX6_requireBooking_24 : decode cX6_requireBooking 24 = .ok (.aload_n 2, 1) := by decide +kernel
theorem dX6_requireBooking_25 : decode cX6_requireBooking 25 = .ok (.areturn, 1) := by decide +kernel
theorem dX6_requireSlot_0 : decode cX6_requireSlot 0 = .ok (.iload_n 0, 1) := by decide +kernel
theorem dX6_requireSlot_1 : decode cX6_requireSlot 1 = .ok (.ifCond .lt 8, 3) := by decide +kernel
theorem dX6_requireSlot_4 : decode cX6_requireSlot 4 = .ok (.iload_n 0, 1) := by decide +kernel
theorem dX6_requireSlot_5 : decode cX6_requireSlot 5 = .ok (.iconst 2, 1) := by decide +kernel
theorem dX6_requireSlot_6 : decode cX6_requireSlot 6 = .ok (.if_icmp .lt 14, 3) := by decide +kernel
theorem dX6_requireSlot_9 : decode cX6_requireSlot 9 = .ok (.new 264, 3) := by decide +kernel
theorem dX6_requireSlot_12 : decode cX6_requireSlot 12 = .ok (.dup, 1) := by decide +kernel
theorem dX6_requireSlot_13 : decode cX6_requireSlot 13 = .ok (.ldc_w 279, 3) := by decide +kernel
theorem dX6_requireSlot_16 : decode cX6_requireSlot 16 = .ok (.invokespecial 268, 3) := by decide +kernel
theorem dX6_requireSlot_19 : decode cX6_requireSlot 19 = .ok (.athrow, 1) := by decide +kernel
theorem dX6_requireSlot_20 : decode cX6_requireSlot 20 = .ok (.return_, 1) := by decide +kernel
theorem dX6_requireBookingArguments_0 : decode cX6_requireBookingArguments 0 = .ok (.aload_n 0, 1) := by decide +kernel
theorem dX6_requireBookingArguments_1 : decode cX6_requireBookingArguments 1 = .ok (.iload_n 1, 1) := by decide +kernel
theorem dX6_requireBookingArguments_2 : decode cX6_requireBookingArguments 2 = .ok (.invokevirtual 90, 3) := by decide +kernel
theorem dX6_requireBookingArguments_5 : decode cX6_requireBookingArguments 5 = .ok (.pop, 1) := by decide +kernel
theorem dX6_requireBookingArguments_6 : decode cX6_requireBookingArguments 6 = .ok (.aload_n 0, 1) := by decide +kernel
theorem dX6_requireBookingArguments_7 : decode cX6_requireBookingArguments 7 = .ok (.iload_n 2, 1) := by decide +kernel
theorem dX6_requireBookingArguments_8 : decode cX6_requireBookingArguments 8 = .ok (.invokevirtual 106, 3) := by decide +kernel
theorem dX6_requireBookingArguments_11 : decode cX6_requireBookingArguments 11 = .ok (.iload_n 3, 1) := by decide +kernel
theorem dX6_requireBookingArguments_12 : decode cX6_requireBookingArguments 12 = .ok (.aload_n 0, 1) := by decide +kernel
theorem dX6_requireBookingArguments_13 : decode cX6_requireBookingArguments 13 = .ok (.getfield 19, 3) := by decide +kernel
theorem dX6_requireBookingArguments_16 : decode cX6_requireBookingArguments 16 = .ok (.getfield 116, 3) := by decide +kernel
theorem dX6_requireBookingArguments_19 : decode cX6_requireBookingArguments 19 = .ok (.sipush 199, 3) := by decide +kernel
theorem dX6_requireBookingArguments_22 : decode cX6_requireBookingArguments 22 = .ok (.invokestatic 51, 3) := by decide +kernel
theorem dX6_requireBookingArguments_25 : decode cX6_requireBookingArguments 25 = .ok (.iload 4, 2) := by decide +kernel
theorem dX6_requireBookingArguments_27 : decode cX6_requireBookingArguments 27 = .ok (.iconst 1, 1) := by decide +kernel
theorem dX6_requireBookingArguments_28 : decode cX6_requireBookingArguments 28 = .ok (.bipush 12, 2) := by decide +kernel
theorem dX6_requireBookingArguments_30 : decode cX6_requireBookingArguments 30 = .ok (.invokestatic 51, 3) := by decide +kernel
theorem dX6_requireBookingArguments_33 : decode cX6_requireBookingArguments 33 = .ok (.iload 5, 2) := by decide +kernel
theorem dX6_requireBookingArguments_35 : decode cX6_requireBookingArguments 35 = .ok (.bipush 12, 2) := by decide +kernel
theorem dX6_requireBookingArguments_37 : decode cX6_requireBookingArguments 37 = .ok (.bipush 25, 2) := by decide +kernel
theorem dX6_requireBookingArguments_39 : decode cX6_requireBookingArguments 39 = .ok (.invokestatic 51, 3) := by decide +kernel
theorem dX6_requireBookingArguments_42 : decode cX6_requireBookingArguments 42 = .ok (.return_, 1) := by decide +kernel
theorem dL_draw_0 : decode cL_draw 0 = .ok (.iload_n 1, 1) := by decide +kernel
theorem dL_draw_1 : decode cL_draw 1 = .ok (.aload_n 0, 1) := by decide +kernel
theorem dL_draw_2 : decode cL_draw 2 = .ok (.arraylength, 1) := by decide +kernel
theorem dL_draw_3 : decode cL_draw 3 = .ok (.if_icmp .ge 9, 3) := by decide +kernel
theorem dL_draw_6 : decode cL_draw 6 = .ok (.aload_n 0, 1) := by decide +kernel
theorem dL_draw_7 : decode cL_draw 7 = .ok (.iload_n 1, 1) := by decide +kernel
theorem dL_draw_8 : decode cL_draw 8 = .ok (.iaload, 1) := by decide +kernel
theorem dL_draw_9 : decode cL_draw 9 = .ok (.goto 11, 3) := by decide +kernel
theorem dL_draw_12 : decode cL_draw 12 = .ok (.ldc 7, 2) := by decide +kernel
theorem dL_draw_14 : decode cL_draw 14 = .ok (.iload_n 1, 1) := by decide +kernel
theorem dL_draw_15 : decode cL_draw 15 = .ok (.imul, 1) := by decide +kernel
theorem dL_draw_16 : decode cL_draw 16 = .ok (.sipush 10439, 3) := by decide +kernel
theorem dL_draw_19 : decode cL_draw 19 = .ok (.iadd, 1) := by decide +kernel
theorem dL_draw_20 : decode cL_draw 20 = .ok (.ldc 8, 2) := by decide +kernel
theorem dL_draw_22 : decode cL_draw 22 = .ok (.iand, 1) := by decide +kernel
theorem dL_draw_23 : decode cL_draw 23 = .ok (.ireturn, 1) := by decide +kernel
theorem dL_in_0 : decode cL_in 0 = .ok (.lload_n 0, 1) := by decide +kernel
theorem dL_in_1 : decode cL_in 1 = .ok (.lload_n 2, 1) := by decide +kernel
theorem dL_in_2 : decode cL_in 2 = .ok (.lcmp, 1) := by decide +kernel
theorem dL_in_3 : decode cL_in 3 = .ok (.ifCond .lt 14, 3) := by decide +kernel
theorem dL_in_6 : decode cL_in 6 = .ok (.lload_n 0, 1) := by decide +kernel
theorem dL_in_7 : decode cL_in 7 = .ok (.lload 4, 2) := by decide +kernel
theorem dL_in_9 : decode cL_in 9 = .ok (.lcmp, 1) := by decide +kernel
theorem dL_in_10 : decode cL_in 10 = .ok (.ifCond .gt 7, 3) := by decide +kernel
theorem dL_in_13 : decode cL_in 13 = .ok (.iconst 1, 1) := by decide +kernel
theorem dL_in_14 : decode cL_in 14 = .ok (.goto 4, 3) := by decide +kernel
theorem dL_in_17 : decode cL_in 17 = .ok (.iconst 0, 1) := by decide +kernel
theorem dL_in_18 : decode cL_in 18 = .ok (.ireturn, 1) := by decide +kernel
theorem dL_append_0 : decode cL_append 0 = .ok (.aload_n 0, 1) := by decide +kernel
theorem dL_append_1 : decode cL_append 1 = .ok (.iload_n 1, 1) := by decide +kernel
theorem dL_append_2 : decode cL_append 2 = .ok (.invokevirtual 9, 3) := by decide +kernel
theorem dL_append_5 : decode cL_append 5 = .ok (.i2l, 1) := by decide +kernel
theorem dL_append_6 : decode cL_append 6 = .ok (.lreturn, 1) := by decide +kernel
theorem dL_append_7 : decode cL_append 7 = .ok (.astore_n 2, 1) := by decide +kernel
theorem dL_append_8 : decode cL_append 8 = .ok (.ldc2_w 17, 3) := by decide +kernel
theorem dL_append_11 : decode cL_append 11 = .ok (.lreturn, 1) := by decide +kernel
theorem dL_append_12 : decode cL_append 12 = .ok (.astore_n 2, 1) := by decide +kernel
theorem dL_append_13 : decode cL_append 13 = .ok (.ldc2_w 21, 3) := by decide +kernel
theorem dL_append_16 : decode cL_append 16 = .ok (.lreturn, 1) := by decide +kernel
theorem dL_load_0 : decode cL_load 0 = .ok (.aload_n 0, 1) := by decide +kernel
theorem dL_load_1 : decode cL_load 1 = .ok (.invokevirtual 23, 3) := by decide +kernel
theorem dL_load_4 : decode cL_load 4 = .ok (.i2l, 1) := by decide +kernel
theorem dL_load_5 : decode cL_load 5 = .ok (.lreturn, 1) := by decide +kernel
theorem dL_load_6 : decode cL_load 6 = .ok (.astore_n 1, 1) := by decide +kernel
theorem dL_load_7 : decode cL_load 7 = .ok (.ldc2_w 21, 3) := by decide +kernel
theorem dL_load_10 : decode cL_load 10 = .ok (.lreturn, 1) := by decide +kernel
theorem dL_about_0 : decode cL_about 0 = .ok (.aload_n 0, 1) := by decide +kernel
theorem dL_about_1 : decode cL_about 1 = .ok (.iload_n 1, 1) := by decide +kernel
theorem dL_about_2 : decode cL_about 2 = .ok (.invokevirtual 27, 3) := by decide +kernel
theorem dL_about_5 : decode cL_about 5 = .ok (.i2l, 1) := by decide +kernel
theorem dL_about_6 : decode cL_about 6 = .ok (.lreturn, 1) := by decide +kernel
theorem dL_about_7 : decode cL_about 7 = .ok (.astore_n 2, 1) := by decide +kernel
theorem dL_about_8 : decode cL_about 8 = .ok (.ldc2_w 17, 3) := by decide +kernel
theorem dL_about_11 : decode cL_about 11 = .ok (.lreturn, 1) := by decide +kernel
theorem dL_room_0 : decode cL_room 0 = .ok (.aload_n 0, 1) := by decide +kernel
theorem dL_room_1 : decode cL_room 1 = .ok (.iload_n 1, 1) := by decide +kernel
theorem dL_room_2 : decode cL_room 2 = .ok (.iload_n 2, 1) := by decide +kernel
theorem dL_room_3 : decode cL_room 3 = .ok (.invokevirtual 30, 3) := by decide +kernel
theorem dL_room_6 : decode cL_room 6 = .ok (.i2l, 1) := by decide +kernel
theorem dL_room_7 : decode cL_room 7 = .ok (.lreturn, 1) := by decide +kernel
theorem dL_room_8 : decode cL_room 8 = .ok (.astore_n 3, 1) := by decide +kernel
theorem dL_room_9 : decode cL_room 9 = .ok (.ldc2_w 36, 3) := by decide +kernel
theorem dL_room_12 : decode cL_room 12 = .ok (.lreturn, 1) := by decide +kernel
theorem dL_room_13 : decode cL_room 13 = .ok (.astore_n 3, 1) := by decide +kernel
theorem dL_room_14 : decode cL_room 14 = .ok (.ldc2_w 17, 3) := by decide +kernel
theorem dL_room_17 : decode cL_room 17 = .ok (.lreturn, 1) := by decide +kernel
theorem dL_owes_0 : decode cL_owes 0 = .ok (.aload_n 0, 1) := by decide +kernel
theorem dL_owes_1 : decode cL_owes 1 = .ok (.iload_n 1, 1) := by decide +kernel
theorem dL_owes_2 : decode cL_owes 2 = .ok (.invokevirtual 38, 3) := by decide +kernel
theorem dL_owes_5 : decode cL_owes 5 = .ok (.i2l, 1) := by decide +kernel
theorem dL_owes_6 : decode cL_owes 6 = .ok (.lreturn, 1) := by decide +kernel
theorem dL_owes_7 : decode cL_owes 7 = .ok (.astore_n 2, 1) := by decide +kernel
theorem dL_owes_8 : decode cL_owes 8 = .ok (.ldc2_w 36, 3) := by decide +kernel
theorem dL_owes_11 : decode cL_owes 11 = .ok (.lreturn, 1) := by decide +kernel
theorem dL_booking_0 : decode cL_booking 0 = .ok (.aload_n 0, 1) := by decide +kernel
theorem dL_booking_1 : decode cL_booking 1 = .ok (.iload_n 1, 1) := by decide +kernel
theorem dL_booking_2 : decode cL_booking 2 = .ok (.iload_n 2, 1) := by decide +kernel
theorem dL_booking_3 : decode cL_booking 3 = .ok (.invokevirtual 41, 3) := by decide +kernel
theorem dL_booking_6 : decode cL_booking 6 = .ok (.i2l, 1) := by decide +kernel
theorem dL_booking_7 : decode cL_booking 7 = .ok (.lreturn, 1) := by decide +kernel
theorem dL_booking_8 : decode cL_booking 8 = .ok (.astore_n 3, 1) := by decide +kernel
theorem dL_booking_9 : decode cL_booking 9 = .ok (.ldc2_w 36, 3) := by decide +kernel
theorem dL_booking_12 : decode cL_booking 12 = .ok (.lreturn, 1) := by decide +kernel
theorem dL_booking_13 : decode cL_booking 13 = .ok (.astore_n 3, 1) := by decide +kernel
theorem dL_booking_14 : decode cL_booking 14 = .ok (.ldc2_w 17, 3) := by decide +kernel
theorem dL_booking_17 : decode cL_booking 17 = .ok (.lreturn, 1) := by decide +kernel
theorem dL_addRoom_0 : decode cL_addRoom 0 = .ok (.aload_n 0, 1) := by decide +kernel
theorem dL_addRoom_1 : decode cL_addRoom 1 = .ok (.iload_n 1, 1) := by decide +kernel
theorem dL_addRoom_2 : decode cL_addRoom 2 = .ok (.iload_n 2, 1) := by decide +kernel
theorem dL_addRoom_3 : decode cL_addRoom 3 = .ok (.iload_n 3, 1) := by decide +kernel
theorem dL_addRoom_4 : decode cL_addRoom 4 = .ok (.iload 4, 2) := by decide +kernel
theorem dL_addRoom_6 : decode cL_addRoom 6 = .ok (.invokevirtual 44, 3) := by decide +kernel
theorem dL_addRoom_9 : decode cL_addRoom 9 = .ok (.i2l, 1) := by decide +kernel
theorem dL_addRoom_10 : decode cL_addRoom 10 = .ok (.lreturn, 1) := by decide +kernel
theorem dL_addRoom_11 : decode cL_addRoom 11 = .ok (.astore 5, 2) := by decide +kernel
theorem dL_addRoom_13 : decode cL_addRoom 13 = .ok (.ldc2_w 17, 3) := by decide +kernel
theorem dL_addRoom_16 : decode cL_addRoom 16 = .ok (.lreturn, 1) := by decide +kernel
theorem dL_addRoom_17 : decode cL_addRoom 17 = .ok (.astore 5, 2) := by decide +kernel
theorem dL_addRoom_19 : decode cL_addRoom 19 = .ok (.ldc2_w 21, 3) := by decide +kernel
theorem dL_addRoom_22 : decode cL_addRoom 22 = .ok (.lreturn, 1) := by decide +kernel
theorem dL_addGroup_0 : decode cL_addGroup 0 = .ok (.aload_n 0, 1) := by decide +kernel
theorem dL_addGroup_1 : decode cL_addGroup 1 = .ok (.invokevirtual 48, 3) := by decide +kernel
theorem dL_addGroup_4 : decode cL_addGroup 4 = .ok (.i2l, 1) := by decide +kernel
theorem dL_addGroup_5 : decode cL_addGroup 5 = .ok (.lreturn, 1) := by decide +kernel
theorem dL_addGroup_6 : decode cL_addGroup 6 = .ok (.astore_n 1, 1) := by decide +kernel
theorem dL_addGroup_7 : decode cL_addGroup 7 = .ok (.ldc2_w 21, 3) := by decide +kernel
theorem dL_addGroup_10 : decode cL_addGroup 10 = .ok (.lreturn, 1) := by decide +kernel
theorem dL_book_0 : decode cL_book 0 = .ok (.aload_n 0, 1) := by decide +kernel
theorem dL_book_1 : decode cL_book 1 = .ok (.iload_n 1, 1) := by decide +kernel
theorem dL_book_2 : decode cL_book 2 = .ok (.iload_n 2, 1) := by decide +kernel
theorem dL_book_3 : decode cL_book 3 = .ok (.iload_n 3, 1) := by decide +kernel
theorem dL_book_4 : decode cL_book 4 = .ok (.iload 4, 2) := by decide +kernel
theorem dL_book_6 : decode cL_book 6 = .ok (.iload 5, 2) := by decide +kernel
theorem dL_book_8 : decode cL_book 8 = .ok (.invokevirtual 51, 3) := by decide +kernel
theorem dL_book_11 : decode cL_book 11 = .ok (.i2l, 1) := by decide +kernel
theorem dL_book_12 : decode cL_book 12 = .ok (.lreturn, 1) := by decide +kernel
theorem dL_book_13 : decode cL_book 13 = .ok (.astore 6, 2) := by decide +kernel
theorem dL_book_15 : decode cL_book 15 = .ok (.ldc2_w 36, 3) := by decide +kernel
theorem dL_book_18 : decode cL_book 18 = .ok (.lreturn, 1) := by decide +kernel
theorem dL_book_19 : decode cL_book 19 = .ok (.astore 6, 2) := by decide +kernel
theorem dL_book_21 : decode cL_book 21 = .ok (.ldc2_w 17, 3) := by decide +kernel
theorem dL_book_24 : decode cL_book 24 = .ok (.lreturn, 1) := by decide +kernel
theorem dL_book_25 : decode cL_book 25 = .ok (.astore 6, 2) := by decide +kernel
theorem dL_book_27 : decode cL_book 27 = .ok (.ldc2_w 21, 3) := by decide +kernel
theorem dL_book_30 : decode cL_book 30 = .ok (.lreturn, 1) := by decide +kernel
theorem dL_cancel_0 : decode cL_cancel 0 = .ok (.aload_n 0, 1) := by decide +kernel
theorem dL_cancel_1 : decode cL_cancel 1 = .ok (.iload_n 1, 1) := by decide +kernel
theorem dL_cancel_2 : decode cL_cancel 2 = .ok (.invokevirtual 55, 3) := by decide +kernel
theorem dL_cancel_5 : decode cL_cancel 5 = .ok (.i2l, 1) := by decide +kernel
theorem dL_cancel_6 : decode cL_cancel 6 = .ok (.lreturn, 1) := by decide +kernel
theorem dL_cancel_7 : decode cL_cancel 7 = .ok (.astore_n 2, 1) := by decide +kernel
theorem dL_cancel_8 : decode cL_cancel 8 = .ok (.ldc2_w 36, 3) := by decide +kernel
theorem dL_cancel_11 : decode cL_cancel 11 = .ok (.lreturn, 1) := by decide +kernel
theorem dL_cancel_12 : decode cL_cancel 12 = .ok (.astore_n 2, 1) := by decide +kernel
theorem dL_cancel_13 : decode cL_cancel 13 = .ok (.ldc2_w 21, 3) := by decide +kernel
theorem dL_cancel_16 : decode cL_cancel 16 = .ok (.lreturn, 1) := by decide +kernel
theorem dL_prove_0 : decode cL_prove 0 = .ok (.aload_n 0, 1) := by decide +kernel
theorem dL_prove_1 : decode cL_prove 1 = .ok (.iload_n 1, 1) := by decide +kernel
theorem dL_prove_2 : decode cL_prove 2 = .ok (.iload_n 2, 1) := by decide +kernel
theorem dL_prove_3 : decode cL_prove 3 = .ok (.invokevirtual 58, 3) := by decide +kernel
theorem dL_prove_6 : decode cL_prove 6 = .ok (.i2l, 1) := by decide +kernel
theorem dL_prove_7 : decode cL_prove 7 = .ok (.lreturn, 1) := by decide +kernel
theorem dL_prove_8 : decode cL_prove 8 = .ok (.astore_n 3, 1) := by decide +kernel
theorem dL_prove_9 : decode cL_prove 9 = .ok (.ldc2_w 36, 3) := by decide +kernel
theorem dL_prove_12 : decode cL_prove 12 = .ok (.lreturn, 1) := by decide +kernel
theorem dL_prove_13 : decode cL_prove 13 = .ok (.astore_n 3, 1) := by decide +kernel
theorem dL_prove_14 : decode cL_prove 14 = .ok (.ldc2_w 21, 3) := by decide +kernel
theorem dL_prove_17 : decode cL_prove 17 = .ok (.lreturn, 1) := by decide +kernel
theorem dL_outside_0 : decode cL_outside 0 = .ok (.aload_n 0, 1) := by decide +kernel
theorem dL_outside_1 : decode cL_outside 1 = .ok (.iload_n 1, 1) := by decide +kernel
theorem dL_outside_2 : decode cL_outside 2 = .ok (.invokevirtual 62, 3) := by decide +kernel
theorem dL_outside_5 : decode cL_outside 5 = .ok (.i2l, 1) := by decide +kernel
theorem dL_outside_6 : decode cL_outside 6 = .ok (.lreturn, 1) := by decide +kernel
theorem dL_outside_7 : decode cL_outside 7 = .ok (.astore_n 2, 1) := by decide +kernel
theorem dL_outside_8 : decode cL_outside 8 = .ok (.ldc2_w 17, 3) := by decide +kernel
theorem dL_outside_11 : decode cL_outside 11 = .ok (.lreturn, 1) := by decide +kernel
theorem dL_pay_0 : decode cL_pay 0 = .ok (.aload_n 0, 1) := by decide +kernel
theorem dL_pay_1 : decode cL_pay 1 = .ok (.iload_n 1, 1) := by decide +kernel
theorem dL_pay_2 : decode cL_pay 2 = .ok (.invokevirtual 65, 3) := by decide +kernel
theorem dL_pay_5 : decode cL_pay 5 = .ok (.i2l, 1) := by decide +kernel
theorem dL_pay_6 : decode cL_pay 6 = .ok (.lreturn, 1) := by decide +kernel
theorem dL_pay_7 : decode cL_pay 7 = .ok (.astore_n 2, 1) := by decide +kernel
theorem dL_pay_8 : decode cL_pay 8 = .ok (.ldc2_w 36, 3) := by decide +kernel
theorem dL_pay_11 : decode cL_pay 11 = .ok (.lreturn, 1) := by decide +kernel
theorem dL_pass_0 : decode cL_pass 0 = .ok (.aload_n 0, 1) := by decide +kernel
theorem dL_pass_1 : decode cL_pass 1 = .ok (.iload_n 1, 1) := by decide +kernel
theorem dL_pass_2 : decode cL_pass 2 = .ok (.invokevirtual 68, 3) := by decide +kernel
theorem dL_pass_5 : decode cL_pass 5 = .ok (.i2l, 1) := by decide +kernel
theorem dL_pass_6 : decode cL_pass 6 = .ok (.lreturn, 1) := by decide +kernel
theorem dL_pass_7 : decode cL_pass 7 = .ok (.astore_n 2, 1) := by decide +kernel
theorem dL_pass_8 : decode cL_pass 8 = .ok (.ldc2_w 17, 3) := by decide +kernel
theorem dL_pass_11 : decode cL_pass 11 = .ok (.lreturn, 1) := by decide +kernel
theorem dL_pass_12 : decode cL_pass 12 = .ok (.astore_n 2, 1) := by decide +kernel
theorem dL_pass_13 : decode cL_pass 13 = .ok (.ldc2_w 21, 3) := by decide +kernel
theorem dL_pass_16 : decode cL_pass 16 = .ok (.lreturn, 1) := by decide +kernel
theorem dL_undo_0 : decode cL_undo 0 = .ok (.aload_n 0, 1) := by decide +kernel
theorem dL_undo_1 : decode cL_undo 1 = .ok (.invokevirtual 71, 3) := by decide +kernel
theorem dL_undo_4 : decode cL_undo 4 = .ok (.i2l, 1) := by decide +kernel
theorem dL_undo_5 : decode cL_undo 5 = .ok (.lreturn, 1) := by decide +kernel
theorem dL_undo_6 : decode cL_undo 6 = .ok (.astore_n 1, 1) := by decide +kernel
theorem dL_undo_7 : decode cL_undo 7 = .ok (.ldc2_w 21, 3) := by decide +kernel
theorem dL_undo_10 : decode cL_undo 10 = .ok (.lreturn, 1) := by decide +kernel
theorem dL_later_0 : decode cL_later 0 = .ok (.aload_n 0, 1) := by decide +kernel
theorem dL_later_1 : decode cL_later 1 = .ok (.iload_n 1, 1) := by decide +kernel
theorem dL_later_2 : decode cL_later 2 = .ok (.iload_n 2, 1) := by decide +kernel
theorem dL_later_3 : decode cL_later 3 = .ok (.invokevirtual 74, 3) := by decide +kernel
theorem dL_later_6 : decode cL_later 6 = .ok (.i2l, 1) := by decide +kernel
theorem dL_later_7 : decode cL_later 7 = .ok (.lreturn, 1) := by decide +kernel
theorem dL_later_8 : decode cL_later 8 = .ok (.astore_n 3, 1) := by decide +kernel
theorem dL_later_9 : decode cL_later 9 = .ok (.ldc2_w 36, 3) := by decide +kernel
theorem dL_later_12 : decode cL_later 12 = .ok (.lreturn, 1) := by decide +kernel
theorem dL_later_13 : decode cL_later 13 = .ok (.astore_n 3, 1) := by decide +kernel
theorem dL_later_14 : decode cL_later 14 = .ok (.ldc2_w 17, 3) := by decide +kernel
theorem dL_later_17 : decode cL_later 17 = .ok (.lreturn, 1) := by decide +kernel
theorem dL_begins_0 : decode cL_begins 0 = .ok (.aload_n 0, 1) := by decide +kernel
theorem dL_begins_1 : decode cL_begins 1 = .ok (.iload_n 1, 1) := by decide +kernel
theorem dL_begins_2 : decode cL_begins 2 = .ok (.invokevirtual 77, 3) := by decide +kernel
theorem dL_begins_5 : decode cL_begins 5 = .ok (.i2l, 1) := by decide +kernel
theorem dL_begins_6 : decode cL_begins 6 = .ok (.lreturn, 1) := by decide +kernel
theorem dL_begins_7 : decode cL_begins 7 = .ok (.astore_n 2, 1) := by decide +kernel
theorem dL_begins_8 : decode cL_begins 8 = .ok (.ldc2_w 36, 3) := by decide +kernel
theorem dL_begins_11 : decode cL_begins 11 = .ok (.lreturn, 1) := by decide +kernel
theorem dL_cost_0 : decode cL_cost 0 = .ok (.aload_n 0, 1) := by decide +kernel
theorem dL_cost_1 : decode cL_cost 1 = .ok (.iload_n 1, 1) := by decide +kernel
theorem dL_cost_2 : decode cL_cost 2 = .ok (.iload_n 2, 1) := by decide +kernel
theorem dL_cost_3 : decode cL_cost 3 = .ok (.iload_n 3, 1) := by decide +kernel
theorem dL_cost_4 : decode cL_cost 4 = .ok (.iload 4, 2) := by decide +kernel
theorem dL_cost_6 : decode cL_cost 6 = .ok (.iload 5, 2) := by decide +kernel
theorem dL_cost_8 : decode cL_cost 8 = .ok (.invokevirtual 80, 3) := by decide +kernel
theorem dL_cost_11 : decode cL_cost 11 = .ok (.i2l, 1) := by decide +kernel
theorem dL_cost_12 : decode cL_cost 12 = .ok (.lreturn, 1) := by decide +kernel
theorem dL_cost_13 : decode cL_cost 13 = .ok (.astore 6, 2) := by decide +kernel
theorem dL_cost_15 : decode cL_cost 15 = .ok (.ldc2_w 36, 3) := by decide +kernel
theorem dL_cost_18 : decode cL_cost 18 = .ok (.lreturn, 1) := by decide +kernel
theorem dL_cost_19 : decode cL_cost 19 = .ok (.astore 6, 2) := by decide +kernel
theorem dL_cost_21 : decode cL_cost 21 = .ok (.ldc2_w 17, 3) := by decide +kernel
theorem dL_cost_24 : decode cL_cost 24 = .ok (.lreturn, 1) := by decide +kernel
theorem dL_willOwe_0 : decode cL_willOwe 0 = .ok (.aload_n 0, 1) := by decide +kernel
theorem dL_willOwe_1 : decode cL_willOwe 1 = .ok (.iload_n 1, 1) := by decide +kernel
theorem dL_willOwe_2 : decode cL_willOwe 2 = .ok (.invokevirtual 83, 3) := by decide +kernel
theorem dL_willOwe_5 : decode cL_willOwe 5 = .ok (.i2l, 1) := by decide +kernel
theorem dL_willOwe_6 : decode cL_willOwe 6 = .ok (.lreturn, 1) := by decide +kernel
theorem dL_willOwe_7 : decode cL_willOwe 7 = .ok (.astore_n 2, 1) := by decide +kernel
theorem dL_willOwe_8 : decode cL_willOwe 8 = .ok (.ldc2_w 36, 3) := by decide +kernel
theorem dL_willOwe_11 : decode cL_willOwe 11 = .ok (.lreturn, 1) := by decide +kernel
theorem dL_script_0 : decode cL_script 0 = .ok (.aload_n 0, 1) := by decide +kernel
theorem dL_script_1 : decode cL_script 1 = .ok (.iload_n 1, 1) := by decide +kernel
theorem dL_script_2 : decode cL_script 2 = .ok (.lload_n 2, 1) := by decide +kernel
theorem dL_script_3 : decode cL_script 3 = .ok (.invokevirtual 86, 3) := by decide +kernel
theorem dL_script_6 : decode cL_script 6 = .ok (.i2l, 1) := by decide +kernel
theorem dL_script_7 : decode cL_script 7 = .ok (.lreturn, 1) := by decide +kernel
theorem dL_script_8 : decode cL_script 8 = .ok (.astore 4, 2) := by decide +kernel
theorem dL_script_10 : decode cL_script 10 = .ok (.ldc2_w 17, 3) := by decide +kernel
theorem dL_script_13 : decode cL_script 13 = .ok (.lreturn, 1) := by decide +kernel
theorem dL_simulate_0 : decode cL_simulate 0 = .ok (.aload_n 0, 1) := by decide +kernel
theorem dL_simulate_1 : decode cL_simulate 1 = .ok (.lload_n 1, 1) := by decide +kernel
theorem dL_simulate_2 : decode cL_simulate 2 = .ok (.iload_n 3, 1) := by decide +kernel
theorem dL_simulate_3 : decode cL_simulate 3 = .ok (.invokevirtual 90, 3) := by decide +kernel
theorem dL_simulate_6 : decode cL_simulate 6 = .ok (.i2l, 1) := by decide +kernel
theorem dL_simulate_7 : decode cL_simulate 7 = .ok (.lreturn, 1) := by decide +kernel
theorem dL_simulate_8 : decode cL_simulate 8 = .ok (.astore 4, 2) := by decide +kernel
theorem dL_simulate_10 : decode cL_simulate 10 = .ok (.ldc2_w 17, 3) := by decide +kernel
theorem dL_simulate_13 : decode cL_simulate 13 = .ok (.lreturn, 1) := by decide +kernel
theorem dL_save_0 : decode cL_save 0 = .ok (.aload_n 0, 1) := by decide +kernel
theorem dL_save_1 : decode cL_save 1 = .ok (.iload_n 1, 1) := by decide +kernel
theorem dL_save_2 : decode cL_save 2 = .ok (.invokevirtual 94, 3) := by decide +kernel
theorem dL_save_5 : decode cL_save 5 = .ok (.i2l, 1) := by decide +kernel
theorem dL_save_6 : decode cL_save 6 = .ok (.lreturn, 1) := by decide +kernel
theorem dL_save_7 : decode cL_save 7 = .ok (.astore_n 2, 1) := by decide +kernel
theorem dL_save_8 : decode cL_save 8 = .ok (.ldc2_w 36, 3) := by decide +kernel
theorem dL_save_11 : decode cL_save 11 = .ok (.lreturn, 1) := by decide +kernel
theorem dL_restore_0 : decode cL_restore 0 = .ok (.aload_n 0, 1) := by decide +kernel
theorem dL_restore_1 : decode cL_restore 1 = .ok (.iload_n 1, 1) := by decide +kernel
theorem dL_restore_2 : decode cL_restore 2 = .ok (.invokevirtual 97, 3) := by decide +kernel
theorem dL_restore_5 : decode cL_restore 5 = .ok (.i2l, 1) := by decide +kernel
theorem dL_restore_6 : decode cL_restore 6 = .ok (.lreturn, 1) := by decide +kernel
theorem dL_restore_7 : decode cL_restore 7 = .ok (.astore_n 2, 1) := by decide +kernel
theorem dL_restore_8 : decode cL_restore 8 = .ok (.ldc2_w 36, 3) := by decide +kernel
theorem dL_restore_11 : decode cL_restore 11 = .ok (.lreturn, 1) := by decide +kernel
theorem dL_restore_12 : decode cL_restore 12 = .ok (.astore_n 2, 1) := by decide +kernel
theorem dL_restore_13 : decode cL_restore 13 = .ok (.ldc2_w 21, 3) := by decide +kernel
theorem dL_restore_16 : decode cL_restore 16 = .ok (.lreturn, 1) := by decide +kernel
theorem dL_now_0 : decode cL_now 0 = .ok (.ldc2_w 100, 3) := by decide +kernel
theorem dL_now_3 : decode cL_now 3 = .ok (.lstore_n 1, 1) := by decide +kernel
theorem dL_now_4 : decode cL_now 4 = .ok (.iconst 0, 1) := by decide +kernel
theorem dL_now_5 : decode cL_now 5 = .ok (.istore_n 3, 1) := by decide +kernel
theorem dL_now_6 : decode cL_now 6 = .ok (.iload_n 3, 1) := by decide +kernel
theorem dL_now_7 : decode cL_now 7 = .ok (.bipush 10, 2) := by decide +kernel
theorem dL_now_9 : decode cL_now 9 = .ok (.if_icmp .ge 21, 3) := by decide +kernel
theorem dL_now_12 : decode cL_now 12 = .ok (.ldc2_w 102, 3) := by decide +kernel
theorem dL_now_15 : decode cL_now 15 = .ok (.lload_n 1, 1) := by decide +kernel
theorem dL_now_16 : decode cL_now 16 = .ok (.lmul, 1) := by decide +kernel
theorem dL_now_17 : decode cL_now 17 = .ok (.aload_n 0, 1) := by decide +kernel
theorem dL_now_18 : decode cL_now 18 = .ok (.iload_n 3, 1) := by decide +kernel
theorem dL_now_19 : decode cL_now 19 = .ok (.invokestatic 104, 3) := by decide +kernel
theorem dL_now_22 : decode cL_now 22 = .ok (.ladd, 1) := by decide +kernel
theorem dL_now_23 : decode cL_now 23 = .ok (.lstore_n 1, 1) := by decide +kernel
theorem dL_now_24 : decode cL_now 24 = .ok (.iinc 3 1, 3) := by decide +kernel
theorem dL_now_27 : decode cL_now 27 = .ok (.goto (-21), 3) := by decide +kernel
theorem dL_now_30 : decode cL_now 30 = .ok (.iconst 0, 1) := by decide +kernel
theorem dL_now_31 : decode cL_now 31 = .ok (.istore_n 3, 1) := by decide +kernel
theorem dL_now_32 : decode cL_now 32 = .ok (.iload_n 3, 1) := by decide +kernel
theorem dL_now_33 : decode cL_now 33 = .ok (.i2l, 1) := by decide +kernel
theorem dL_now_34 : decode cL_now 34 = .ok (.ldc2_w 109, 3) := by decide +kernel
theorem dL_now_37 : decode cL_now 37 = .ok (.aload_n 0, 1) := by decide +kernel
theorem dL_now_38 : decode cL_now 38 = .ok (.iconst 1, 1) := by decide +kernel
theorem dL_now_39 : decode cL_now 39 = .ok (.invokestatic 104, 3) := by decide +kernel
theorem dL_now_42 : decode cL_now 42 = .ok (.lmul, 1) := by decide +kernel
theorem dL_now_43 : decode cL_now 43 = .ok (.lcmp, 1) := by decide +kernel
theorem dL_now_44 : decode cL_now 44 = .ok (.ifCond .ge 28, 3) := by decide +kernel
theorem dL_now_47 : decode cL_now 47 = .ok (.ldc2_w 102, 3) := by decide +kernel
theorem dL_now_50 : decode cL_now 50 = .ok (.lload_n 1, 1) := by decide +kernel
theorem dL_now_51 : decode cL_now 51 = .ok (.lmul, 1) := by decide +kernel
theorem dL_now_52 : decode cL_now 52 = .ok (.aload_n 0, 1) := by decide +kernel
theorem dL_now_53 : decode cL_now 53 = .ok (.iload_n 3, 1) := by decide +kernel
theorem dL_now_54 : decode cL_now 54 = .ok (.bipush 7, 2) := by decide +kernel
theorem dL_now_56 : decode cL_now 56 = .ok (.idiv, 1) := by decide +kernel
theorem dL_now_57 : decode cL_now 57 = .ok (.iload_n 3, 1) := by decide +kernel
theorem dL_now_58 : decode cL_now 58 = .ok (.bipush 7, 2) := by decide +kernel
theorem dL_now_60 : decode cL_now 60 = .ok (.irem, 1) := by decide +kernel
theorem dL_now_61 : decode cL_now 61 = .ok (.invokestatic 111, 3) := by decide +kernel
theorem dL_now_64 : decode cL_now 64 = .ok (.ladd, 1) := by decide +kernel
theorem dL_now_65 : decode cL_now 65 = .ok (.lstore_n 1, 1) := by decide +kernel
theorem dL_now_66 : decode cL_now 66 = .ok (.iinc 3 1, 3) := by decide +kernel
theorem dL_now_69 : decode cL_now 69 = .ok (.goto (-37), 3) := by decide +kernel
theorem dL_now_72 : decode cL_now 72 = .ok (.iconst 0, 1) := by decide +kernel
theorem dL_now_73 : decode cL_now 73 = .ok (.istore_n 3, 1) := by decide +kernel
theorem dL_now_74 : decode cL_now 74 = .ok (.iload_n 3, 1) := by decide +kernel
theorem dL_now_75 : decode cL_now 75 = .ok (.i2l, 1) := by decide +kernel
theorem dL_now_76 : decode cL_now 76 = .ok (.aload_n 0, 1) := by decide +kernel
theorem dL_now_77 : decode cL_now 77 = .ok (.iconst 2, 1) := by decide +kernel
theorem dL_now_78 : decode cL_now 78 = .ok (.invokestatic 104, 3) := by decide +kernel
theorem dL_now_81 : decode cL_now 81 = .ok (.lcmp, 1) := by decide +kernel
theorem dL_now_82 : decode cL_now 82 = .ok (.ifCond .ge 21, 3) := by decide +kernel
theorem dL_now_85 : decode cL_now 85 = .ok (.ldc2_w 102, 3) := by decide +kernel
theorem dL_now_88 : decode cL_now 88 = .ok (.lload_n 1, 1) := by decide +kernel
theorem dL_now_89 : decode cL_now 89 = .ok (.lmul, 1) := by decide +kernel
theorem dL_now_90 : decode cL_now 90 = .ok (.aload_n 0, 1) := by decide +kernel
theorem dL_now_91 : decode cL_now 91 = .ok (.iload_n 3, 1) := by decide +kernel
theorem dL_now_92 : decode cL_now 92 = .ok (.invokestatic 114, 3) := by decide +kernel
theorem dL_now_95 : decode cL_now 95 = .ok (.ladd, 1) := by decide +kernel
theorem dL_now_96 : decode cL_now 96 = .ok (.lstore_n 1, 1) := by decide +kernel
theorem dL_now_97 : decode cL_now 97 = .ok (.iinc 3 1, 3) := by decide +kernel
theorem dL_now_100 : decode cL_now 100 = .ok (.goto (-26), 3) := by decide +kernel
theorem dL_now_103 : decode cL_now 103 = .ok (.iconst 0, 1) := by decide +kernel
theorem dL_now_104 : decode cL_now 104 = .ok (.istore_n 3, 1) := by decide +kernel
theorem dL_now_105 : decode cL_now 105 = .ok (.iload_n 3, 1) := by decide +kernel
theorem dL_now_106 : decode cL_now 106 = .ok (.i2l, 1) := by decide +kernel
theorem dL_now_107 : decode cL_now 107 = .ok (.ldc2_w 116, 3) := by decide +kernel
theorem dL_now_110 : decode cL_now 110 = .ok (.aload_n 0, 1) := by decide +kernel
theorem dL_now_111 : decode cL_now 111 = .ok (.iconst 3, 1) := by decide +kernel
theorem dL_now_112 : decode cL_now 112 = .ok (.invokestatic 104, 3) := by decide +kernel
theorem dL_now_115 : decode cL_now 115 = .ok (.lmul, 1) := by decide +kernel
theorem dL_now_116 : decode cL_now 116 = .ok (.lcmp, 1) := by decide +kernel
theorem dL_now_117 : decode cL_now 117 = .ok (.ifCond .ge 28, 3) := by decide +kernel
theorem dL_now_120 : decode cL_now 120 = .ok (.ldc2_w 102, 3) := by decide +kernel
theorem dL_now_123 : decode cL_now 123 = .ok (.lload_n 1, 1) := by decide +kernel
theorem dL_now_124 : decode cL_now 124 = .ok (.lmul, 1) := by decide +kernel
theorem dL_now_125 : decode cL_now 125 = .ok (.aload_n 0, 1) := by decide +kernel
theorem dL_now_126 : decode cL_now 126 = .ok (.iload_n 3, 1) := by decide +kernel
theorem dL_now_127 : decode cL_now 127 = .ok (.bipush 10, 2) := by decide +kernel
theorem dL_now_129 : decode cL_now 129 = .ok (.idiv, 1) := by decide +kernel
theorem dL_now_130 : decode cL_now 130 = .ok (.iload_n 3, 1) := by decide +kernel
theorem dL_now_131 : decode cL_now 131 = .ok (.bipush 10, 2) := by decide +kernel
theorem dL_now_133 : decode cL_now 133 = .ok (.irem, 1) := by decide +kernel
theorem dL_now_134 : decode cL_now 134 = .ok (.invokestatic 118, 3) := by decide +kernel
theorem dL_now_137 : decode cL_now 137 = .ok (.ladd, 1) := by decide +kernel
theorem dL_now_138 : decode cL_now 138 = .ok (.lstore_n 1, 1) := by decide +kernel
theorem dL_now_139 : decode cL_now 139 = .ok (.iinc 3 1, 3) := by decide +kernel
theorem dL_now_142 : decode cL_now 142 = .ok (.goto (-37), 3) := by decide +kernel
theorem dL_now_145 : decode cL_now 145 = .ok (.lload_n 1, 1) := by decide +kernel
theorem dL_now_146 : decode cL_now 146 = .ok (.lreturn, 1) := by decide +kernel
theorem dL_errors_0 : decode cL_errors 0 = .ok (.aload_n 0, 1) := by decide +kernel
theorem dL_errors_1 : decode cL_errors 1 = .ok (.invokestatic 120, 3) := by decide +kernel
theorem dL_errors_4 : decode cL_errors 4 = .ok (.lstore_n 1, 1) := by decide +kernel
theorem dL_errors_5 : decode cL_errors 5 = .ok (.aload_n 0, 1) := by decide +kernel
theorem dL_errors_6 : decode cL_errors 6 = .ok (.iconst 0, 1) := by decide +kernel
theorem dL_errors_7 : decode cL_errors 7 = .ok (.invokestatic 104, 3) := by decide +kernel
theorem dL_errors_10 : decode cL_errors 10 = .ok (.l2i, 1) := by decide +kernel
theorem dL_errors_11 : decode cL_errors 11 = .ok (.istore_n 3, 1) := by decide +kernel
theorem dL_errors_12 : decode cL_errors 12 = .ok (.aload_n 0, 1) := by decide +kernel
theorem dL_errors_13 : decode cL_errors 13 = .ok (.iconst 1, 1) := by decide +kernel
theorem dL_errors_14 : decode cL_errors 14 = .ok (.invokestatic 104, 3) := by decide +kernel
theorem dL_errors_17 : decode cL_errors 17 = .ok (.l2i, 1) := by decide +kernel
theorem dL_errors_18 : decode cL_errors 18 = .ok (.istore 4, 2) := by decide +kernel
theorem dL_errors_20 : decode cL_errors 20 = .ok (.aload_n 0, 1) := by decide +kernel
theorem dL_errors_21 : decode cL_errors 21 = .ok (.iconst 2, 1) := by decide +kernel
theorem dL_errors_22 : decode cL_errors 22 = .ok (.invokestatic 104, 3) := by decide +kernel
theorem dL_errors_25 : decode cL_errors 25 = .ok (.l2i, 1) := by decide +kernel
theorem dL_errors_26 : decode cL_errors 26 = .ok (.istore 5, 2) := by decide +kernel
theorem dL_errors_28 : decode cL_errors 28 = .ok (.aload_n 0, 1) := by decide +kernel
theorem dL_errors_29 : decode cL_errors 29 = .ok (.iconst 3, 1) := by decide +kernel
theorem dL_errors_30 : decode cL_errors 30 = .ok (.invokestatic 104, 3) := by decide +kernel
theorem dL_errors_33 : decode cL_errors 33 = .ok (.l2i, 1) := by decide +kernel
theorem dL_errors_34 : decode cL_errors 34 = .ok (.istore 6, 2) := by decide +kernel
theorem dL_errors_36 : decode cL_errors 36 = .ok (.aload_n 0, 1) := by decide +kernel
theorem dL_errors_37 : decode cL_errors 37 = .ok (.iconst (-1), 1) := by decide +kernel
theorem dL_errors_38 : decode cL_errors 38 = .ok (.invokestatic 104, 3) := by decide +kernel
theorem dL_errors_41 : decode cL_errors 41 = .ok (.ldc2_w 17, 3) := by decide +kernel
theorem dL_errors_44 : decode cL_errors 44 = .ok (.lcmp, 1) := by decide +kernel
theorem dL_errors_45 : decode cL_errors 45 = .ok (.ifCond .ne 199, 3) := by decide +kernel
theorem dL_errors_48 : decode cL_errors 48 = .ok (.aload_n 0, 1) := by decide +kernel
theorem dL_errors_49 : decode cL_errors 49 = .ok (.bipush 10, 2) := by decide +kernel
theorem dL_errors_51 : decode cL_errors 51 = .ok (.invokestatic 104, 3) := by decide +kernel
theorem dL_errors_54 : decode cL_errors 54 = .ok (.ldc2_w 17, 3) := by decide +kernel
theorem dL_errors_57 : decode cL_errors 57 = .ok (.lcmp, 1) := by decide +kernel
theorem dL_errors_58 : decode cL_errors 58 = .ok (.ifCond .ne 186, 3) := by decide +kernel
theorem dL_errors_61 : decode cL_errors 61 = .ok (.aload_n 0, 1) := by decide +kernel
theorem dL_errors_62 : decode cL_errors 62 = .ok (.iload 4, 2) := by decide +kernel
theorem dL_errors_64 : decode cL_errors 64 = .ok (.bipush 9, 2) := by decide +kernel
theorem dL_errors_66 : decode cL_errors 66 = .ok (.invokestatic 111, 3) := by decide +kernel
theorem dL_errors_69 : decode cL_errors 69 = .ok (.ldc2_w 36, 3) := by decide +kernel
theorem dL_errors_72 : decode cL_errors 72 = .ok (.lcmp, 1) := by decide +kernel
theorem dL_errors_73 : decode cL_errors 73 = .ok (.ifCond .ne 171, 3) := by decide +kernel
theorem dL_errors_76 : decode cL_errors 76 = .ok (.iload 4, 2) := by decide +kernel
theorem dL_errors_78 : decode cL_errors 78 = .ok (.ifCond .eq 44, 3) := by decide +kernel
theorem dL_errors_81 : decode cL_errors 81 = .ok (.aload_n 0, 1) := by decide +kernel
theorem dL_errors_82 : decode cL_errors 82 = .ok (.iconst 0, 1) := by decide +kernel
theorem dL_errors_83 : decode cL_errors 83 = .ok (.bipush 7, 2) := by decide +kernel
theorem dL_errors_85 : decode cL_errors 85 = .ok (.invokestatic 111, 3) := by decide +kernel
theorem dL_errors_88 : decode cL_errors 88 = .ok (.ldc2_w 17, 3) := by decide +kernel
theorem dL_errors_91 : decode cL_errors 91 = .ok (.lcmp, 1) := by decide +kernel
theorem dL_errors_92 : decode cL_errors 92 = .ok (.ifCond .ne 152, 3) := by decide +kernel
theorem dL_errors_95 : decode cL_errors 95 = .ok (.aload_n 0, 1) := by decide +kernel
theorem dL_errors_96 : decode cL_errors 96 = .ok (.iconst 0, 1) := by decide +kernel
theorem dL_errors_97 : decode cL_errors 97 = .ok (.bipush 49, 2) := by decide +kernel
theorem dL_errors_99 : decode cL_errors 99 = .ok (.invokestatic 124, 3) := by decide +kernel
theorem dL_errors_102 : decode cL_errors 102 = .ok (.ldc2_w 17, 3) := by decide +kernel
theorem dL_errors_105 : decode cL_errors 105 = .ok (.lcmp, 1) := by decide +kernel
theorem dL_errors_106 : decode cL_errors 106 = .ok (.ifCond .ne 138, 3) := by decide +kernel
theorem dL_errors_109 : decode cL_errors 109 = .ok (.aload_n 0, 1) := by decide +kernel
theorem dL_errors_110 : decode cL_errors 110 = .ok (.iconst 0, 1) := by decide +kernel
theorem dL_errors_111 : decode cL_errors 111 = .ok (.iconst (-1), 1) := by decide +kernel
theorem dL_errors_112 : decode cL_errors 112 = .ok (.invokestatic 124, 3) := by decide +kernel
theorem dL_errors_115 : decode cL_errors 115 = .ok (.ldc2_w 17, 3) := by decide +kernel
theorem dL_errors_118 : decode cL_errors 118 = .ok (.lcmp, 1) := by decide +kernel
theorem dL_errors_119 : decode cL_errors 119 = .ok (.ifCond .ne 125, 3) := by decide +kernel
theorem dL_errors_122 : decode cL_errors 122 = .ok (.aload_n 0, 1) := by decide +kernel
theorem dL_errors_123 : decode cL_errors 123 = .ok (.iload 5, 2) := by decide +kernel
theorem dL_errors_125 : decode cL_errors 125 = .ok (.invokestatic 114, 3) := by decide +kernel
theorem dL_errors_128 : decode cL_errors 128 = .ok (.ldc2_w 36, 3) := by decide +kernel
theorem dL_errors_131 : decode cL_errors 131 = .ok (.lcmp, 1) := by decide +kernel
theorem dL_errors_132 : decode cL_errors 132 = .ok (.ifCond .ne 112, 3) := by decide +kernel
theorem dL_errors_135 : decode cL_errors 135 = .ok (.aload_n 0, 1) := by decide +kernel
theorem dL_errors_136 : decode cL_errors 136 = .ok (.iload 6, 2) := by decide +kernel
theorem dL_errors_138 : decode cL_errors 138 = .ok (.bipush 99, 2) := by decide +kernel
theorem dL_errors_140 : decode cL_errors 140 = .ok (.invokestatic 118, 3) := by decide +kernel
theorem dL_errors_143 : decode cL_errors 143 = .ok (.ldc2_w 36, 3) := by decide +kernel
theorem dL_errors_146 : decode cL_errors 146 = .ok (.lcmp, 1) := by decide +kernel
theorem dL_errors_147 : decode cL_errors 147 = .ok (.ifCond .ne 97, 3) := by decide +kernel
theorem dL_errors_150 : decode cL_errors 150 = .ok (.iload 6, 2) := by decide +kernel
theorem dL_errors_152 : decode cL_errors 152 = .ok (.ifCond .eq 17, 3) := by decide +kernel
theorem dL_errors_155 : decode cL_errors 155 = .ok (.aload_n 0, 1) := by decide +kernel
theorem dL_errors_156 : decode cL_errors 156 = .ok (.iconst 0, 1) := by decide +kernel
theorem dL_errors_157 : decode cL_errors 157 = .ok (.bipush 10, 2) := by decide +kernel
theorem dL_errors_159 : decode cL_errors 159 = .ok (.invokestatic 118, 3) := by decide +kernel
theorem dL_errors_162 : decode cL_errors 162 = .ok (.ldc2_w 17, 3) := by decide +kernel
theorem dL_errors_165 : decode cL_errors 165 = .ok (.lcmp, 1) := by decide +kernel
theorem dL_errors_166 : decode cL_errors 166 = .ok (.ifCond .ne 78, 3) := by decide +kernel
theorem dL_errors_169 : decode cL_errors 169 = .ok (.aload_n 0, 1) := by decide +kernel
theorem dL_errors_170 : decode cL_errors 170 = .ok (.iconst 1, 1) := by decide +kernel
theorem dL_errors_171 : decode cL_errors 171 = .ok (.bipush 10, 2) := by decide +kernel
theorem dL_errors_173 : decode cL_errors 173 = .ok (.iconst 1, 1) := by decide +kernel
theorem dL_errors_174 : decode cL_errors 174 = .ok (.iconst 1, 1) := by decide +kernel
theorem dL_errors_175 : decode cL_errors 175 = .ok (.invokestatic 126, 3) := by decide +kernel
theorem dL_errors_178 : decode cL_errors 178 = .ok (.ldc2_w 17, 3) := by decide +kernel
theorem dL_errors_181 : decode cL_errors 181 = .ok (.lcmp, 1) := by decide +kernel
theorem dL_errors_182 : decode cL_errors 182 = .ok (.ifCond .ne 62, 3) := by decide +kernel
theorem dL_errors_185 : decode cL_errors 185 = .ok (.aload_n 0, 1) := by decide +kernel
theorem dL_errors_186 : decode cL_errors 186 = .ok (.iconst 1, 1) := by decide +kernel
theorem dL_errors_187 : decode cL_errors 187 = .ok (.iconst 1, 1) := by decide +kernel
theorem dL_errors_188 : decode cL_errors 188 = .ok (.iconst 1, 1) := by decide +kernel
theorem dL_errors_189 : decode cL_errors 189 = .ok (.bipush (-11), 2) := by decide +kernel
theorem dL_errors_191 : decode cL_errors 191 = .ok (.invokestatic 126, 3) := by decide +kernel
theorem dL_errors_194 : decode cL_errors 194 = .ok (.ldc2_w 17, 3) := by decide +kernel
theorem dL_errors_197 : decode cL_errors 197 = .ok (.lcmp, 1) := by decide +kernel
theorem dL_errors_198 : decode cL_errors 198 = .ok (.ifCond .ne 46, 3) := by decide +kernel
theorem dL_errors_201 : decode cL_errors 201 = .ok (.iload 4, 2) := by decide +kernel
theorem dL_errors_203 : decode cL_errors 203 = .ok (.iconst 4, 1) := by decide +kernel
theorem dL_errors_204 : decode cL_errors 204 = .ok (.if_icmp .lt 18, 3) := by decide +kernel
theorem dL_errors_207 : decode cL_errors 207 = .ok (.aload_n 0, 1) := by decide +kernel
theorem dL_errors_208 : decode cL_errors 208 = .ok (.iconst 1, 1) := by decide +kernel
theorem dL_errors_209 : decode cL_errors 209 = .ok (.iconst 1, 1) := by decide +kernel
theorem dL_errors_210 : decode cL_errors 210 = .ok (.iconst 1, 1) := by decide +kernel
theorem dL_errors_211 : decode cL_errors 211 = .ok (.iconst 1, 1) := by decide +kernel
theorem dL_errors_212 : decode cL_errors 212 = .ok (.invokestatic 126, 3) := by decide +kernel
theorem dL_errors_215 : decode cL_errors 215 = .ok (.ldc2_w 21, 3) := by decide +kernel
theorem dL_errors_218 : decode cL_errors 218 = .ok (.lcmp, 1) := by decide +kernel
theorem dL_errors_219 : decode cL_errors 219 = .ok (.ifCond .ne 25, 3) := by decide +kernel
theorem dL_errors_222 : decode cL_errors 222 = .ok (.iload 5, 2) := by decide +kernel
theorem dL_errors_224 : decode cL_errors 224 = .ok (.bipush 6, 2) := by decide +kernel
theorem dL_errors_226 : decode cL_errors 226 = .ok (.if_icmp .lt 14, 3) := by decide +kernel
theorem dL_errors_229 : decode cL_errors 229 = .ok (.aload_n 0, 1) := by decide +kernel
theorem dL_errors_230 : decode cL_errors 230 = .ok (.invokestatic 129, 3) := by decide +kernel
theorem dL_errors_233 : decode cL_errors 233 = .ok (.ldc2_w 21, 3) := by decide +kernel
theorem dL_errors_236 : decode cL_errors 236 = .ok (.lcmp, 1) := by decide +kernel
theorem dL_errors_237 : decode cL_errors 237 = .ok (.ifCond .ne 7, 3) := by decide +kernel
theorem dL_errors_240 : decode cL_errors 240 = .ok (.iconst 1, 1) := by decide +kernel
theorem dL_errors_241 : decode cL_errors 241 = .ok (.goto 4, 3) := by decide +kernel
theorem dL_errors_244 : decode cL_errors 244 = .ok (.iconst 0, 1) := by decide +kernel
theorem dL_errors_245 : decode cL_errors 245 = .ok (.istore 7, 2) := by decide +kernel
theorem dL_errors_247 : decode cL_errors 247 = .ok (.iload 7, 2) := by decide +kernel
theorem dL_errors_249 : decode cL_errors 249 = .ok (.ifCond .eq 197, 3) := by decide +kernel
theorem dL_errors_252 : decode cL_errors 252 = .ok (.aload_n 0, 1) := by decide +kernel
theorem dL_errors_253 : decode cL_errors 253 = .ok (.iload 4, 2) := by decide +kernel
theorem dL_errors_255 : decode cL_errors 255 = .ok (.iconst 0, 1) := by decide +kernel
theorem dL_errors_256 : decode cL_errors 256 = .ok (.iconst (-1), 1) := by decide +kernel
theorem dL_errors_257 : decode cL_errors 257 = .ok (.iconst 0, 1) := by decide +kernel
theorem dL_errors_258 : decode cL_errors 258 = .ok (.iconst 0, 1) := by decide +kernel
theorem dL_errors_259 : decode cL_errors 259 = .ok (.invokestatic 131, 3) := by decide +kernel
theorem dL_errors_262 : decode cL_errors 262 = .ok (.ldc2_w 36, 3) := by decide +kernel
theorem dL_errors_265 : decode cL_errors 265 = .ok (.lcmp, 1) := by decide +kernel
theorem dL_errors_266 : decode cL_errors 266 = .ok (.ifCond .ne 180, 3) := by decide +kernel
theorem dL_errors_269 : decode cL_errors 269 = .ok (.aload_n 0, 1) := by decide +kernel
theorem dL_errors_270 : decode cL_errors 270 = .ok (.iconst 0, 1) := by decide +kernel
theorem dL_errors_271 : decode cL_errors 271 = .ok (.iload 5, 2) := by decide +kernel
theorem dL_errors_273 : decode cL_errors 273 = .ok (.iconst (-1), 1) := by decide +kernel
theorem dL_errors_274 : decode cL_errors 274 = .ok (.iconst 0, 1) := by decide +kernel
theorem dL_errors_275 : decode cL_errors 275 = .ok (.iconst 0, 1) := by decide +kernel
theorem dL_errors_276 : decode cL_errors 276 = .ok (.invokestatic 131, 3) := by decide +kernel
theorem dL_errors_279 : decode cL_errors 279 = .ok (.ldc2_w 36, 3) := by decide +kernel
theorem dL_errors_282 : decode cL_errors 282 = .ok (.lcmp, 1) := by decide +kernel
theorem dL_errors_283 : decode cL_errors 283 = .ok (.ifCond .ne 163, 3) := by decide +kernel
theorem dL_errors_286 : decode cL_errors 286 = .ok (.aload_n 0, 1) := by decide +kernel
theorem dL_errors_287 : decode cL_errors 287 = .ok (.iload 4, 2) := by decide +kernel
theorem dL_errors_289 : decode cL_errors 289 = .ok (.iconst 0, 1) := by decide +kernel
theorem dL_errors_290 : decode cL_errors 290 = .ok (.iconst 0, 1) := by decide +kernel
theorem dL_errors_291 : decode cL_errors 291 = .ok (.iconst 1, 1) := by decide +kernel
theorem dL_errors_292 : decode cL_errors 292 = .ok (.bipush 20, 2) := by decide +kernel
theorem dL_errors_294 : decode cL_errors 294 = .ok (.invokestatic 134, 3) := by decide +kernel
theorem dL_errors_297 : decode cL_errors 297 = .ok (.ldc2_w 36, 3) := by decide +kernel
theorem dL_errors_300 : decode cL_errors 300 = .ok (.lcmp, 1) := by decide +kernel
theorem dL_errors_301 : decode cL_errors 301 = .ok (.ifCond .ne 145, 3) := by decide +kernel
theorem dL_errors_304 : decode cL_errors 304 = .ok (.aload_n 0, 1) := by decide +kernel
theorem dL_errors_305 : decode cL_errors 305 = .ok (.iload 6, 2) := by decide +kernel
theorem dL_errors_307 : decode cL_errors 307 = .ok (.invokestatic 136, 3) := by decide +kernel
theorem dL_errors_310 : decode cL_errors 310 = .ok (.ldc2_w 36, 3) := by decide +kernel
theorem dL_errors_313 : decode cL_errors 313 = .ok (.lcmp, 1) := by decide +kernel
theorem dL_errors_314 : decode cL_errors 314 = .ok (.ifCond .ne 132, 3) := by decide +kernel
theorem dL_errors_317 : decode cL_errors 317 = .ok (.aload_n 0, 1) := by decide +kernel
theorem dL_errors_318 : decode cL_errors 318 = .ok (.iload 4, 2) := by decide +kernel
theorem dL_errors_320 : decode cL_errors 320 = .ok (.iconst 1, 1) := by decide +kernel
theorem dL_errors_321 : decode cL_errors 321 = .ok (.invokestatic 138, 3) := by decide +kernel
theorem dL_errors_324 : decode cL_errors 324 = .ok (.ldc2_w 36, 3) := by decide +kernel
theorem dL_errors_327 : decode cL_errors 327 = .ok (.lcmp, 1) := by decide +kernel
theorem dL_errors_328 : decode cL_errors 328 = .ok (.ifCond .ne 118, 3) := by decide +kernel
theorem dL_errors_331 : decode cL_errors 331 = .ok (.aload_n 0, 1) := by decide +kernel
theorem dL_errors_332 : decode cL_errors 332 = .ok (.bipush (-21), 2) := by decide +kernel
theorem dL_errors_334 : decode cL_errors 334 = .ok (.invokestatic 141, 3) := by decide +kernel
theorem dL_errors_337 : decode cL_errors 337 = .ok (.ldc2_w 17, 3) := by decide +kernel
theorem dL_errors_340 : decode cL_errors 340 = .ok (.lcmp, 1) := by decide +kernel
theorem dL_errors_341 : decode cL_errors 341 = .ok (.ifCond .ne 105, 3) := by decide +kernel
theorem dL_errors_344 : decode cL_errors 344 = .ok (.aload_n 0, 1) := by decide +kernel
theorem dL_errors_345 : decode cL_errors 345 = .ok (.iload 5, 2) := by decide +kernel
theorem dL_errors_347 : decode cL_errors 347 = .ok (.invokestatic 143, 3) := by decide +kernel
theorem dL_errors_350 : decode cL_errors 350 = .ok (.ldc2_w 36, 3) := by decide +kernel
theorem dL_errors_353 : decode cL_errors 353 = .ok (.lcmp, 1) := by decide +kernel
theorem dL_errors_354 : decode cL_errors 354 = .ok (.ifCond .ne 92, 3) := by decide +kernel
theorem dL_errors_357 : decode cL_errors 357 = .ok (.aload_n 0, 1) := by decide +kernel
theorem dL_errors_358 : decode cL_errors 358 = .ok (.iconst 0, 1) := by decide +kernel
theorem dL_errors_359 : decode cL_errors 359 = .ok (.invokestatic 145, 3) := by decide +kernel
theorem dL_errors_362 : decode cL_errors 362 = .ok (.ldc2_w 17, 3) := by decide +kernel
theorem dL_errors_365 : decode cL_errors 365 = .ok (.lcmp, 1) := by decide +kernel
theorem dL_errors_366 : decode cL_errors 366 = .ok (.ifCond .ne 80, 3) := by decide +kernel
theorem dL_errors_369 : decode cL_errors 369 = .ok (.aload_n 0, 1) := by decide +kernel
theorem dL_errors_370 : decode cL_errors 370 = .ok (.bipush 49, 2) := by decide +kernel
theorem dL_errors_372 : decode cL_errors 372 = .ok (.invokestatic 145, 3) := by decide +kernel
theorem dL_errors_375 : decode cL_errors 375 = .ok (.ldc2_w 17, 3) := by decide +kernel
theorem dL_errors_378 : decode cL_errors 378 = .ok (.lcmp, 1) := by decide +kernel
theorem dL_errors_379 : decode cL_errors 379 = .ok (.ifCond .ne 67, 3) := by decide +kernel
theorem dL_errors_382 : decode cL_errors 382 = .ok (.iload_n 3, 1) := by decide +kernel
theorem dL_errors_383 : decode cL_errors 383 = .ok (.sipush 193, 3) := by decide +kernel
theorem dL_errors_386 : decode cL_errors 386 = .ok (.if_icmp .lt 16, 3) := by decide +kernel
theorem dL_errors_389 : decode cL_errors 389 = .ok (.aload_n 0, 1) := by decide +kernel
theorem dL_errors_390 : decode cL_errors 390 = .ok (.bipush 48, 2) := by decide +kernel
theorem dL_errors_392 : decode cL_errors 392 = .ok (.invokestatic 145, 3) := by decide +kernel
theorem dL_errors_395 : decode cL_errors 395 = .ok (.ldc2_w 21, 3) := by decide +kernel
theorem dL_errors_398 : decode cL_errors 398 = .ok (.lcmp, 1) := by decide +kernel
theorem dL_errors_399 : decode cL_errors 399 = .ok (.ifCond .ne 47, 3) := by decide +kernel
theorem dL_errors_402 : decode cL_errors 402 = .ok (.aload_n 0, 1) := by decide +kernel
theorem dL_errors_403 : decode cL_errors 403 = .ok (.iload 4, 2) := by decide +kernel
theorem dL_errors_405 : decode cL_errors 405 = .ok (.bipush 99, 2) := by decide +kernel
theorem dL_errors_407 : decode cL_errors 407 = .ok (.invokestatic 124, 3) := by decide +kernel
theorem dL_errors_410 : decode cL_errors 410 = .ok (.ldc2_w 36, 3) := by decide +kernel
theorem dL_errors_413 : decode cL_errors 413 = .ok (.lcmp, 1) := by decide +kernel
theorem dL_errors_414 : decode cL_errors 414 = .ok (.ifCond .ne 32, 3) := by decide +kernel
theorem dL_errors_417 : decode cL_errors 417 = .ok (.aload_n 0, 1) := by decide +kernel
theorem dL_errors_418 : decode cL_errors 418 = .ok (.iload 6, 2) := by decide +kernel
theorem dL_errors_420 : decode cL_errors 420 = .ok (.invokestatic 147, 3) := by decide +kernel
theorem dL_errors_423 : decode cL_errors 423 = .ok (.ldc2_w 36, 3) := by decide +kernel
theorem dL_errors_426 : decode cL_errors 426 = .ok (.lcmp, 1) := by decide +kernel
theorem dL_errors_427 : decode cL_errors 427 = .ok (.ifCond .ne 19, 3) := by decide +kernel
theorem dL_errors_430 : decode cL_errors 430 = .ok (.aload_n 0, 1) := by decide +kernel
theorem dL_errors_431 : decode cL_errors 431 = .ok (.iconst (-1), 1) := by decide +kernel
theorem dL_errors_432 : decode cL_errors 432 = .ok (.invokestatic 149, 3) := by decide +kernel
theorem dL_errors_435 : decode cL_errors 435 = .ok (.ldc2_w 36, 3) := by decide +kernel
theorem dL_errors_438 : decode cL_errors 438 = .ok (.lcmp, 1) := by decide +kernel
theorem dL_errors_439 : decode cL_errors 439 = .ok (.ifCond .ne 7, 3) := by decide +kernel
theorem dL_errors_442 : decode cL_errors 442 = .ok (.iconst 1, 1) := by decide +kernel
theorem dL_errors_443 : decode cL_errors 443 = .ok (.goto 4, 3) := by decide +kernel
theorem dL_errors_446 : decode cL_errors 446 = .ok (.iconst 0, 1) := by decide +kernel
theorem dL_errors_447 : decode cL_errors 447 = .ok (.istore 7, 2) := by decide +kernel
theorem dL_errors_449 : decode cL_errors 449 = .ok (.iload 4, 2) := by decide +kernel
theorem dL_errors_451 : decode cL_errors 451 = .ok (.ifCond .le 117, 3) := by decide +kernel
theorem dL_errors_454 : decode cL_errors 454 = .ok (.iload 5, 2) := by decide +kernel
theorem dL_errors_456 : decode cL_errors 456 = .ok (.ifCond .le 112, 3) := by decide +kernel
theorem dL_errors_459 : decode cL_errors 459 = .ok (.iload 7, 2) := by decide +kernel
theorem dL_errors_461 : decode cL_errors 461 = .ok (.ifCond .eq 104, 3) := by decide +kernel
theorem dL_errors_464 : decode cL_errors 464 = .ok (.aload_n 0, 1) := by decide +kernel
theorem dL_errors_465 : decode cL_errors 465 = .ok (.iconst 0, 1) := by decide +kernel
theorem dL_errors_466 : decode cL_errors 466 = .ok (.iconst 0, 1) := by decide +kernel
theorem dL_errors_467 : decode cL_errors 467 = .ok (.iload_n 3, 1) := by decide +kernel
theorem dL_errors_468 : decode cL_errors 468 = .ok (.iconst 1, 1) := by decide +kernel
theorem dL_errors_469 : decode cL_errors 469 = .ok (.isub, 1) := by decide +kernel
theorem dL_errors_470 : decode cL_errors 470 = .ok (.iconst 1, 1) := by decide +kernel
theorem dL_errors_471 : decode cL_errors 471 = .ok (.bipush 20, 2) := by decide +kernel
theorem dL_errors_473 : decode cL_errors 473 = .ok (.invokestatic 131, 3) := by decide +kernel
theorem dL_errors_476 : decode cL_errors 476 = .ok (.ldc2_w 17, 3) := by decide +kernel
theorem dL_errors_479 : decode cL_errors 479 = .ok (.lcmp, 1) := by decide +kernel
theorem dL_errors_480 : decode cL_errors 480 = .ok (.ifCond .ne 85, 3) := by decide +kernel
theorem dL_errors_483 : decode cL_errors 483 = .ok (.aload_n 0, 1) := by decide +kernel
theorem dL_errors_484 : decode cL_errors 484 = .ok (.iconst 0, 1) := by decide +kernel
theorem dL_errors_485 : decode cL_errors 485 = .ok (.iconst 0, 1) := by decide +kernel
theorem dL_errors_486 : decode cL_errors 486 = .ok (.sipush 200, 3) := by decide +kernel
theorem dL_errors_489 : decode cL_errors 489 = .ok (.iconst 1, 1) := by decide +kernel
theorem dL_errors_490 : decode cL_errors 490 = .ok (.bipush 20, 2) := by decide +kernel
theorem dL_errors_492 : decode cL_errors 492 = .ok (.invokestatic 131, 3) := by decide +kernel
theorem dL_errors_495 : decode cL_errors 495 = .ok (.ldc2_w 17, 3) := by decide +kernel
theorem dL_errors_498 : decode cL_errors 498 = .ok (.lcmp, 1) := by decide +kernel
theorem dL_errors_499 : decode cL_errors 499 = .ok (.ifCond .ne 66, 3) := by decide +kernel
theorem dL_errors_502 : decode cL_errors 502 = .ok (.iload_n 3, 1) := by decide +kernel
theorem dL_errors_503 : decode cL_errors 503 = .ok (.sipush 199, 3) := by decide +kernel
theorem dL_errors_506 : decode cL_errors 506 = .ok (.if_icmp .gt 55, 3) := by decide +kernel
theorem dL_errors_509 : decode cL_errors 509 = .ok (.aload_n 0, 1) := by decide +kernel
theorem dL_errors_510 : decode cL_errors 510 = .ok (.iconst 0, 1) := by decide +kernel
theorem dL_errors_511 : decode cL_errors 511 = .ok (.iconst 0, 1) := by decide +kernel
theorem dL_errors_512 : decode cL_errors 512 = .ok (.iload_n 3, 1) := by decide +kernel
theorem dL_errors_513 : decode cL_errors 513 = .ok (.bipush 13, 2) := by decide +kernel
theorem dL_errors_515 : decode cL_errors 515 = .ok (.bipush 20, 2) := by decide +kernel
theorem dL_errors_517 : decode cL_errors 517 = .ok (.invokestatic 131, 3) := by decide +kernel
theorem dL_errors_520 : decode cL_errors 520 = .ok (.ldc2_w 17, 3) := by decide +kernel
theorem dL_errors_523 : decode cL_errors 523 = .ok (.lcmp, 1) := by decide +kernel
theorem dL_errors_524 : decode cL_errors 524 = .ok (.ifCond .ne 41, 3) := by decide +kernel
theorem dL_errors_527 : decode cL_errors 527 = .ok (.aload_n 0, 1) := by decide +kernel
theorem dL_errors_528 : decode cL_errors 528 = .ok (.iconst 0, 1) := by decide +kernel
theorem dL_errors_529 : decode cL_errors 529 = .ok (.iconst 0, 1) := by decide +kernel
theorem dL_errors_530 : decode cL_errors 530 = .ok (.iload_n 3, 1) := by decide +kernel
theorem dL_errors_531 : decode cL_errors 531 = .ok (.iconst 1, 1) := by decide +kernel
theorem dL_errors_532 : decode cL_errors 532 = .ok (.bipush 11, 2) := by decide +kernel
theorem dL_errors_534 : decode cL_errors 534 = .ok (.invokestatic 131, 3) := by decide +kernel
theorem dL_errors_537 : decode cL_errors 537 = .ok (.ldc2_w 17, 3) := by decide +kernel
theorem dL_errors_540 : decode cL_errors 540 = .ok (.lcmp, 1) := by decide +kernel
theorem dL_errors_541 : decode cL_errors 541 = .ok (.ifCond .ne 24, 3) := by decide +kernel
theorem dL_errors_544 : decode cL_errors 544 = .ok (.aload_n 0, 1) := by decide +kernel
theorem dL_errors_545 : decode cL_errors 545 = .ok (.iconst 0, 1) := by decide +kernel
theorem dL_errors_546 : decode cL_errors 546 = .ok (.iconst 0, 1) := by decide +kernel
theorem dL_errors_547 : decode cL_errors 547 = .ok (.iload_n 3, 1) := by decide +kernel
theorem dL_errors_548 : decode cL_errors 548 = .ok (.iconst 0, 1) := by decide +kernel
theorem dL_errors_549 : decode cL_errors 549 = .ok (.bipush 20, 2) := by decide +kernel
theorem dL_errors_551 : decode cL_errors 551 = .ok (.invokestatic 134, 3) := by decide +kernel
theorem dL_errors_554 : decode cL_errors 554 = .ok (.ldc2_w 17, 3) := by decide +kernel
theorem dL_errors_557 : decode cL_errors 557 = .ok (.lcmp, 1) := by decide +kernel
theorem dL_errors_558 : decode cL_errors 558 = .ok (.ifCond .ne 7, 3) := by decide +kernel
theorem dL_errors_561 : decode cL_errors 561 = .ok (.iconst 1, 1) := by decide +kernel
theorem dL_errors_562 : decode cL_errors 562 = .ok (.goto 4, 3) := by decide +kernel
theorem dL_errors_565 : decode cL_errors 565 = .ok (.iconst 0, 1) := by decide +kernel
theorem dL_errors_566 : decode cL_errors 566 = .ok (.istore 7, 2) := by decide +kernel
theorem dL_errors_568 : decode cL_errors 568 = .ok (.iconst 0, 1) := by decide +kernel
theorem dL_errors_569 : decode cL_errors 569 = .ok (.istore 8, 2) := by decide +kernel
theorem dL_errors_571 : decode cL_errors 571 = .ok (.iload 8, 2) := by decide +kernel
theorem dL_errors_573 : decode cL_errors 573 = .ok (.iload 6, 2) := by decide +kernel
theorem dL_errors_575 : decode cL_errors 575 = .ok (.if_icmp .ge 128, 3) := by decide +kernel
theorem dL_errors_578 : decode cL_errors 578 = .ok (.iload 7, 2) := by decide +kernel
theorem dL_errors_580 : decode cL_errors 580 = .ok (.ifCond .eq 123, 3) := by decide +kernel
theorem dL_errors_583 : decode cL_errors 583 = .ok (.aload_n 0, 1) := by decide +kernel
theorem dL_errors_584 : decode cL_errors 584 = .ok (.iload 8, 2) := by decide +kernel
theorem dL_errors_586 : decode cL_errors 586 = .ok (.iconst 0, 1) := by decide +kernel
theorem dL_errors_587 : decode cL_errors 587 = .ok (.invokestatic 118, 3) := by decide +kernel
theorem dL_errors_590 : decode cL_errors 590 = .ok (.l2i, 1) := by decide +kernel
theorem dL_errors_591 : decode cL_errors 591 = .ok (.istore 9, 2) := by decide +kernel
theorem dL_errors_593 : decode cL_errors 593 = .ok (.aload_n 0, 1) := by decide +kernel
theorem dL_errors_594 : decode cL_errors 594 = .ok (.iload 8, 2) := by decide +kernel
theorem dL_errors_596 : decode cL_errors 596 = .ok (.iconst 2, 1) := by decide +kernel
theorem dL_errors_597 : decode cL_errors 597 = .ok (.invokestatic 118, 3) := by decide +kernel
theorem dL_errors_600 : decode cL_errors 600 = .ok (.l2i, 1) := by decide +kernel
theorem dL_errors_601 : decode cL_errors 601 = .ok (.istore 10, 2) := by decide +kernel
theorem dL_errors_603 : decode cL_errors 603 = .ok (.iload 10, 2) := by decide +kernel
theorem dL_errors_605 : decode cL_errors 605 = .ok (.iload_n 3, 1) := by decide +kernel
theorem dL_errors_606 : decode cL_errors 606 = .ok (.if_icmp .lt 41, 3) := by decide +kernel
theorem dL_errors_609 : decode cL_errors 609 = .ok (.aload_n 0, 1) := by decide +kernel
theorem dL_errors_610 : decode cL_errors 610 = .ok (.iload 9, 2) := by decide +kernel
theorem dL_errors_612 : decode cL_errors 612 = .ok (.iconst 0, 1) := by decide +kernel
theorem dL_errors_613 : decode cL_errors 613 = .ok (.iload 10, 2) := by decide +kernel
theorem dL_errors_615 : decode cL_errors 615 = .ok (.iconst 1, 1) := by decide +kernel
theorem dL_errors_616 : decode cL_errors 616 = .ok (.bipush 20, 2) := by decide +kernel
theorem dL_errors_618 : decode cL_errors 618 = .ok (.invokestatic 131, 3) := by decide +kernel
theorem dL_errors_621 : decode cL_errors 621 = .ok (.ldc2_w 21, 3) := by decide +kernel
theorem dL_errors_624 : decode cL_errors 624 = .ok (.lcmp, 1) := by decide +kernel
theorem dL_errors_625 : decode cL_errors 625 = .ok (.ifCond .ne 26, 3) := by decide +kernel
theorem dL_errors_628 : decode cL_errors 628 = .ok (.aload_n 0, 1) := by decide +kernel
theorem dL_errors_629 : decode cL_errors 629 = .ok (.iload 9, 2) := by decide +kernel
theorem dL_errors_631 : decode cL_errors 631 = .ok (.iconst 0, 1) := by decide +kernel
theorem dL_errors_632 : decode cL_errors 632 = .ok (.iload 10, 2) := by decide +kernel
theorem dL_errors_634 : decode cL_errors 634 = .ok (.iconst 1, 1) := by decide +kernel
theorem dL_errors_635 : decode cL_errors 635 = .ok (.bipush 20, 2) := by decide +kernel
theorem dL_errors_637 : decode cL_errors 637 = .ok (.invokestatic 134, 3) := by decide +kernel
theorem dL_errors_640 : decode cL_errors 640 = .ok (.ldc2_w 151, 3) := by decide +kernel
theorem dL_errors_643 : decode cL_errors 643 = .ok (.lcmp, 1) := by decide +kernel
theorem dL_errors_644 : decode cL_errors 644 = .ok (.ifCond .ne 7, 3) := by decide +kernel
theorem dL_errors_647 : decode cL_errors 647 = .ok (.iconst 1, 1) := by decide +kernel
theorem dL_errors_648 : decode cL_errors 648 = .ok (.goto 4, 3) := by decide +kernel
theorem dL_errors_651 : decode cL_errors 651 = .ok (.iconst 0, 1) := by decide +kernel
theorem dL_errors_652 : decode cL_errors 652 = .ok (.istore 7, 2) := by decide +kernel
theorem dL_errors_654 : decode cL_errors 654 = .ok (.iload 7, 2) := by decide +kernel
theorem dL_errors_656 : decode cL_errors 656 = .ok (.ifCond .eq 38, 3) := by decide +kernel
theorem dL_errors_659 : decode cL_errors 659 = .ok (.aload_n 0, 1) := by decide +kernel
theorem dL_errors_660 : decode cL_errors 660 = .ok (.iload 8, 2) := by decide +kernel
theorem dL_errors_662 : decode cL_errors 662 = .ok (.iconst 5, 1) := by decide +kernel
theorem dL_errors_663 : decode cL_errors 663 = .ok (.invokestatic 118, 3) := by decide +kernel
theorem dL_errors_666 : decode cL_errors 666 = .ok (.lconst 0, 1) := by decide +kernel
theorem dL_errors_667 : decode cL_errors 667 = .ok (.lcmp, 1) := by decide +kernel
theorem dL_errors_668 : decode cL_errors 668 = .ok (.ifCond .ne 9, 3) := by decide +kernel
theorem dL_errors_671 : decode cL_errors 671 = .ok (.iload 10, 2) := by decide +kernel
theorem dL_errors_673 : decode cL_errors 673 = .ok (.iload_n 3, 1) := by decide +kernel
theorem dL_errors_674 : decode cL_errors 674 = .ok (.if_icmp .ge 16, 3) := by decide +kernel
theorem dL_errors_677 : decode cL_errors 677 = .ok (.aload_n 0, 1) := by decide +kernel
theorem dL_errors_678 : decode cL_errors 678 = .ok (.iload 8, 2) := by decide +kernel
theorem dL_errors_680 : decode cL_errors 680 = .ok (.invokestatic 136, 3) := by decide +kernel
theorem dL_errors_683 : decode cL_errors 683 = .ok (.ldc2_w 21, 3) := by decide +kernel
theorem dL_errors_686 : decode cL_errors 686 = .ok (.lcmp, 1) := by decide +kernel
theorem dL_errors_687 : decode cL_errors 687 = .ok (.ifCond .ne 7, 3) := by decide +kernel
theorem dL_errors_690 : decode cL_errors 690 = .ok (.iconst 1, 1) := by decide +kernel
theorem dL_errors_691 : decode cL_errors 691 = .ok (.goto 4, 3) := by decide +kernel
theorem dL_errors_694 : decode cL_errors 694 = .ok (.iconst 0, 1) := by decide +kernel
theorem dL_errors_695 : decode cL_errors 695 = .ok (.istore 7, 2) := by decide +kernel
theorem dL_errors_697 : decode cL_errors 697 = .ok (.iinc 8 1, 3) := by decide +kernel
theorem dL_errors_700 : decode cL_errors 700 = .ok (.goto (-129), 3) := by decide +kernel
theorem dL_errors_703 : decode cL_errors 703 = .ok (.iconst 0, 1) := by decide +kernel
theorem dL_errors_704 : decode cL_errors 704 = .ok (.istore 8, 2) := by decide +kernel
theorem dL_errors_706 : decode cL_errors 706 = .ok (.iload 8, 2) := by decide +kernel
theorem dL_errors_708 : decode cL_errors 708 = .ok (.iload 4, 2) := by decide +kernel
theorem dL_errors_710 : decode cL_errors 710 = .ok (.if_icmp .ge 49, 3) := by decide +kernel
theorem dL_errors_713 : decode cL_errors 713 = .ok (.iload 7, 2) := by decide +kernel
theorem dL_errors_715 : decode cL_errors 715 = .ok (.ifCond .eq 44, 3) := by decide +kernel
theorem dL_errors_718 : decode cL_errors 718 = .ok (.aload_n 0, 1) := by decide +kernel
theorem dL_errors_719 : decode cL_errors 719 = .ok (.iload 8, 2) := by decide +kernel
theorem dL_errors_721 : decode cL_errors 721 = .ok (.iconst 4, 1) := by decide +kernel
theorem dL_errors_722 : decode cL_errors 722 = .ok (.invokestatic 111, 3) := by decide +kernel
theorem dL_errors_725 : decode cL_errors 725 = .ok (.ldc2_w 151, 3) := by decide +kernel
theorem dL_errors_728 : decode cL_errors 728 = .ok (.lcmp, 1) := by decide +kernel
theorem dL_errors_729 : decode cL_errors 729 = .ok (.ifCond .ne 17, 3) := by decide +kernel
theorem dL_errors_732 : decode cL_errors 732 = .ok (.aload_n 0, 1) := by decide +kernel
theorem dL_errors_733 : decode cL_errors 733 = .ok (.iload 8, 2) := by decide +kernel
theorem dL_errors_735 : decode cL_errors 735 = .ok (.iconst 0, 1) := by decide +kernel
theorem dL_errors_736 : decode cL_errors 736 = .ok (.invokestatic 138, 3) := by decide +kernel
theorem dL_errors_739 : decode cL_errors 739 = .ok (.ldc2_w 21, 3) := by decide +kernel
theorem dL_errors_742 : decode cL_errors 742 = .ok (.lcmp, 1) := by decide +kernel
theorem dL_errors_743 : decode cL_errors 743 = .ok (.ifCond .ne 7, 3) := by decide +kernel
theorem dL_errors_746 : decode cL_errors 746 = .ok (.iconst 1, 1) := by decide +kernel
theorem dL_errors_747 : decode cL_errors 747 = .ok (.goto 4, 3) := by decide +kernel
theorem dL_errors_750 : decode cL_errors 750 = .ok (.iconst 0, 1) := by decide +kernel
theorem dL_errors_751 : decode cL_errors 751 = .ok (.istore 7, 2) := by decide +kernel
theorem dL_errors_753 : decode cL_errors 753 = .ok (.iinc 8 1, 3) := by decide +kernel
theorem dL_errors_756 : decode cL_errors 756 = .ok (.goto (-50), 3) := by decide +kernel
theorem dL_errors_759 : decode cL_errors 759 = .ok (.iload 7, 2) := by decide +kernel
theorem dL_errors_761 : decode cL_errors 761 = .ok (.ifCond .eq 93, 3) := by decide +kernel
theorem dL_errors_764 : decode cL_errors 764 = .ok (.aload_n 0, 1) := by decide +kernel
theorem dL_errors_765 : decode cL_errors 765 = .ok (.iconst 0, 1) := by decide +kernel
theorem dL_errors_766 : decode cL_errors 766 = .ok (.lconst 0, 1) := by decide +kernel
theorem dL_errors_767 : decode cL_errors 767 = .ok (.invokestatic 153, 3) := by decide +kernel
theorem dL_errors_770 : decode cL_errors 770 = .ok (.ldc2_w 17, 3) := by decide +kernel
theorem dL_errors_773 : decode cL_errors 773 = .ok (.lcmp, 1) := by decide +kernel
theorem dL_errors_774 : decode cL_errors 774 = .ok (.ifCond .ne 80, 3) := by decide +kernel
theorem dL_errors_777 : decode cL_errors 777 = .ok (.aload_n 0, 1) := by decide +kernel
theorem dL_errors_778 : decode cL_errors 778 = .ok (.iconst 3, 1) := by decide +kernel
theorem dL_errors_779 : decode cL_errors 779 = .ok (.ldc2_w 157, 3) := by decide +kernel
theorem dL_errors_782 : decode cL_errors 782 = .ok (.invokestatic 153, 3) := by decide +kernel
theorem dL_errors_785 : decode cL_errors 785 = .ok (.ldc2_w 17, 3) := by decide +kernel
theorem dL_errors_788 : decode cL_errors 788 = .ok (.lcmp, 1) := by decide +kernel
theorem dL_errors_789 : decode cL_errors 789 = .ok (.ifCond .ne 65, 3) := by decide +kernel
theorem dL_errors_792 : decode cL_errors 792 = .ok (.aload_n 0, 1) := by decide +kernel
theorem dL_errors_793 : decode cL_errors 793 = .ok (.lconst 1, 1) := by decide +kernel
theorem dL_errors_794 : decode cL_errors 794 = .ok (.iconst 0, 1) := by decide +kernel
theorem dL_errors_795 : decode cL_errors 795 = .ok (.invokestatic 159, 3) := by decide +kernel
theorem dL_errors_798 : decode cL_errors 798 = .ok (.ldc2_w 17, 3) := by decide +kernel
theorem dL_errors_801 : decode cL_errors 801 = .ok (.lcmp, 1) := by decide +kernel
theorem dL_errors_802 : decode cL_errors 802 = .ok (.ifCond .ne 52, 3) := by decide +kernel
theorem dL_errors_805 : decode cL_errors 805 = .ok (.aload_n 0, 1) := by decide +kernel
theorem dL_errors_806 : decode cL_errors 806 = .ok (.iconst 2, 1) := by decide +kernel
theorem dL_errors_807 : decode cL_errors 807 = .ok (.invokestatic 162, 3) := by decide +kernel
theorem dL_errors_810 : decode cL_errors 810 = .ok (.ldc2_w 36, 3) := by decide +kernel
theorem dL_errors_813 : decode cL_errors 813 = .ok (.lcmp, 1) := by decide +kernel
theorem dL_errors_814 : decode cL_errors 814 = .ok (.ifCond .ne 40, 3) := by decide +kernel
theorem dL_errors_817 : decode cL_errors 817 = .ok (.aload_n 0, 1) := by decide +kernel
theorem dL_errors_818 : decode cL_errors 818 = .ok (.iconst 2, 1) := by decide +kernel
theorem dL_errors_819 : decode cL_errors 819 = .ok (.invokestatic 164, 3) := by decide +kernel
theorem dL_errors_822 : decode cL_errors 822 = .ok (.ldc2_w 36, 3) := by decide +kernel
theorem dL_errors_825 : decode cL_errors 825 = .ok (.lcmp, 1) := by decide +kernel
theorem dL_errors_826 : decode cL_errors 826 = .ok (.ifCond .ne 28, 3) := by decide +kernel
theorem dL_errors_829 : decode cL_errors 829 = .ok (.aload_n 0, 1) := by decide +kernel
theorem dL_errors_830 : decode cL_errors 830 = .ok (.iconst (-1), 1) := by decide +kernel
theorem dL_errors_831 : decode cL_errors 831 = .ok (.invokestatic 166, 3) := by decide +kernel
theorem dL_errors_834 : decode cL_errors 834 = .ok (.ldc2_w 17, 3) := by decide +kernel
theorem dL_errors_837 : decode cL_errors 837 = .ok (.lcmp, 1) := by decide +kernel
theorem dL_errors_838 : decode cL_errors 838 = .ok (.ifCond .ne 16, 3) := by decide +kernel
theorem dL_errors_841 : decode cL_errors 841 = .ok (.aload_n 0, 1) := by decide +kernel
theorem dL_errors_842 : decode cL_errors 842 = .ok (.invokestatic 120, 3) := by decide +kernel
theorem dL_errors_845 : decode cL_errors 845 = .ok (.lload_n 1, 1) := by decide +kernel
theorem dL_errors_846 : decode cL_errors 846 = .ok (.lcmp, 1) := by decide +kernel
theorem dL_errors_847 : decode cL_errors 847 = .ok (.ifCond .ne 7, 3) := by decide +kernel
theorem dL_errors_850 : decode cL_errors 850 = .ok (.iconst 1, 1) := by decide +kernel
theorem dL_errors_851 : decode cL_errors 851 = .ok (.goto 4, 3) := by decide +kernel
theorem dL_errors_854 : decode cL_errors 854 = .ok (.iconst 0, 1) := by decide +kernel
theorem dL_errors_855 : decode cL_errors 855 = .ok (.ireturn, 1) := by decide +kernel
theorem dL_kept_0 : decode cL_kept 0 = .ok (.aload_n 0, 1) := by decide +kernel
theorem dL_kept_1 : decode cL_kept 1 = .ok (.iconst 0, 1) := by decide +kernel
theorem dL_kept_2 : decode cL_kept 2 = .ok (.invokestatic 104, 3) := by decide +kernel
theorem dL_kept_5 : decode cL_kept 5 = .ok (.l2i, 1) := by decide +kernel
theorem dL_kept_6 : decode cL_kept 6 = .ok (.istore_n 1, 1) := by decide +kernel
theorem dL_kept_7 : decode cL_kept 7 = .ok (.aload_n 0, 1) := by decide +kernel
theorem dL_kept_8 : decode cL_kept 8 = .ok (.iconst 1, 1) := by decide +kernel
theorem dL_kept_9 : decode cL_kept 9 = .ok (.invokestatic 104, 3) := by decide +kernel
theorem dL_kept_12 : decode cL_kept 12 = .ok (.l2i, 1) := by decide +kernel
theorem dL_kept_13 : decode cL_kept 13 = .ok (.istore_n 2, 1) := by decide +kernel
theorem dL_kept_14 : decode cL_kept 14 = .ok (.aload_n 0, 1) := by decide +kernel
theorem dL_kept_15 : decode cL_kept 15 = .ok (.iconst 3, 1) := by decide +kernel
theorem dL_kept_16 : decode cL_kept 16 = .ok (.invokestatic 104, 3) := by decide +kernel
theorem dL_kept_19 : decode cL_kept 19 = .ok (.l2i, 1) := by decide +kernel
theorem dL_kept_20 : decode cL_kept 20 = .ok (.istore_n 3, 1) := by decide +kernel
theorem dL_kept_21 : decode cL_kept 21 = .ok (.iload_n 1, 1) := by decide +kernel
theorem dL_kept_22 : decode cL_kept 22 = .ok (.i2l, 1) := by decide +kernel
theorem dL_kept_23 : decode cL_kept 23 = .ok (.lconst 0, 1) := by decide +kernel
theorem dL_kept_24 : decode cL_kept 24 = .ok (.ldc2_w 168, 3) := by decide +kernel
theorem dL_kept_27 : decode cL_kept 27 = .ok (.invokestatic 170, 3) := by decide +kernel
theorem dL_kept_30 : decode cL_kept 30 = .ok (.ifCond .eq 147, 3) := by decide +kernel
theorem dL_kept_33 : decode cL_kept 33 = .ok (.iload_n 2, 1) := by decide +kernel
theorem dL_kept_34 : decode cL_kept 34 = .ok (.i2l, 1) := by decide +kernel
theorem dL_kept_35 : decode cL_kept 35 = .ok (.lconst 0, 1) := by decide +kernel
theorem dL_kept_36 : decode cL_kept 36 = .ok (.ldc2_w 174, 3) := by decide +kernel
theorem dL_kept_39 : decode cL_kept 39 = .ok (.invokestatic 170, 3) := by decide +kernel
theorem dL_kept_42 : decode cL_kept 42 = .ok (.ifCond .eq 135, 3) := by decide +kernel
theorem dL_kept_45 : decode cL_kept 45 = .ok (.aload_n 0, 1) := by decide +kernel
theorem dL_kept_46 : decode cL_kept 46 = .ok (.iconst 2, 1) := by decide +kernel
theorem dL_kept_47 : decode cL_kept 47 = .ok (.invokestatic 104, 3) := by decide +kernel
theorem dL_kept_50 : decode cL_kept 50 = .ok (.lconst 0, 1) := by decide +kernel
theorem dL_kept_51 : decode cL_kept 51 = .ok (.ldc2_w 176, 3) := by decide +kernel
theorem dL_kept_54 : decode cL_kept 54 = .ok (.invokestatic 170, 3) := by decide +kernel
theorem dL_kept_57 : decode cL_kept 57 = .ok (.ifCond .eq 120, 3) := by decide +kernel
theorem dL_kept_60 : decode cL_kept 60 = .ok (.iload_n 3, 1) := by decide +kernel
theorem dL_kept_61 : decode cL_kept 61 = .ok (.i2l, 1) := by decide +kernel
theorem dL_kept_62 : decode cL_kept 62 = .ok (.lconst 0, 1) := by decide +kernel
theorem dL_kept_63 : decode cL_kept 63 = .ok (.ldc2_w 178, 3) := by decide +kernel
theorem dL_kept_66 : decode cL_kept 66 = .ok (.invokestatic 170, 3) := by decide +kernel
theorem dL_kept_69 : decode cL_kept 69 = .ok (.ifCond .eq 108, 3) := by decide +kernel
theorem dL_kept_72 : decode cL_kept 72 = .ok (.aload_n 0, 1) := by decide +kernel
theorem dL_kept_73 : decode cL_kept 73 = .ok (.bipush 8, 2) := by decide +kernel
theorem dL_kept_75 : decode cL_kept 75 = .ok (.invokestatic 104, 3) := by decide +kernel
theorem dL_kept_78 : decode cL_kept 78 = .ok (.aload_n 0, 1) := by decide +kernel
theorem dL_kept_79 : decode cL_kept 79 = .ok (.iconst 5, 1) := by decide +kernel
theorem dL_kept_80 : decode cL_kept 80 = .ok (.invokestatic 104, 3) := by decide +kernel
theorem dL_kept_83 : decode cL_kept 83 = .ok (.aload_n 0, 1) := by decide +kernel
theorem dL_kept_84 : decode cL_kept 84 = .ok (.bipush 6, 2) := by decide +kernel
theorem dL_kept_86 : decode cL_kept 86 = .ok (.invokestatic 104, 3) := by decide +kernel
theorem dL_kept_89 : decode cL_kept 89 = .ok (.lsub, 1) := by decide +kernel
theorem dL_kept_90 : decode cL_kept 90 = .ok (.aload_n 0, 1) := by decide +kernel
theorem dL_kept_91 : decode cL_kept 91 = .ok (.bipush 7, 2) := by decide +kernel
theorem dL_kept_93 : decode cL_kept 93 = .ok (.invokestatic 104, 3) := by decide +kernel
theorem dL_kept_96 : decode cL_kept 96 = .ok (.lsub, 1) := by decide +kernel
theorem dL_kept_97 : decode cL_kept 97 = .ok (.lcmp, 1) := by decide +kernel
theorem dL_kept_98 : decode cL_kept 98 = .ok (.ifCond .ne 79, 3) := by decide +kernel
theorem dL_kept_101 : decode cL_kept 101 = .ok (.aload_n 0, 1) := by decide +kernel
theorem dL_kept_102 : decode cL_kept 102 = .ok (.bipush 8, 2) := by decide +kernel
theorem dL_kept_104 : decode cL_kept 104 = .ok (.invokestatic 104, 3) := by decide +kernel
theorem dL_kept_107 : decode cL_kept 107 = .ok (.lconst 0, 1) := by decide +kernel
theorem dL_kept_108 : decode cL_kept 108 = .ok (.iload_n 1, 1) := by decide +kernel
theorem dL_kept_109 : decode cL_kept 109 = .ok (.i2l, 1) := by decide +kernel
theorem dL_kept_110 : decode cL_kept 110 = .ok (.invokestatic 170, 3) := by decide +kernel
theorem dL_kept_113 : decode cL_kept 113 = .ok (.ifCond .eq 64, 3) := by decide +kernel
theorem dL_kept_116 : decode cL_kept 116 = .ok (.aload_n 0, 1) := by decide +kernel
theorem dL_kept_117 : decode cL_kept 117 = .ok (.bipush 9, 2) := by decide +kernel
theorem dL_kept_119 : decode cL_kept 119 = .ok (.invokestatic 104, 3) := by decide +kernel
theorem dL_kept_122 : decode cL_kept 122 = .ok (.aload_n 0, 1) := by decide +kernel
theorem dL_kept_123 : decode cL_kept 123 = .ok (.bipush 8, 2) := by decide +kernel
theorem dL_kept_125 : decode cL_kept 125 = .ok (.invokestatic 104, 3) := by decide +kernel
theorem dL_kept_128 : decode cL_kept 128 = .ok (.lcmp, 1) := by decide +kernel
theorem dL_kept_129 : decode cL_kept 129 = .ok (.ifCond .lt 48, 3) := by decide +kernel
theorem dL_kept_132 : decode cL_kept 132 = .ok (.aload_n 0, 1) := by decide +kernel
theorem dL_kept_133 : decode cL_kept 133 = .ok (.bipush 9, 2) := by decide +kernel
theorem dL_kept_135 : decode cL_kept 135 = .ok (.invokestatic 104, 3) := by decide +kernel
theorem dL_kept_138 : decode cL_kept 138 = .ok (.iload_n 2, 1) := by decide +kernel
theorem dL_kept_139 : decode cL_kept 139 = .ok (.i2l, 1) := by decide +kernel
theorem dL_kept_140 : decode cL_kept 140 = .ok (.aload_n 0, 1) := by decide +kernel
theorem dL_kept_141 : decode cL_kept 141 = .ok (.bipush 8, 2) := by decide +kernel
theorem dL_kept_143 : decode cL_kept 143 = .ok (.invokestatic 104, 3) := by decide +kernel
theorem dL_kept_146 : decode cL_kept 146 = .ok (.lmul, 1) := by decide +kernel
theorem dL_kept_147 : decode cL_kept 147 = .ok (.lcmp, 1) := by decide +kernel
theorem dL_kept_148 : decode cL_kept 148 = .ok (.ifCond .gt 29, 3) := by decide +kernel
theorem dL_kept_151 : decode cL_kept 151 = .ok (.aload_n 0, 1) := by decide +kernel
theorem dL_kept_152 : decode cL_kept 152 = .ok (.bipush 6, 2) := by decide +kernel
theorem dL_kept_154 : decode cL_kept 154 = .ok (.invokestatic 104, 3) := by decide +kernel
theorem dL_kept_157 : decode cL_kept 157 = .ok (.lconst 0, 1) := by decide +kernel
theorem dL_kept_158 : decode cL_kept 158 = .ok (.lcmp, 1) := by decide +kernel
theorem dL_kept_159 : decode cL_kept 159 = .ok (.ifCond .lt 18, 3) := by decide +kernel
theorem dL_kept_162 : decode cL_kept 162 = .ok (.aload_n 0, 1) := by decide +kernel
theorem dL_kept_163 : decode cL_kept 163 = .ok (.bipush 7, 2) := by decide +kernel
theorem dL_kept_165 : decode cL_kept 165 = .ok (.invokestatic 104, 3) := by decide +kernel
theorem dL_kept_168 : decode cL_kept 168 = .ok (.lconst 0, 1) := by decide +kernel
theorem dL_kept_169 : decode cL_kept 169 = .ok (.lcmp, 1) := by decide +kernel
theorem dL_kept_170 : decode cL_kept 170 = .ok (.ifCond .lt 7, 3) := by decide +kernel
theorem dL_kept_173 : decode cL_kept 173 = .ok (.iconst 1, 1) := by decide +kernel
theorem dL_kept_174 : decode cL_kept 174 = .ok (.goto 4, 3) := by decide +kernel
theorem dL_kept_177 : decode cL_kept 177 = .ok (.iconst 0, 1) := by decide +kernel
theorem dL_kept_178 : decode cL_kept 178 = .ok (.istore 4, 2) := by decide +kernel
theorem dL_kept_180 : decode cL_kept 180 = .ok (.lconst 0, 1) := by decide +kernel
theorem dL_kept_181 : decode cL_kept 181 = .ok (.lstore 5, 2) := by decide +kernel
theorem dL_kept_183 : decode cL_kept 183 = .ok (.iconst 0, 1) := by decide +kernel
theorem dL_kept_184 : decode cL_kept 184 = .ok (.istore 7, 2) := by decide +kernel
theorem dL_kept_186 : decode cL_kept 186 = .ok (.iload 7, 2) := by decide +kernel
theorem dL_kept_188 : decode cL_kept 188 = .ok (.iload_n 3, 1) := by decide +kernel
theorem dL_kept_189 : decode cL_kept 189 = .ok (.if_icmp .ge 308, 3) := by decide +kernel
theorem dL_kept_192 : decode cL_kept 192 = .ok (.iload 4, 2) := by decide +kernel
theorem dL_kept_194 : decode cL_kept 194 = .ok (.ifCond .eq 303, 3) := by decide +kernel
theorem dL_kept_197 : decode cL_kept 197 = .ok (.aload_n 0, 1) := by decide +kernel
theorem dL_kept_198 : decode cL_kept 198 = .ok (.iload 7, 2) := by decide +kernel
theorem dL_kept_200 : decode cL_kept 200 = .ok (.iconst 2, 1) := by decide +kernel
theorem dL_kept_201 : decode cL_kept 201 = .ok (.invokestatic 118, 3) := by decide +kernel
theorem dL_kept_204 : decode cL_kept 204 = .ok (.l2i, 1) := by decide +kernel
theorem dL_kept_205 : decode cL_kept 205 = .ok (.istore 8, 2) := by decide +kernel
theorem dL_kept_207 : decode cL_kept 207 = .ok (.iload 8, 2) := by decide +kernel
theorem dL_kept_209 : decode cL_kept 209 = .ok (.aload_n 0, 1) := by decide +kernel
theorem dL_kept_210 : decode cL_kept 210 = .ok (.iload 7, 2) := by decide +kernel
theorem dL_kept_212 : decode cL_kept 212 = .ok (.iconst 3, 1) := by decide +kernel
theorem dL_kept_213 : decode cL_kept 213 = .ok (.invokestatic 118, 3) := by decide +kernel
theorem dL_kept_216 : decode cL_kept 216 = .ok (.l2i, 1) := by decide +kernel
theorem dL_kept_217 : decode cL_kept 217 = .ok (.iadd, 1) := by decide +kernel
theorem dL_kept_218 : decode cL_kept 218 = .ok (.istore 9, 2) := by decide +kernel
theorem dL_kept_220 : decode cL_kept 220 = .ok (.lload 5, 2) := by decide +kernel
theorem dL_kept_222 : decode cL_kept 222 = .ok (.aload_n 0, 1) := by decide +kernel
theorem dL_kept_223 : decode cL_kept 223 = .ok (.iload 7, 2) := by decide +kernel
theorem dL_kept_225 : decode cL_kept 225 = .ok (.iconst 5, 1) := by decide +kernel
theorem dL_kept_226 : decode cL_kept 226 = .ok (.invokestatic 118, 3) := by decide +kernel
theorem dL_kept_229 : decode cL_kept 229 = .ok (.aload_n 0, 1) := by decide +kernel
theorem dL_kept_230 : decode cL_kept 230 = .ok (.iload 7, 2) := by decide +kernel
theorem dL_kept_232 : decode cL_kept 232 = .ok (.bipush 6, 2) := by decide +kernel
theorem dL_kept_234 : decode cL_kept 234 = .ok (.invokestatic 118, 3) := by decide +kernel
theorem dL_kept_237 : decode cL_kept 237 = .ok (.ladd, 1) := by decide +kernel
theorem dL_kept_238 : decode cL_kept 238 = .ok (.ladd, 1) := by decide +kernel
theorem dL_kept_239 : decode cL_kept 239 = .ok (.lstore 5, 2) := by decide +kernel
theorem dL_kept_241 : decode cL_kept 241 = .ok (.aload_n 0, 1) := by decide +kernel
theorem dL_kept_242 : decode cL_kept 242 = .ok (.iload 7, 2) := by decide +kernel
theorem dL_kept_244 : decode cL_kept 244 = .ok (.iconst 0, 1) := by decide +kernel
theorem dL_kept_245 : decode cL_kept 245 = .ok (.invokestatic 118, 3) := by decide +kernel
theorem dL_kept_248 : decode cL_kept 248 = .ok (.lconst 0, 1) := by decide +kernel
theorem dL_kept_249 : decode cL_kept 249 = .ok (.iload_n 2, 1) := by decide +kernel
theorem dL_kept_250 : decode cL_kept 250 = .ok (.iconst 1, 1) := by decide +kernel
theorem dL_kept_251 : decode cL_kept 251 = .ok (.isub, 1) := by decide +kernel
theorem dL_kept_252 : decode cL_kept 252 = .ok (.i2l, 1) := by decide +kernel
theorem dL_kept_253 : decode cL_kept 253 = .ok (.invokestatic 170, 3) := by decide +kernel
theorem dL_kept_256 : decode cL_kept 256 = .ok (.ifCond .eq 151, 3) := by decide +kernel
theorem dL_kept_259 : decode cL_kept 259 = .ok (.iload 8, 2) := by decide +kernel
theorem dL_kept_261 : decode cL_kept 261 = .ok (.i2l, 1) := by decide +kernel
theorem dL_kept_262 : decode cL_kept 262 = .ok (.lconst 0, 1) := by decide +kernel
theorem dL_kept_263 : decode cL_kept 263 = .ok (.ldc2_w 180, 3) := by decide +kernel
theorem dL_kept_266 : decode cL_kept 266 = .ok (.invokestatic 170, 3) := by decide +kernel
theorem dL_kept_269 : decode cL_kept 269 = .ok (.ifCond .eq 138, 3) := by decide +kernel
theorem dL_kept_272 : decode cL_kept 272 = .ok (.aload_n 0, 1) := by decide +kernel
theorem dL_kept_273 : decode cL_kept 273 = .ok (.iload 7, 2) := by decide +kernel
theorem dL_kept_275 : decode cL_kept 275 = .ok (.iconst 4, 1) := by decide +kernel
theorem dL_kept_276 : decode cL_kept 276 = .ok (.invokestatic 118, 3) := by decide +kernel
theorem dL_kept_279 : decode cL_kept 279 = .ok (.ldc2_w 178, 3) := by decide +kernel
theorem dL_kept_282 : decode cL_kept 282 = .ok (.ldc2_w 182, 3) := by decide +kernel
theorem dL_kept_285 : decode cL_kept 285 = .ok (.invokestatic 170, 3) := by decide +kernel
theorem dL_kept_288 : decode cL_kept 288 = .ok (.ifCond .eq 119, 3) := by decide +kernel
theorem dL_kept_291 : decode cL_kept 291 = .ok (.aload_n 0, 1) := by decide +kernel
theorem dL_kept_292 : decode cL_kept 292 = .ok (.iload 7, 2) := by decide +kernel
theorem dL_kept_294 : decode cL_kept 294 = .ok (.bipush 9, 2) := by decide +kernel
theorem dL_kept_296 : decode cL_kept 296 = .ok (.invokestatic 118, 3) := by decide +kernel
theorem dL_kept_299 : decode cL_kept 299 = .ok (.iload_n 1, 1) := by decide +kernel
theorem dL_kept_300 : decode cL_kept 300 = .ok (.iload 9, 2) := by decide +kernel
theorem dL_kept_302 : decode cL_kept 302 = .ok (.if_icmp .lt 7, 3) := by decide +kernel
theorem dL_kept_305 : decode cL_kept 305 = .ok (.lconst 1, 1) := by decide +kernel
theorem dL_kept_306 : decode cL_kept 306 = .ok (.goto 4, 3) := by decide +kernel
theorem dL_kept_309 : decode cL_kept 309 = .ok (.lconst 0, 1) := by decide +kernel
theorem dL_kept_310 : decode cL_kept 310 = .ok (.lcmp, 1) := by decide +kernel
theorem dL_kept_311 : decode cL_kept 311 = .ok (.ifCond .ne 96, 3) := by decide +kernel
theorem dL_kept_314 : decode cL_kept 314 = .ok (.aload_n 0, 1) := by decide +kernel
theorem dL_kept_315 : decode cL_kept 315 = .ok (.iload 7, 2) := by decide +kernel
theorem dL_kept_317 : decode cL_kept 317 = .ok (.bipush 8, 2) := by decide +kernel
theorem dL_kept_319 : decode cL_kept 319 = .ok (.invokestatic 118, 3) := by decide +kernel
theorem dL_kept_322 : decode cL_kept 322 = .ok (.lconst 0, 1) := by decide +kernel
theorem dL_kept_323 : decode cL_kept 323 = .ok (.iload_n 1, 1) := by decide +kernel
theorem dL_kept_324 : decode cL_kept 324 = .ok (.iload 9, 2) := by decide +kernel
theorem dL_kept_326 : decode cL_kept 326 = .ok (.if_icmp .le 12, 3) := by decide +kernel
theorem dL_kept_329 : decode cL_kept 329 = .ok (.iload 9, 2) := by decide +kernel
theorem dL_kept_331 : decode cL_kept 331 = .ok (.iload 8, 2) := by decide +kernel
theorem dL_kept_333 : decode cL_kept 333 = .ok (.isub, 1) := by decide +kernel
theorem dL_kept_334 : decode cL_kept 334 = .ok (.i2l, 1) := by decide +kernel
theorem dL_kept_335 : decode cL_kept 335 = .ok (.goto 18, 3) := by decide +kernel
theorem dL_kept_338 : decode cL_kept 338 = .ok (.iload_n 1, 1) := by decide +kernel
theorem dL_kept_339 : decode cL_kept 339 = .ok (.iload 8, 2) := by decide +kernel
theorem dL_kept_341 : decode cL_kept 341 = .ok (.if_icmp .le 11, 3) := by decide +kernel
theorem dL_kept_344 : decode cL_kept 344 = .ok (.iload_n 1, 1) := by decide +kernel
theorem dL_kept_345 : decode cL_kept 345 = .ok (.iload 8, 2) := by decide +kernel
theorem dL_kept_347 : decode cL_kept 347 = .ok (.isub, 1) := by decide +kernel
theorem dL_kept_348 : decode cL_kept 348 = .ok (.i2l, 1) := by decide +kernel
theorem dL_kept_349 : decode cL_kept 349 = .ok (.goto 4, 3) := by decide +kernel
theorem dL_kept_352 : decode cL_kept 352 = .ok (.lconst 0, 1) := by decide +kernel
theorem dL_kept_353 : decode cL_kept 353 = .ok (.invokestatic 170, 3) := by decide +kernel
theorem dL_kept_356 : decode cL_kept 356 = .ok (.ifCond .eq 51, 3) := by decide +kernel
theorem dL_kept_359 : decode cL_kept 359 = .ok (.aload_n 0, 1) := by decide +kernel
theorem dL_kept_360 : decode cL_kept 360 = .ok (.iload 7, 2) := by decide +kernel
theorem dL_kept_362 : decode cL_kept 362 = .ok (.bipush 7, 2) := by decide +kernel
theorem dL_kept_364 : decode cL_kept 364 = .ok (.invokestatic 118, 3) := by decide +kernel
theorem dL_kept_367 : decode cL_kept 367 = .ok (.lconst 0, 1) := by decide +kernel
theorem dL_kept_368 : decode cL_kept 368 = .ok (.lcmp, 1) := by decide +kernel
theorem dL_kept_369 : decode cL_kept 369 = .ok (.ifCond .eq 15, 3) := by decide +kernel
theorem dL_kept_372 : decode cL_kept 372 = .ok (.iload_n 1, 1) := by decide +kernel
theorem dL_kept_373 : decode cL_kept 373 = .ok (.iload 8, 2) := by decide +kernel
theorem dL_kept_375 : decode cL_kept 375 = .ok (.if_icmp .lt 32, 3) := by decide +kernel
theorem dL_kept_378 : decode cL_kept 378 = .ok (.iload_n 1, 1) := by decide +kernel
theorem dL_kept_379 : decode cL_kept 379 = .ok (.iload 9, 2) := by decide +kernel
theorem dL_kept_381 : decode cL_kept 381 = .ok (.if_icmp .ge 26, 3) := by decide +kernel
theorem dL_kept_384 : decode cL_kept 384 = .ok (.iload_n 1, 1) := by decide +kernel
theorem dL_kept_385 : decode cL_kept 385 = .ok (.iload 8, 2) := by decide +kernel
theorem dL_kept_387 : decode cL_kept 387 = .ok (.if_icmp .gt 16, 3) := by decide +kernel
theorem dL_kept_390 : decode cL_kept 390 = .ok (.aload_n 0, 1) := by decide +kernel
theorem dL_kept_391 : decode cL_kept 391 = .ok (.iload 7, 2) := by decide +kernel
theorem dL_kept_393 : decode cL_kept 393 = .ok (.bipush 6, 2) := by decide +kernel
theorem dL_kept_395 : decode cL_kept 395 = .ok (.invokestatic 118, 3) := by decide +kernel
theorem dL_kept_398 : decode cL_kept 398 = .ok (.lconst 0, 1) := by decide +kernel
theorem dL_kept_399 : decode cL_kept 399 = .ok (.lcmp, 1) := by decide +kernel
theorem dL_kept_400 : decode cL_kept 400 = .ok (.ifCond .ne 7, 3) := by decide +kernel
theorem dL_kept_403 : decode cL_kept 403 = .ok (.iconst 1, 1) := by decide +kernel
theorem dL_kept_404 : decode cL_kept 404 = .ok (.goto 4, 3) := by decide +kernel
theorem dL_kept_407 : decode cL_kept 407 = .ok (.iconst 0, 1) := by decide +kernel
theorem dL_kept_408 : decode cL_kept 408 = .ok (.istore 4, 2) := by decide +kernel
theorem dL_kept_410 : decode cL_kept 410 = .ok (.iconst 0, 1) := by decide +kernel
theorem dL_kept_411 : decode cL_kept 411 = .ok (.istore 10, 2) := by decide +kernel
theorem dL_kept_413 : decode cL_kept 413 = .ok (.iload 10, 2) := by decide +kernel
theorem dL_kept_415 : decode cL_kept 415 = .ok (.iload 7, 2) := by decide +kernel
theorem dL_kept_417 : decode cL_kept 417 = .ok (.if_icmp .ge 74, 3) := by decide +kernel
theorem dL_kept_420 : decode cL_kept 420 = .ok (.iload 4, 2) := by decide +kernel
theorem dL_kept_422 : decode cL_kept 422 = .ok (.ifCond .eq 69, 3) := by decide +kernel
theorem dL_kept_425 : decode cL_kept 425 = .ok (.aload_n 0, 1) := by decide +kernel
theorem dL_kept_426 : decode cL_kept 426 = .ok (.iload 10, 2) := by decide +kernel
theorem dL_kept_428 : decode cL_kept 428 = .ok (.iconst 2, 1) := by decide +kernel
theorem dL_kept_429 : decode cL_kept 429 = .ok (.invokestatic 118, 3) := by decide +kernel
theorem dL_kept_432 : decode cL_kept 432 = .ok (.l2i, 1) := by decide +kernel
theorem dL_kept_433 : decode cL_kept 433 = .ok (.istore 11, 2) := by decide +kernel
theorem dL_kept_435 : decode cL_kept 435 = .ok (.aload_n 0, 1) := by decide +kernel
theorem dL_kept_436 : decode cL_kept 436 = .ok (.iload 10, 2) := by decide +kernel
theorem dL_kept_438 : decode cL_kept 438 = .ok (.iconst 0, 1) := by decide +kernel
theorem dL_kept_439 : decode cL_kept 439 = .ok (.invokestatic 118, 3) := by decide +kernel
theorem dL_kept_442 : decode cL_kept 442 = .ok (.aload_n 0, 1) := by decide +kernel
theorem dL_kept_443 : decode cL_kept 443 = .ok (.iload 7, 2) := by decide +kernel
theorem dL_kept_445 : decode cL_kept 445 = .ok (.iconst 0, 1) := by decide +kernel
theorem dL_kept_446 : decode cL_kept 446 = .ok (.invokestatic 118, 3) := by decide +kernel
theorem dL_kept_449 : decode cL_kept 449 = .ok (.lcmp, 1) := by decide +kernel
theorem dL_kept_450 : decode cL_kept 450 = .ok (.ifCond .ne 28, 3) := by decide +kernel
theorem dL_kept_453 : decode cL_kept 453 = .ok (.iload 11, 2) := by decide +kernel
theorem dL_kept_455 : decode cL_kept 455 = .ok (.iload 9, 2) := by decide +kernel
theorem dL_kept_457 : decode cL_kept 457 = .ok (.if_icmp .ge 21, 3) := by decide +kernel
theorem dL_kept_460 : decode cL_kept 460 = .ok (.iload 11, 2) := by decide +kernel
theorem dL_kept_462 : decode cL_kept 462 = .ok (.i2l, 1) := by decide +kernel
theorem dL_kept_463 : decode cL_kept 463 = .ok (.aload_n 0, 1) := by decide +kernel
theorem dL_kept_464 : decode cL_kept 464 = .ok (.iload 10, 2) := by decide +kernel
theorem dL_kept_466 : decode cL_kept 466 = .ok (.iconst 3, 1) := by decide +kernel
theorem dL_kept_467 : decode cL_kept 467 = .ok (.invokestatic 118, 3) := by decide +kernel
theorem dL_kept_470 : decode cL_kept 470 = .ok (.ladd, 1) := by decide +kernel
theorem dL_kept_471 : decode cL_kept 471 = .ok (.iload 8, 2) := by decide +kernel
theorem dL_kept_473 : decode cL_kept 473 = .ok (.i2l, 1) := by decide +kernel
theorem dL_kept_474 : decode cL_kept 474 = .ok (.lcmp, 1) := by decide +kernel
theorem dL_kept_475 : decode cL_kept 475 = .ok (.ifCond .gt 7, 3) := by decide +kernel
theorem dL_kept_478 : decode cL_kept 478 = .ok (.iconst 1, 1) := by decide +kernel
theorem dL_kept_479 : decode cL_kept 479 = .ok (.goto 4, 3) := by decide +kernel
theorem dL_kept_482 : decode cL_kept 482 = .ok (.iconst 0, 1) := by decide +kernel
theorem dL_kept_483 : decode cL_kept 483 = .ok (.istore 4, 2) := by decide +kernel
theorem dL_kept_485 : decode cL_kept 485 = .ok (.iinc 10 1, 3) := by decide +kernel
theorem dL_kept_488 : decode cL_kept 488 = .ok (.goto (-75), 3) := by decide +kernel
theorem dL_kept_491 : decode cL_kept 491 = .ok (.iinc 7 1, 3) := by decide +kernel
theorem dL_kept_494 : decode cL_kept 494 = .ok (.goto (-308), 3) := by decide +kernel
theorem dL_kept_497 : decode cL_kept 497 = .ok (.iconst 0, 1) := by decide +kernel
theorem dL_kept_498 : decode cL_kept 498 = .ok (.istore 7, 2) := by decide +kernel
theorem dL_kept_500 : decode cL_kept 500 = .ok (.iload 7, 2) := by decide +kernel
theorem dL_kept_502 : decode cL_kept 502 = .ok (.iload_n 2, 1) := by decide +kernel
theorem dL_kept_503 : decode cL_kept 503 = .ok (.if_icmp .ge 289, 3) := by decide +kernel
theorem dL_kept_506 : decode cL_kept 506 = .ok (.iload 4, 2) := by decide +kernel
theorem dL_kept_508 : decode cL_kept 508 = .ok (.ifCond .eq 284, 3) := by decide +kernel
theorem dL_kept_511 : decode cL_kept 511 = .ok (.aload_n 0, 1) := by decide +kernel
theorem dL_kept_512 : decode cL_kept 512 = .ok (.iload 7, 2) := by decide +kernel
theorem dL_kept_514 : decode cL_kept 514 = .ok (.iconst 4, 1) := by decide +kernel
theorem dL_kept_515 : decode cL_kept 515 = .ok (.invokestatic 111, 3) := by decide +kernel
theorem dL_kept_518 : decode cL_kept 518 = .ok (.lstore 8, 2) := by decide +kernel
theorem dL_kept_520 : decode cL_kept 520 = .ok (.aload_n 0, 1) := by decide +kernel
theorem dL_kept_521 : decode cL_kept 521 = .ok (.iload 7, 2) := by decide +kernel
theorem dL_kept_523 : decode cL_kept 523 = .ok (.iconst 5, 1) := by decide +kernel
theorem dL_kept_524 : decode cL_kept 524 = .ok (.invokestatic 111, 3) := by decide +kernel
theorem dL_kept_527 : decode cL_kept 527 = .ok (.lstore 10, 2) := by decide +kernel
theorem dL_kept_529 : decode cL_kept 529 = .ok (.aload_n 0, 1) := by decide +kernel
theorem dL_kept_530 : decode cL_kept 530 = .ok (.iload 7, 2) := by decide +kernel
theorem dL_kept_532 : decode cL_kept 532 = .ok (.bipush 6, 2) := by decide +kernel
theorem dL_kept_534 : decode cL_kept 534 = .ok (.invokestatic 111, 3) := by decide +kernel
theorem dL_kept_537 : decode cL_kept 537 = .ok (.lstore 12, 2) := by decide +kernel
theorem dL_kept_539 : decode cL_kept 539 = .ok (.lload 8, 2) := by decide +kernel
theorem dL_kept_541 : decode cL_kept 541 = .ok (.ldc2_w 151, 3) := by decide +kernel
theorem dL_kept_544 : decode cL_kept 544 = .ok (.lcmp, 1) := by decide +kernel
theorem dL_kept_545 : decode cL_kept 545 = .ok (.ifCond .eq 67, 3) := by decide +kernel
theorem dL_kept_548 : decode cL_kept 548 = .ok (.aload_n 0, 1) := by decide +kernel
theorem dL_kept_549 : decode cL_kept 549 = .ok (.lload 8, 2) := by decide +kernel
theorem dL_kept_551 : decode cL_kept 551 = .ok (.l2i, 1) := by decide +kernel
theorem dL_kept_552 : decode cL_kept 552 = .ok (.iconst 0, 1) := by decide +kernel
theorem dL_kept_553 : decode cL_kept 553 = .ok (.invokestatic 118, 3) := by decide +kernel
theorem dL_kept_556 : decode cL_kept 556 = .ok (.iload 7, 2) := by decide +kernel
theorem dL_kept_558 : decode cL_kept 558 = .ok (.i2l, 1) := by decide +kernel
theorem dL_kept_559 : decode cL_kept 559 = .ok (.lcmp, 1) := by decide +kernel
theorem dL_kept_560 : decode cL_kept 560 = .ok (.ifCond .ne 146, 3) := by decide +kernel
theorem dL_kept_563 : decode cL_kept 563 = .ok (.aload_n 0, 1) := by decide +kernel
theorem dL_kept_564 : decode cL_kept 564 = .ok (.lload 8, 2) := by decide +kernel
theorem dL_kept_566 : decode cL_kept 566 = .ok (.l2i, 1) := by decide +kernel
theorem dL_kept_567 : decode cL_kept 567 = .ok (.bipush 9, 2) := by decide +kernel
theorem dL_kept_569 : decode cL_kept 569 = .ok (.invokestatic 118, 3) := by decide +kernel
theorem dL_kept_572 : decode cL_kept 572 = .ok (.lconst 0, 1) := by decide +kernel
theorem dL_kept_573 : decode cL_kept 573 = .ok (.lcmp, 1) := by decide +kernel
theorem dL_kept_574 : decode cL_kept 574 = .ok (.ifCond .ne 132, 3) := by decide +kernel
theorem dL_kept_577 : decode cL_kept 577 = .ok (.aload_n 0, 1) := by decide +kernel
theorem dL_kept_578 : decode cL_kept 578 = .ok (.lload 8, 2) := by decide +kernel
theorem dL_kept_580 : decode cL_kept 580 = .ok (.l2i, 1) := by decide +kernel
theorem dL_kept_581 : decode cL_kept 581 = .ok (.iconst 2, 1) := by decide +kernel
theorem dL_kept_582 : decode cL_kept 582 = .ok (.invokestatic 118, 3) := by decide +kernel
theorem dL_kept_585 : decode cL_kept 585 = .ok (.iload_n 1, 1) := by decide +kernel
theorem dL_kept_586 : decode cL_kept 586 = .ok (.i2l, 1) := by decide +kernel
theorem dL_kept_587 : decode cL_kept 587 = .ok (.lcmp, 1) := by decide +kernel
theorem dL_kept_588 : decode cL_kept 588 = .ok (.ifCond .gt 118, 3) := by decide +kernel
theorem dL_kept_591 : decode cL_kept 591 = .ok (.lload 12, 2) := by decide +kernel
theorem dL_kept_593 : decode cL_kept 593 = .ok (.lload 8, 2) := by decide +kernel
theorem dL_kept_595 : decode cL_kept 595 = .ok (.lcmp, 1) := by decide +kernel
theorem dL_kept_596 : decode cL_kept 596 = .ok (.ifCond .ne 110, 3) := by decide +kernel
theorem dL_kept_599 : decode cL_kept 599 = .ok (.aload_n 0, 1) := by decide +kernel
theorem dL_kept_600 : decode cL_kept 600 = .ok (.lload 8, 2) := by decide +kernel
theorem dL_kept_602 : decode cL_kept 602 = .ok (.l2i, 1) := by decide +kernel
theorem dL_kept_603 : decode cL_kept 603 = .ok (.invokestatic 147, 3) := by decide +kernel
theorem dL_kept_606 : decode cL_kept 606 = .ok (.iload_n 1, 1) := by decide +kernel
theorem dL_kept_607 : decode cL_kept 607 = .ok (.i2l, 1) := by decide +kernel
theorem dL_kept_608 : decode cL_kept 608 = .ok (.lcmp, 1) := by decide +kernel
theorem dL_kept_609 : decode cL_kept 609 = .ok (.ifCond .ne 97, 3) := by decide +kernel
theorem dL_kept_612 : decode cL_kept 612 = .ok (.lload 10, 2) := by decide +kernel
theorem dL_kept_614 : decode cL_kept 614 = .ok (.ldc2_w 151, 3) := by decide +kernel
theorem dL_kept_617 : decode cL_kept 617 = .ok (.lcmp, 1) := by decide +kernel
theorem dL_kept_618 : decode cL_kept 618 = .ok (.ifCond .eq 32, 3) := by decide +kernel
theorem dL_kept_621 : decode cL_kept 621 = .ok (.aload_n 0, 1) := by decide +kernel
theorem dL_kept_622 : decode cL_kept 622 = .ok (.lload 10, 2) := by decide +kernel
theorem dL_kept_624 : decode cL_kept 624 = .ok (.l2i, 1) := by decide +kernel
theorem dL_kept_625 : decode cL_kept 625 = .ok (.iconst 0, 1) := by decide +kernel
theorem dL_kept_626 : decode cL_kept 626 = .ok (.invokestatic 118, 3) := by decide +kernel
theorem dL_kept_629 : decode cL_kept 629 = .ok (.iload 7, 2) := by decide +kernel
theorem dL_kept_631 : decode cL_kept 631 = .ok (.i2l, 1) := by decide +kernel
theorem dL_kept_632 : decode cL_kept 632 = .ok (.lcmp, 1) := by decide +kernel
theorem dL_kept_633 : decode cL_kept 633 = .ok (.ifCond .ne 73, 3) := by decide +kernel
theorem dL_kept_636 : decode cL_kept 636 = .ok (.aload_n 0, 1) := by decide +kernel
theorem dL_kept_637 : decode cL_kept 637 = .ok (.lload 10, 2) := by decide +kernel
theorem dL_kept_639 : decode cL_kept 639 = .ok (.l2i, 1) := by decide +kernel
theorem dL_kept_640 : decode cL_kept 640 = .ok (.iconst 2, 1) := by decide +kernel
theorem dL_kept_641 : decode cL_kept 641 = .ok (.invokestatic 118, 3) := by decide +kernel
theorem dL_kept_644 : decode cL_kept 644 = .ok (.iload_n 1, 1) := by decide +kernel
theorem dL_kept_645 : decode cL_kept 645 = .ok (.i2l, 1) := by decide +kernel
theorem dL_kept_646 : decode cL_kept 646 = .ok (.lcmp, 1) := by decide +kernel
theorem dL_kept_647 : decode cL_kept 647 = .ok (.ifCond .le 59, 3) := by decide +kernel
theorem dL_kept_650 : decode cL_kept 650 = .ok (.lload 12, 2) := by decide +kernel
theorem dL_kept_652 : decode cL_kept 652 = .ok (.lload 8, 2) := by decide +kernel
theorem dL_kept_654 : decode cL_kept 654 = .ok (.lcmp, 1) := by decide +kernel
theorem dL_kept_655 : decode cL_kept 655 = .ok (.ifCond .eq 29, 3) := by decide +kernel
theorem dL_kept_658 : decode cL_kept 658 = .ok (.lload 8, 2) := by decide +kernel
theorem dL_kept_660 : decode cL_kept 660 = .ok (.ldc2_w 151, 3) := by decide +kernel
theorem dL_kept_663 : decode cL_kept 663 = .ok (.lcmp, 1) := by decide +kernel
theorem dL_kept_664 : decode cL_kept 664 = .ok (.ifCond .ne 42, 3) := by decide +kernel
theorem dL_kept_667 : decode cL_kept 667 = .ok (.lload 12, 2) := by decide +kernel
theorem dL_kept_669 : decode cL_kept 669 = .ok (.ldc2_w 151, 3) := by decide +kernel
theorem dL_kept_672 : decode cL_kept 672 = .ok (.lcmp, 1) := by decide +kernel
theorem dL_kept_673 : decode cL_kept 673 = .ok (.ifCond .eq 11, 3) := by decide +kernel
theorem dL_kept_676 : decode cL_kept 676 = .ok (.lload 12, 2) := by decide +kernel
theorem dL_kept_678 : decode cL_kept 678 = .ok (.lload 10, 2) := by decide +kernel
theorem dL_kept_680 : decode cL_kept 680 = .ok (.lcmp, 1) := by decide +kernel
theorem dL_kept_681 : decode cL_kept 681 = .ok (.ifCond .ne 25, 3) := by decide +kernel
theorem dL_kept_684 : decode cL_kept 684 = .ok (.aload_n 0, 1) := by decide +kernel
theorem dL_kept_685 : decode cL_kept 685 = .ok (.iload 7, 2) := by decide +kernel
theorem dL_kept_687 : decode cL_kept 687 = .ok (.iconst 0, 1) := by decide +kernel
theorem dL_kept_688 : decode cL_kept 688 = .ok (.invokestatic 124, 3) := by decide +kernel
theorem dL_kept_691 : decode cL_kept 691 = .ok (.aload_n 0, 1) := by decide +kernel
theorem dL_kept_692 : decode cL_kept 692 = .ok (.iload 7, 2) := by decide +kernel
theorem dL_kept_694 : decode cL_kept 694 = .ok (.iconst 3, 1) := by decide +kernel
theorem dL_kept_695 : decode cL_kept 695 = .ok (.invokestatic 111, 3) := by decide +kernel
theorem dL_kept_698 : decode cL_kept 698 = .ok (.lcmp, 1) := by decide +kernel
theorem dL_kept_699 : decode cL_kept 699 = .ok (.ifCond .ne 7, 3) := by decide +kernel
theorem dL_kept_702 : decode cL_kept 702 = .ok (.iconst 1, 1) := by decide +kernel
theorem dL_kept_703 : decode cL_kept 703 = .ok (.goto 4, 3) := by decide +kernel
theorem dL_kept_706 : decode cL_kept 706 = .ok (.iconst 0, 1) := by decide +kernel
theorem dL_kept_707 : decode cL_kept 707 = .ok (.istore 4, 2) := by decide +kernel
theorem dL_kept_709 : decode cL_kept 709 = .ok (.lload 10, 2) := by decide +kernel
theorem dL_kept_711 : decode cL_kept 711 = .ok (.ldc2_w 151, 3) := by decide +kernel
theorem dL_kept_714 : decode cL_kept 714 = .ok (.lcmp, 1) := by decide +kernel
theorem dL_kept_715 : decode cL_kept 715 = .ok (.ifCond .eq 71, 3) := by decide +kernel
theorem dL_kept_718 : decode cL_kept 718 = .ok (.iload 4, 2) := by decide +kernel
theorem dL_kept_720 : decode cL_kept 720 = .ok (.ifCond .eq 66, 3) := by decide +kernel
theorem dL_kept_723 : decode cL_kept 723 = .ok (.aload_n 0, 1) := by decide +kernel
theorem dL_kept_724 : decode cL_kept 724 = .ok (.lload 10, 2) := by decide +kernel
theorem dL_kept_726 : decode cL_kept 726 = .ok (.l2i, 1) := by decide +kernel
theorem dL_kept_727 : decode cL_kept 727 = .ok (.invokestatic 147, 3) := by decide +kernel
theorem dL_kept_730 : decode cL_kept 730 = .ok (.lstore 14, 2) := by decide +kernel
theorem dL_kept_732 : decode cL_kept 732 = .ok (.lload 14, 2) := by decide +kernel
theorem dL_kept_734 : decode cL_kept 734 = .ok (.iload_n 1, 1) := by decide +kernel
theorem dL_kept_735 : decode cL_kept 735 = .ok (.i2l, 1) := by decide +kernel
theorem dL_kept_736 : decode cL_kept 736 = .ok (.aload_n 0, 1) := by decide +kernel
theorem dL_kept_737 : decode cL_kept 737 = .ok (.lload 10, 2) := by decide +kernel
theorem dL_kept_739 : decode cL_kept 739 = .ok (.l2i, 1) := by decide +kernel
theorem dL_kept_740 : decode cL_kept 740 = .ok (.iconst 2, 1) := by decide +kernel
theorem dL_kept_741 : decode cL_kept 741 = .ok (.invokestatic 118, 3) := by decide +kernel
theorem dL_kept_744 : decode cL_kept 744 = .ok (.invokestatic 170, 3) := by decide +kernel
theorem dL_kept_747 : decode cL_kept 747 = .ok (.ifCond .eq 36, 3) := by decide +kernel
theorem dL_kept_750 : decode cL_kept 750 = .ok (.lload 12, 2) := by decide +kernel
theorem dL_kept_752 : decode cL_kept 752 = .ok (.lload 10, 2) := by decide +kernel
theorem dL_kept_754 : decode cL_kept 754 = .ok (.lcmp, 1) := by decide +kernel
theorem dL_kept_755 : decode cL_kept 755 = .ok (.ifCond .ne 7, 3) := by decide +kernel
theorem dL_kept_758 : decode cL_kept 758 = .ok (.iconst 1, 1) := by decide +kernel
theorem dL_kept_759 : decode cL_kept 759 = .ok (.goto 4, 3) := by decide +kernel
theorem dL_kept_762 : decode cL_kept 762 = .ok (.iconst 0, 1) := by decide +kernel
theorem dL_kept_763 : decode cL_kept 763 = .ok (.lload 14, 2) := by decide +kernel
theorem dL_kept_765 : decode cL_kept 765 = .ok (.iload_n 1, 1) := by decide +kernel
theorem dL_kept_766 : decode cL_kept 766 = .ok (.i2l, 1) := by decide +kernel
theorem dL_kept_767 : decode cL_kept 767 = .ok (.lcmp, 1) := by decide +kernel
theorem dL_kept_768 : decode cL_kept 768 = .ok (.ifCond .ne 7, 3) := by decide +kernel
theorem dL_kept_771 : decode cL_kept 771 = .ok (.iconst 1, 1) := by decide +kernel
theorem dL_kept_772 : decode cL_kept 772 = .ok (.goto 4, 3) := by decide +kernel
theorem dL_kept_775 : decode cL_kept 775 = .ok (.iconst 0, 1) := by decide +kernel
theorem dL_kept_776 : decode cL_kept 776 = .ok (.if_icmp .ne 7, 3) := by decide +kernel
theorem dL_kept_779 : decode cL_kept 779 = .ok (.iconst 1, 1) := by decide +kernel
theorem dL_kept_780 : decode cL_kept 780 = .ok (.goto 4, 3) := by decide +kernel
theorem dL_kept_783 : decode cL_kept 783 = .ok (.iconst 0, 1) := by decide +kernel
theorem dL_kept_784 : decode cL_kept 784 = .ok (.istore 4, 2) := by decide +kernel
theorem dL_kept_786 : decode cL_kept 786 = .ok (.iinc 7 1, 3) := by decide +kernel
theorem dL_kept_789 : decode cL_kept 789 = .ok (.goto (-289), 3) := by decide +kernel
theorem dL_kept_792 : decode cL_kept 792 = .ok (.iload 4, 2) := by decide +kernel
theorem dL_kept_794 : decode cL_kept 794 = .ok (.ifCond .eq 26, 3) := by decide +kernel
theorem dL_kept_797 : decode cL_kept 797 = .ok (.lload 5, 2) := by decide +kernel
theorem dL_kept_799 : decode cL_kept 799 = .ok (.aload_n 0, 1) := by decide +kernel
theorem dL_kept_800 : decode cL_kept 800 = .ok (.bipush 6, 2) := by decide +kernel
theorem dL_kept_802 : decode cL_kept 802 = .ok (.invokestatic 104, 3) := by decide +kernel
theorem dL_kept_805 : decode cL_kept 805 = .ok (.aload_n 0, 1) := by decide +kernel
theorem dL_kept_806 : decode cL_kept 806 = .ok (.bipush 7, 2) := by decide +kernel
theorem dL_kept_808 : decode cL_kept 808 = .ok (.invokestatic 104, 3) := by decide +kernel
theorem dL_kept_811 : decode cL_kept 811 = .ok (.ladd, 1) := by decide +kernel
theorem dL_kept_812 : decode cL_kept 812 = .ok (.lcmp, 1) := by decide +kernel
theorem dL_kept_813 : decode cL_kept 813 = .ok (.ifCond .ne 7, 3) := by decide +kernel
theorem dL_kept_816 : decode cL_kept 816 = .ok (.iconst 1, 1) := by decide +kernel
theorem dL_kept_817 : decode cL_kept 817 = .ok (.goto 4, 3) := by decide +kernel
theorem dL_kept_820 : decode cL_kept 820 = .ok (.iconst 0, 1) := by decide +kernel
theorem dL_kept_821 : decode cL_kept 821 = .ok (.ireturn, 1) := by decide +kernel
theorem dL_follows_0 : decode cL_follows 0 = .ok (.aload_n 0, 1) := by decide +kernel
theorem dL_follows_1 : decode cL_follows 1 = .ok (.invokestatic 120, 3) := by decide +kernel
theorem dL_follows_4 : decode cL_follows 4 = .ok (.lstore_n 2, 1) := by decide +kernel
theorem dL_follows_5 : decode cL_follows 5 = .ok (.aload_n 0, 1) := by decide +kernel
theorem dL_follows_6 : decode cL_follows 6 = .ok (.iconst 0, 1) := by decide +kernel
theorem dL_follows_7 : decode cL_follows 7 = .ok (.invokestatic 104, 3) := by decide +kernel
theorem dL_follows_10 : decode cL_follows 10 = .ok (.l2i, 1) := by decide +kernel
theorem dL_follows_11 : decode cL_follows 11 = .ok (.istore 4, 2) := by decide +kernel
theorem dL_follows_13 : decode cL_follows 13 = .ok (.aload_n 0, 1) := by decide +kernel
theorem dL_follows_14 : decode cL_follows 14 = .ok (.iconst 1, 1) := by decide +kernel
theorem dL_follows_15 : decode cL_follows 15 = .ok (.invokestatic 104, 3) := by decide +kernel
theorem dL_follows_18 : decode cL_follows 18 = .ok (.l2i, 1) := by decide +kernel
theorem dL_follows_19 : decode cL_follows 19 = .ok (.istore 5, 2) := by decide +kernel
theorem dL_follows_21 : decode cL_follows 21 = .ok (.aload_n 0, 1) := by decide +kernel
theorem dL_follows_22 : decode cL_follows 22 = .ok (.iconst 2, 1) := by decide +kernel
theorem dL_follows_23 : decode cL_follows 23 = .ok (.invokestatic 104, 3) := by decide +kernel
theorem dL_follows_26 : decode cL_follows 26 = .ok (.l2i, 1) := by decide +kernel
theorem dL_follows_27 : decode cL_follows 27 = .ok (.istore 6, 2) := by decide +kernel
theorem dL_follows_29 : decode cL_follows 29 = .ok (.aload_n 0, 1) := by decide +kernel
theorem dL_follows_30 : decode cL_follows 30 = .ok (.iconst 1, 1) := by decide +kernel
theorem dL_follows_31 : decode cL_follows 31 = .ok (.invokestatic 162, 3) := by decide +kernel
theorem dL_follows_34 : decode cL_follows 34 = .ok (.iload 4, 2) := by decide +kernel
theorem dL_follows_36 : decode cL_follows 36 = .ok (.i2l, 1) := by decide +kernel
theorem dL_follows_37 : decode cL_follows 37 = .ok (.lcmp, 1) := by decide +kernel
theorem dL_follows_38 : decode cL_follows 38 = .ok (.ifCond .ne 36, 3) := by decide +kernel
theorem dL_follows_41 : decode cL_follows 41 = .ok (.aload_n 0, 1) := by decide +kernel
theorem dL_follows_42 : decode cL_follows 42 = .ok (.iload_n 1, 1) := by decide +kernel
theorem dL_follows_43 : decode cL_follows 43 = .ok (.i2l, 1) := by decide +kernel
theorem dL_follows_44 : decode cL_follows 44 = .ok (.bipush 9, 2) := by decide +kernel
theorem dL_follows_46 : decode cL_follows 46 = .ok (.invokestatic 159, 3) := by decide +kernel
theorem dL_follows_49 : decode cL_follows 49 = .ok (.aload_n 0, 1) := by decide +kernel
theorem dL_follows_50 : decode cL_follows 50 = .ok (.iload_n 1, 1) := by decide +kernel
theorem dL_follows_51 : decode cL_follows 51 = .ok (.i2l, 1) := by decide +kernel
theorem dL_follows_52 : decode cL_follows 52 = .ok (.bipush 9, 2) := by decide +kernel
theorem dL_follows_54 : decode cL_follows 54 = .ok (.invokestatic 159, 3) := by decide +kernel
theorem dL_follows_57 : decode cL_follows 57 = .ok (.lcmp, 1) := by decide +kernel
theorem dL_follows_58 : decode cL_follows 58 = .ok (.ifCond .ne 16, 3) := by decide +kernel
theorem dL_follows_61 : decode cL_follows 61 = .ok (.aload_n 0, 1) := by decide +kernel
theorem dL_follows_62 : decode cL_follows 62 = .ok (.invokestatic 120, 3) := by decide +kernel
theorem dL_follows_65 : decode cL_follows 65 = .ok (.lload_n 2, 1) := by decide +kernel
theorem dL_follows_66 : decode cL_follows 66 = .ok (.lcmp, 1) := by decide +kernel
theorem dL_follows_67 : decode cL_follows 67 = .ok (.ifCond .ne 7, 3) := by decide +kernel
theorem dL_follows_70 : decode cL_follows 70 = .ok (.iconst 1, 1) := by decide +kernel
theorem dL_follows_71 : decode cL_follows 71 = .ok (.goto 4, 3) := by decide +kernel
theorem dL_follows_74 : decode cL_follows 74 = .ok (.iconst 0, 1) := by decide +kernel
theorem dL_follows_75 : decode cL_follows 75 = .ok (.istore 7, 2) := by decide +kernel
theorem dL_follows_77 : decode cL_follows 77 = .ok (.iconst 1, 1) := by decide +kernel
theorem dL_follows_78 : decode cL_follows 78 = .ok (.iload_n 1, 1) := by decide +kernel
theorem dL_follows_79 : decode cL_follows 79 = .ok (.bipush 12, 2) := by decide +kernel
theorem dL_follows_81 : decode cL_follows 81 = .ok (.irem, 1) := by decide +kernel
theorem dL_follows_82 : decode cL_follows 82 = .ok (.iadd, 1) := by decide +kernel
theorem dL_follows_83 : decode cL_follows 83 = .ok (.istore 8, 2) := by decide +kernel
theorem dL_follows_85 : decode cL_follows 85 = .ok (.iload 5, 2) := by decide +kernel
theorem dL_follows_87 : decode cL_follows 87 = .ok (.ifCond .le 412, 3) := by decide +kernel
theorem dL_follows_90 : decode cL_follows 90 = .ok (.iload 4, 2) := by decide +kernel
theorem dL_follows_92 : decode cL_follows 92 = .ok (.iload 8, 2) := by decide +kernel
theorem dL_follows_94 : decode cL_follows 94 = .ok (.iadd, 1) := by decide +kernel
theorem dL_follows_95 : decode cL_follows 95 = .ok (.sipush 240, 3) := by decide +kernel
theorem dL_follows_98 : decode cL_follows 98 = .ok (.if_icmp .gt 401, 3) := by decide +kernel
theorem dL_follows_101 : decode cL_follows 101 = .ok (.iload 7, 2) := by decide +kernel
theorem dL_follows_103 : decode cL_follows 103 = .ok (.ifCond .eq 396, 3) := by decide +kernel
theorem dL_follows_106 : decode cL_follows 106 = .ok (.iload_n 1, 1) := by decide +kernel
theorem dL_follows_107 : decode cL_follows 107 = .ok (.bipush 12, 2) := by decide +kernel
theorem dL_follows_109 : decode cL_follows 109 = .ok (.idiv, 1) := by decide +kernel
theorem dL_follows_110 : decode cL_follows 110 = .ok (.iload 5, 2) := by decide +kernel
theorem dL_follows_112 : decode cL_follows 112 = .ok (.irem, 1) := by decide +kernel
theorem dL_follows_113 : decode cL_follows 113 = .ok (.istore 9, 2) := by decide +kernel
theorem dL_follows_115 : decode cL_follows 115 = .ok (.aload_n 0, 1) := by decide +kernel
theorem dL_follows_116 : decode cL_follows 116 = .ok (.iload 9, 2) := by decide +kernel
theorem dL_follows_118 : decode cL_follows 118 = .ok (.iload 8, 2) := by decide +kernel
theorem dL_follows_120 : decode cL_follows 120 = .ok (.invokestatic 124, 3) := by decide +kernel
theorem dL_follows_123 : decode cL_follows 123 = .ok (.lstore 10, 2) := by decide +kernel
theorem dL_follows_125 : decode cL_follows 125 = .ok (.aload_n 0, 1) := by decide +kernel
theorem dL_follows_126 : decode cL_follows 126 = .ok (.iconst 5, 1) := by decide +kernel
theorem dL_follows_127 : decode cL_follows 127 = .ok (.invokestatic 104, 3) := by decide +kernel
theorem dL_follows_130 : decode cL_follows 130 = .ok (.lstore 12, 2) := by decide +kernel
theorem dL_follows_132 : decode cL_follows 132 = .ok (.aload_n 0, 1) := by decide +kernel
theorem dL_follows_133 : decode cL_follows 133 = .ok (.iload 8, 2) := by decide +kernel
theorem dL_follows_135 : decode cL_follows 135 = .ok (.invokestatic 145, 3) := by decide +kernel
theorem dL_follows_138 : decode cL_follows 138 = .ok (.aload_n 0, 1) := by decide +kernel
theorem dL_follows_139 : decode cL_follows 139 = .ok (.iconst 5, 1) := by decide +kernel
theorem dL_follows_140 : decode cL_follows 140 = .ok (.invokestatic 104, 3) := by decide +kernel
theorem dL_follows_143 : decode cL_follows 143 = .ok (.lload 12, 2) := by decide +kernel
theorem dL_follows_145 : decode cL_follows 145 = .ok (.lsub, 1) := by decide +kernel
theorem dL_follows_146 : decode cL_follows 146 = .ok (.lcmp, 1) := by decide +kernel
theorem dL_follows_147 : decode cL_follows 147 = .ok (.ifCond .ne 53, 3) := by decide +kernel
theorem dL_follows_150 : decode cL_follows 150 = .ok (.aload_n 0, 1) := by decide +kernel
theorem dL_follows_151 : decode cL_follows 151 = .ok (.iload 9, 2) := by decide +kernel
theorem dL_follows_153 : decode cL_follows 153 = .ok (.iconst 3, 1) := by decide +kernel
theorem dL_follows_154 : decode cL_follows 154 = .ok (.invokestatic 111, 3) := by decide +kernel
theorem dL_follows_157 : decode cL_follows 157 = .ok (.lload 10, 2) := by decide +kernel
theorem dL_follows_159 : decode cL_follows 159 = .ok (.lcmp, 1) := by decide +kernel
theorem dL_follows_160 : decode cL_follows 160 = .ok (.ifCond .ne 40, 3) := by decide +kernel
theorem dL_follows_163 : decode cL_follows 163 = .ok (.aload_n 0, 1) := by decide +kernel
theorem dL_follows_164 : decode cL_follows 164 = .ok (.iconst 0, 1) := by decide +kernel
theorem dL_follows_165 : decode cL_follows 165 = .ok (.invokestatic 104, 3) := by decide +kernel
theorem dL_follows_168 : decode cL_follows 168 = .ok (.iload 4, 2) := by decide +kernel
theorem dL_follows_170 : decode cL_follows 170 = .ok (.iload 8, 2) := by decide +kernel
theorem dL_follows_172 : decode cL_follows 172 = .ok (.iadd, 1) := by decide +kernel
theorem dL_follows_173 : decode cL_follows 173 = .ok (.i2l, 1) := by decide +kernel
theorem dL_follows_174 : decode cL_follows 174 = .ok (.lcmp, 1) := by decide +kernel
theorem dL_follows_175 : decode cL_follows 175 = .ok (.ifCond .ne 25, 3) := by decide +kernel
theorem dL_follows_178 : decode cL_follows 178 = .ok (.aload_n 0, 1) := by decide +kernel
theorem dL_follows_179 : decode cL_follows 179 = .ok (.invokestatic 184, 3) := by decide +kernel
theorem dL_follows_182 : decode cL_follows 182 = .ok (.lconst 0, 1) := by decide +kernel
theorem dL_follows_183 : decode cL_follows 183 = .ok (.lcmp, 1) := by decide +kernel
theorem dL_follows_184 : decode cL_follows 184 = .ok (.ifCond .lt 16, 3) := by decide +kernel
theorem dL_follows_187 : decode cL_follows 187 = .ok (.aload_n 0, 1) := by decide +kernel
theorem dL_follows_188 : decode cL_follows 188 = .ok (.invokestatic 120, 3) := by decide +kernel
theorem dL_follows_191 : decode cL_follows 191 = .ok (.lload_n 2, 1) := by decide +kernel
theorem dL_follows_192 : decode cL_follows 192 = .ok (.lcmp, 1) := by decide +kernel
theorem dL_follows_193 : decode cL_follows 193 = .ok (.ifCond .ne 7, 3) := by decide +kernel
theorem dL_follows_196 : decode cL_follows 196 = .ok (.iconst 1, 1) := by decide +kernel
theorem dL_follows_197 : decode cL_follows 197 = .ok (.goto 4, 3) := by decide +kernel
theorem dL_follows_200 : decode cL_follows 200 = .ok (.iconst 0, 1) := by decide +kernel
theorem dL_follows_201 : decode cL_follows 201 = .ok (.istore 7, 2) := by decide +kernel
theorem dL_follows_203 : decode cL_follows 203 = .ok (.iload 4, 2) := by decide +kernel
theorem dL_follows_205 : decode cL_follows 205 = .ok (.iload_n 1, 1) := by decide +kernel
theorem dL_follows_206 : decode cL_follows 206 = .ok (.bipush 48, 2) := by decide +kernel
theorem dL_follows_208 : decode cL_follows 208 = .ok (.idiv, 1) := by decide +kernel
theorem dL_follows_209 : decode cL_follows 209 = .ok (.bipush 9, 2) := by decide +kernel
theorem dL_follows_211 : decode cL_follows 211 = .ok (.irem, 1) := by decide +kernel
theorem dL_follows_212 : decode cL_follows 212 = .ok (.iadd, 1) := by decide +kernel
theorem dL_follows_213 : decode cL_follows 213 = .ok (.istore 14, 2) := by decide +kernel
theorem dL_follows_215 : decode cL_follows 215 = .ok (.iconst 1, 1) := by decide +kernel
theorem dL_follows_216 : decode cL_follows 216 = .ok (.iload_n 1, 1) := by decide +kernel
theorem dL_follows_217 : decode cL_follows 217 = .ok (.sipush 432, 3) := by decide +kernel
theorem dL_follows_220 : decode cL_follows 220 = .ok (.idiv, 1) := by decide +kernel
theorem dL_follows_221 : decode cL_follows 221 = .ok (.iconst 4, 1) := by decide +kernel
theorem dL_follows_222 : decode cL_follows 222 = .ok (.irem, 1) := by decide +kernel
theorem dL_follows_223 : decode cL_follows 223 = .ok (.iadd, 1) := by decide +kernel
theorem dL_follows_224 : decode cL_follows 224 = .ok (.istore 15, 2) := by decide +kernel
theorem dL_follows_226 : decode cL_follows 226 = .ok (.iload 6, 2) := by decide +kernel
theorem dL_follows_228 : decode cL_follows 228 = .ok (.ifCond .le 177, 3) := by decide +kernel
theorem dL_follows_231 : decode cL_follows 231 = .ok (.iload 14, 2) := by decide +kernel
theorem dL_follows_233 : decode cL_follows 233 = .ok (.iload 15, 2) := by decide +kernel
theorem dL_follows_235 : decode cL_follows 235 = .ok (.iadd, 1) := by decide +kernel
theorem dL_follows_236 : decode cL_follows 236 = .ok (.sipush 199, 3) := by decide +kernel
theorem dL_follows_239 : decode cL_follows 239 = .ok (.if_icmp .gt 166, 3) := by decide +kernel
theorem dL_follows_242 : decode cL_follows 242 = .ok (.iload 15, 2) := by decide +kernel
theorem dL_follows_244 : decode cL_follows 244 = .ok (.iload 14, 2) := by decide +kernel
theorem dL_follows_246 : decode cL_follows 246 = .ok (.iadd, 1) := by decide +kernel
theorem dL_follows_247 : decode cL_follows 247 = .ok (.iload 4, 2) := by decide +kernel
theorem dL_follows_249 : decode cL_follows 249 = .ok (.isub, 1) := by decide +kernel
theorem dL_follows_250 : decode cL_follows 250 = .ok (.bipush 48, 2) := by decide +kernel
theorem dL_follows_252 : decode cL_follows 252 = .ok (.if_icmp .gt 153, 3) := by decide +kernel
theorem dL_follows_255 : decode cL_follows 255 = .ok (.iload 7, 2) := by decide +kernel
theorem dL_follows_257 : decode cL_follows 257 = .ok (.ifCond .eq 148, 3) := by decide +kernel
theorem dL_follows_260 : decode cL_follows 260 = .ok (.aload_n 0, 1) := by decide +kernel
theorem dL_follows_261 : decode cL_follows 261 = .ok (.iload 9, 2) := by decide +kernel
theorem dL_follows_263 : decode cL_follows 263 = .ok (.iconst 0, 1) := by decide +kernel
theorem dL_follows_264 : decode cL_follows 264 = .ok (.iload 14, 2) := by decide +kernel
theorem dL_follows_266 : decode cL_follows 266 = .ok (.iload 15, 2) := by decide +kernel
theorem dL_follows_268 : decode cL_follows 268 = .ok (.bipush 20, 2) := by decide +kernel
theorem dL_follows_270 : decode cL_follows 270 = .ok (.invokestatic 134, 3) := by decide +kernel
theorem dL_follows_273 : decode cL_follows 273 = .ok (.lstore 16, 2) := by decide +kernel
theorem dL_follows_275 : decode cL_follows 275 = .ok (.iload 14, 2) := by decide +kernel
theorem dL_follows_277 : decode cL_follows 277 = .ok (.iload 15, 2) := by decide +kernel
theorem dL_follows_279 : decode cL_follows 279 = .ok (.iadd, 1) := by decide +kernel
theorem dL_follows_280 : decode cL_follows 280 = .ok (.iload 4, 2) := by decide +kernel
theorem dL_follows_282 : decode cL_follows 282 = .ok (.isub, 1) := by decide +kernel
theorem dL_follows_283 : decode cL_follows 283 = .ok (.istore 18, 2) := by decide +kernel
theorem dL_follows_285 : decode cL_follows 285 = .ok (.aload_n 0, 1) := by decide +kernel
theorem dL_follows_286 : decode cL_follows 286 = .ok (.iload 18, 2) := by decide +kernel
theorem dL_follows_288 : decode cL_follows 288 = .ok (.invokestatic 145, 3) := by decide +kernel
theorem dL_follows_291 : decode cL_follows 291 = .ok (.lstore 19, 2) := by decide +kernel
theorem dL_follows_293 : decode cL_follows 293 = .ok (.aload_n 0, 1) := by decide +kernel
theorem dL_follows_294 : decode cL_follows 294 = .ok (.invokestatic 184, 3) := by decide +kernel
theorem dL_follows_297 : decode cL_follows 297 = .ok (.lconst 0, 1) := by decide +kernel
theorem dL_follows_298 : decode cL_follows 298 = .ok (.lcmp, 1) := by decide +kernel
theorem dL_follows_299 : decode cL_follows 299 = .ok (.ifCond .lt 16, 3) := by decide +kernel
theorem dL_follows_302 : decode cL_follows 302 = .ok (.aload_n 0, 1) := by decide +kernel
theorem dL_follows_303 : decode cL_follows 303 = .ok (.invokestatic 120, 3) := by decide +kernel
theorem dL_follows_306 : decode cL_follows 306 = .ok (.lload_n 2, 1) := by decide +kernel
theorem dL_follows_307 : decode cL_follows 307 = .ok (.lcmp, 1) := by decide +kernel
theorem dL_follows_308 : decode cL_follows 308 = .ok (.ifCond .ne 7, 3) := by decide +kernel
theorem dL_follows_311 : decode cL_follows 311 = .ok (.iconst 1, 1) := by decide +kernel
theorem dL_follows_312 : decode cL_follows 312 = .ok (.goto 4, 3) := by decide +kernel
theorem dL_follows_315 : decode cL_follows 315 = .ok (.iconst 0, 1) := by decide +kernel
theorem dL_follows_316 : decode cL_follows 316 = .ok (.istore 7, 2) := by decide +kernel
theorem dL_follows_318 : decode cL_follows 318 = .ok (.lload 16, 2) := by decide +kernel
theorem dL_follows_320 : decode cL_follows 320 = .ok (.ldc2_w 151, 3) := by decide +kernel
theorem dL_follows_323 : decode cL_follows 323 = .ok (.lcmp, 1) := by decide +kernel
theorem dL_follows_324 : decode cL_follows 324 = .ok (.ifCond .eq 81, 3) := by decide +kernel
theorem dL_follows_327 : decode cL_follows 327 = .ok (.iload 7, 2) := by decide +kernel
theorem dL_follows_329 : decode cL_follows 329 = .ok (.ifCond .eq 76, 3) := by decide +kernel
theorem dL_follows_332 : decode cL_follows 332 = .ok (.aload_n 0, 1) := by decide +kernel
theorem dL_follows_333 : decode cL_follows 333 = .ok (.iload 9, 2) := by decide +kernel
theorem dL_follows_335 : decode cL_follows 335 = .ok (.iconst 0, 1) := by decide +kernel
theorem dL_follows_336 : decode cL_follows 336 = .ok (.iload 14, 2) := by decide +kernel
theorem dL_follows_338 : decode cL_follows 338 = .ok (.iload 15, 2) := by decide +kernel
theorem dL_follows_340 : decode cL_follows 340 = .ok (.bipush 20, 2) := by decide +kernel
theorem dL_follows_342 : decode cL_follows 342 = .ok (.invokestatic 131, 3) := by decide +kernel
theorem dL_follows_345 : decode cL_follows 345 = .ok (.aload_n 0, 1) := by decide +kernel
theorem dL_follows_346 : decode cL_follows 346 = .ok (.iconst 3, 1) := by decide +kernel
theorem dL_follows_347 : decode cL_follows 347 = .ok (.invokestatic 104, 3) := by decide +kernel
theorem dL_follows_350 : decode cL_follows 350 = .ok (.lconst 1, 1) := by decide +kernel
theorem dL_follows_351 : decode cL_follows 351 = .ok (.lsub, 1) := by decide +kernel
theorem dL_follows_352 : decode cL_follows 352 = .ok (.lcmp, 1) := by decide +kernel
theorem dL_follows_353 : decode cL_follows 353 = .ok (.ifCond .ne 49, 3) := by decide +kernel
theorem dL_follows_356 : decode cL_follows 356 = .ok (.aload_n 0, 1) := by decide +kernel
theorem dL_follows_357 : decode cL_follows 357 = .ok (.iload 18, 2) := by decide +kernel
theorem dL_follows_359 : decode cL_follows 359 = .ok (.invokestatic 145, 3) := by decide +kernel
theorem dL_follows_362 : decode cL_follows 362 = .ok (.lload 19, 2) := by decide +kernel
theorem dL_follows_364 : decode cL_follows 364 = .ok (.lload 16, 2) := by decide +kernel
theorem dL_follows_366 : decode cL_follows 366 = .ok (.ladd, 1) := by decide +kernel
theorem dL_follows_367 : decode cL_follows 367 = .ok (.lcmp, 1) := by decide +kernel
theorem dL_follows_368 : decode cL_follows 368 = .ok (.ifCond .ne 34, 3) := by decide +kernel
theorem dL_follows_371 : decode cL_follows 371 = .ok (.aload_n 0, 1) := by decide +kernel
theorem dL_follows_372 : decode cL_follows 372 = .ok (.invokestatic 184, 3) := by decide +kernel
theorem dL_follows_375 : decode cL_follows 375 = .ok (.lconst 0, 1) := by decide +kernel
theorem dL_follows_376 : decode cL_follows 376 = .ok (.lcmp, 1) := by decide +kernel
theorem dL_follows_377 : decode cL_follows 377 = .ok (.ifCond .lt 25, 3) := by decide +kernel
theorem dL_follows_380 : decode cL_follows 380 = .ok (.aload_n 0, 1) := by decide +kernel
theorem dL_follows_381 : decode cL_follows 381 = .ok (.invokestatic 184, 3) := by decide +kernel
theorem dL_follows_384 : decode cL_follows 384 = .ok (.lconst 0, 1) := by decide +kernel
theorem dL_follows_385 : decode cL_follows 385 = .ok (.lcmp, 1) := by decide +kernel
theorem dL_follows_386 : decode cL_follows 386 = .ok (.ifCond .lt 16, 3) := by decide +kernel
theorem dL_follows_389 : decode cL_follows 389 = .ok (.aload_n 0, 1) := by decide +kernel
theorem dL_follows_390 : decode cL_follows 390 = .ok (.invokestatic 120, 3) := by decide +kernel
theorem dL_follows_393 : decode cL_follows 393 = .ok (.lload_n 2, 1) := by decide +kernel
theorem dL_follows_394 : decode cL_follows 394 = .ok (.lcmp, 1) := by decide +kernel
theorem dL_follows_395 : decode cL_follows 395 = .ok (.ifCond .ne 7, 3) := by decide +kernel
theorem dL_follows_398 : decode cL_follows 398 = .ok (.iconst 1, 1) := by decide +kernel
theorem dL_follows_399 : decode cL_follows 399 = .ok (.goto 4, 3) := by decide +kernel
theorem dL_follows_402 : decode cL_follows 402 = .ok (.iconst 0, 1) := by decide +kernel
theorem dL_follows_403 : decode cL_follows 403 = .ok (.istore 7, 2) := by decide +kernel
theorem dL_follows_405 : decode cL_follows 405 = .ok (.aload_n 0, 1) := by decide +kernel
theorem dL_follows_406 : decode cL_follows 406 = .ok (.iload 9, 2) := by decide +kernel
theorem dL_follows_408 : decode cL_follows 408 = .ok (.iconst 3, 1) := by decide +kernel
theorem dL_follows_409 : decode cL_follows 409 = .ok (.invokestatic 111, 3) := by decide +kernel
theorem dL_follows_412 : decode cL_follows 412 = .ok (.lstore 16, 2) := by decide +kernel
theorem dL_follows_414 : decode cL_follows 414 = .ok (.aload_n 0, 1) := by decide +kernel
theorem dL_follows_415 : decode cL_follows 415 = .ok (.iconst 4, 1) := by decide +kernel
theorem dL_follows_416 : decode cL_follows 416 = .ok (.invokestatic 104, 3) := by decide +kernel
theorem dL_follows_419 : decode cL_follows 419 = .ok (.lstore 18, 2) := by decide +kernel
theorem dL_follows_421 : decode cL_follows 421 = .ok (.aload_n 0, 1) := by decide +kernel
theorem dL_follows_422 : decode cL_follows 422 = .ok (.iload 9, 2) := by decide +kernel
theorem dL_follows_424 : decode cL_follows 424 = .ok (.iconst 1, 1) := by decide +kernel
theorem dL_follows_425 : decode cL_follows 425 = .ok (.invokestatic 124, 3) := by decide +kernel
theorem dL_follows_428 : decode cL_follows 428 = .ok (.lstore 20, 2) := by decide +kernel
theorem dL_follows_430 : decode cL_follows 430 = .ok (.iload 7, 2) := by decide +kernel
theorem dL_follows_432 : decode cL_follows 432 = .ok (.ifCond .eq 64, 3) := by decide +kernel
theorem dL_follows_435 : decode cL_follows 435 = .ok (.lload 20, 2) := by decide +kernel
theorem dL_follows_437 : decode cL_follows 437 = .ok (.lload 16, 2) := by decide +kernel
theorem dL_follows_439 : decode cL_follows 439 = .ok (.lload 18, 2) := by decide +kernel
theorem dL_follows_441 : decode cL_follows 441 = .ok (.lcmp, 1) := by decide +kernel
theorem dL_follows_442 : decode cL_follows 442 = .ok (.ifCond .ge 8, 3) := by decide +kernel
theorem dL_follows_445 : decode cL_follows 445 = .ok (.lload 16, 2) := by decide +kernel
theorem dL_follows_447 : decode cL_follows 447 = .ok (.goto 5, 3) := by decide +kernel
theorem dL_follows_450 : decode cL_follows 450 = .ok (.lload 18, 2) := by decide +kernel
theorem dL_follows_452 : decode cL_follows 452 = .ok (.lcmp, 1) := by decide +kernel
theorem dL_follows_453 : decode cL_follows 453 = .ok (.ifCond .lt 43, 3) := by decide +kernel
theorem dL_follows_456 : decode cL_follows 456 = .ok (.aload_n 0, 1) := by decide +kernel
theorem dL_follows_457 : decode cL_follows 457 = .ok (.iload 9, 2) := by decide +kernel
theorem dL_follows_459 : decode cL_follows 459 = .ok (.bipush 6, 2) := by decide +kernel
theorem dL_follows_461 : decode cL_follows 461 = .ok (.invokestatic 111, 3) := by decide +kernel
theorem dL_follows_464 : decode cL_follows 464 = .ok (.ldc2_w 151, 3) := by decide +kernel
theorem dL_follows_467 : decode cL_follows 467 = .ok (.lcmp, 1) := by decide +kernel
theorem dL_follows_468 : decode cL_follows 468 = .ok (.ifCond .ne 24, 3) := by decide +kernel
theorem dL_follows_471 : decode cL_follows 471 = .ok (.lload 20, 2) := by decide +kernel
theorem dL_follows_473 : decode cL_follows 473 = .ok (.lload 16, 2) := by decide +kernel
theorem dL_follows_475 : decode cL_follows 475 = .ok (.lload 18, 2) := by decide +kernel
theorem dL_follows_477 : decode cL_follows 477 = .ok (.lcmp, 1) := by decide +kernel
theorem dL_follows_478 : decode cL_follows 478 = .ok (.ifCond .le 8, 3) := by decide +kernel
theorem dL_follows_481 : decode cL_follows 481 = .ok (.lload 16, 2) := by decide +kernel
theorem dL_follows_483 : decode cL_follows 483 = .ok (.goto 5, 3) := by decide +kernel
theorem dL_follows_486 : decode cL_follows 486 = .ok (.lload 18, 2) := by decide +kernel
theorem dL_follows_488 : decode cL_follows 488 = .ok (.lcmp, 1) := by decide +kernel
theorem dL_follows_489 : decode cL_follows 489 = .ok (.ifCond .gt 7, 3) := by decide +kernel
theorem dL_follows_492 : decode cL_follows 492 = .ok (.iconst 1, 1) := by decide +kernel
theorem dL_follows_493 : decode cL_follows 493 = .ok (.goto 4, 3) := by decide +kernel
theorem dL_follows_496 : decode cL_follows 496 = .ok (.iconst 0, 1) := by decide +kernel
theorem dL_follows_497 : decode cL_follows 497 = .ok (.istore 7, 2) := by decide +kernel
theorem dL_follows_499 : decode cL_follows 499 = .ok (.iconst 0, 1) := by decide +kernel
theorem dL_follows_500 : decode cL_follows 500 = .ok (.istore 9, 2) := by decide +kernel
theorem dL_follows_502 : decode cL_follows 502 = .ok (.iload 9, 2) := by decide +kernel
theorem dL_follows_504 : decode cL_follows 504 = .ok (.iload 6, 2) := by decide +kernel
theorem dL_follows_506 : decode cL_follows 506 = .ok (.if_icmp .ge 93, 3) := by decide +kernel
theorem dL_follows_509 : decode cL_follows 509 = .ok (.iload 7, 2) := by decide +kernel
theorem dL_follows_511 : decode cL_follows 511 = .ok (.ifCond .eq 88, 3) := by decide +kernel
theorem dL_follows_514 : decode cL_follows 514 = .ok (.aload_n 0, 1) := by decide +kernel
theorem dL_follows_515 : decode cL_follows 515 = .ok (.iload 9, 2) := by decide +kernel
theorem dL_follows_517 : decode cL_follows 517 = .ok (.invokestatic 114, 3) := by decide +kernel
theorem dL_follows_520 : decode cL_follows 520 = .ok (.lstore 10, 2) := by decide +kernel
theorem dL_follows_522 : decode cL_follows 522 = .ok (.aload_n 0, 1) := by decide +kernel
theorem dL_follows_523 : decode cL_follows 523 = .ok (.iload 9, 2) := by decide +kernel
theorem dL_follows_525 : decode cL_follows 525 = .ok (.invokestatic 149, 3) := by decide +kernel
theorem dL_follows_528 : decode cL_follows 528 = .ok (.lstore 12, 2) := by decide +kernel
theorem dL_follows_530 : decode cL_follows 530 = .ok (.aload_n 0, 1) := by decide +kernel
theorem dL_follows_531 : decode cL_follows 531 = .ok (.iload 9, 2) := by decide +kernel
theorem dL_follows_533 : decode cL_follows 533 = .ok (.invokestatic 143, 3) := by decide +kernel
theorem dL_follows_536 : decode cL_follows 536 = .ok (.lload 10, 2) := by decide +kernel
theorem dL_follows_538 : decode cL_follows 538 = .ok (.lcmp, 1) := by decide +kernel
theorem dL_follows_539 : decode cL_follows 539 = .ok (.ifCond .ne 51, 3) := by decide +kernel
theorem dL_follows_542 : decode cL_follows 542 = .ok (.aload_n 0, 1) := by decide +kernel
theorem dL_follows_543 : decode cL_follows 543 = .ok (.iload 9, 2) := by decide +kernel
theorem dL_follows_545 : decode cL_follows 545 = .ok (.invokestatic 114, 3) := by decide +kernel
theorem dL_follows_548 : decode cL_follows 548 = .ok (.lconst 0, 1) := by decide +kernel
theorem dL_follows_549 : decode cL_follows 549 = .ok (.lcmp, 1) := by decide +kernel
theorem dL_follows_550 : decode cL_follows 550 = .ok (.ifCond .ne 40, 3) := by decide +kernel
theorem dL_follows_553 : decode cL_follows 553 = .ok (.aload_n 0, 1) := by decide +kernel
theorem dL_follows_554 : decode cL_follows 554 = .ok (.iload 9, 2) := by decide +kernel
theorem dL_follows_556 : decode cL_follows 556 = .ok (.invokestatic 149, 3) := by decide +kernel
theorem dL_follows_559 : decode cL_follows 559 = .ok (.lload 12, 2) := by decide +kernel
theorem dL_follows_561 : decode cL_follows 561 = .ok (.lload 10, 2) := by decide +kernel
theorem dL_follows_563 : decode cL_follows 563 = .ok (.lsub, 1) := by decide +kernel
theorem dL_follows_564 : decode cL_follows 564 = .ok (.lcmp, 1) := by decide +kernel
theorem dL_follows_565 : decode cL_follows 565 = .ok (.ifCond .ne 25, 3) := by decide +kernel
theorem dL_follows_568 : decode cL_follows 568 = .ok (.aload_n 0, 1) := by decide +kernel
theorem dL_follows_569 : decode cL_follows 569 = .ok (.invokestatic 184, 3) := by decide +kernel
theorem dL_follows_572 : decode cL_follows 572 = .ok (.lconst 0, 1) := by decide +kernel
theorem dL_follows_573 : decode cL_follows 573 = .ok (.lcmp, 1) := by decide +kernel
theorem dL_follows_574 : decode cL_follows 574 = .ok (.ifCond .lt 16, 3) := by decide +kernel
theorem dL_follows_577 : decode cL_follows 577 = .ok (.aload_n 0, 1) := by decide +kernel
theorem dL_follows_578 : decode cL_follows 578 = .ok (.invokestatic 120, 3) := by decide +kernel
theorem dL_follows_581 : decode cL_follows 581 = .ok (.lload_n 2, 1) := by decide +kernel
theorem dL_follows_582 : decode cL_follows 582 = .ok (.lcmp, 1) := by decide +kernel
theorem dL_follows_583 : decode cL_follows 583 = .ok (.ifCond .ne 7, 3) := by decide +kernel
theorem dL_follows_586 : decode cL_follows 586 = .ok (.iconst 1, 1) := by decide +kernel
theorem dL_follows_587 : decode cL_follows 587 = .ok (.goto 4, 3) := by decide +kernel
theorem dL_follows_590 : decode cL_follows 590 = .ok (.iconst 0, 1) := by decide +kernel
theorem dL_follows_591 : decode cL_follows 591 = .ok (.istore 7, 2) := by decide +kernel
theorem dL_follows_593 : decode cL_follows 593 = .ok (.iinc 9 1, 3) := by decide +kernel
theorem dL_follows_596 : decode cL_follows 596 = .ok (.goto (-94), 3) := by decide +kernel
theorem dL_follows_599 : decode cL_follows 599 = .ok (.iload 7, 2) := by decide +kernel
theorem dL_follows_601 : decode cL_follows 601 = .ok (.ifCond .eq 39, 3) := by decide +kernel
theorem dL_follows_604 : decode cL_follows 604 = .ok (.aload_n 0, 1) := by decide +kernel
theorem dL_follows_605 : decode cL_follows 605 = .ok (.iconst 1, 1) := by decide +kernel
theorem dL_follows_606 : decode cL_follows 606 = .ok (.invokestatic 164, 3) := by decide +kernel
theorem dL_follows_609 : decode cL_follows 609 = .ok (.iload 4, 2) := by decide +kernel
theorem dL_follows_611 : decode cL_follows 611 = .ok (.i2l, 1) := by decide +kernel
theorem dL_follows_612 : decode cL_follows 612 = .ok (.lcmp, 1) := by decide +kernel
theorem dL_follows_613 : decode cL_follows 613 = .ok (.ifCond .ne 27, 3) := by decide +kernel
theorem dL_follows_616 : decode cL_follows 616 = .ok (.aload_n 0, 1) := by decide +kernel
theorem dL_follows_617 : decode cL_follows 617 = .ok (.invokestatic 120, 3) := by decide +kernel
theorem dL_follows_620 : decode cL_follows 620 = .ok (.lload_n 2, 1) := by decide +kernel
theorem dL_follows_621 : decode cL_follows 621 = .ok (.lcmp, 1) := by decide +kernel
theorem dL_follows_622 : decode cL_follows 622 = .ok (.ifCond .ne 18, 3) := by decide +kernel
theorem dL_follows_625 : decode cL_follows 625 = .ok (.aload_n 0, 1) := by decide +kernel
theorem dL_follows_626 : decode cL_follows 626 = .ok (.invokestatic 184, 3) := by decide +kernel
theorem dL_follows_629 : decode cL_follows 629 = .ok (.ldc2_w 21, 3) := by decide +kernel
theorem dL_follows_632 : decode cL_follows 632 = .ok (.lcmp, 1) := by decide +kernel
theorem dL_follows_633 : decode cL_follows 633 = .ok (.ifCond .ne 7, 3) := by decide +kernel
theorem dL_follows_636 : decode cL_follows 636 = .ok (.iconst 1, 1) := by decide +kernel
theorem dL_follows_637 : decode cL_follows 637 = .ok (.goto 4, 3) := by decide +kernel
theorem dL_follows_640 : decode cL_follows 640 = .ok (.iconst 0, 1) := by decide +kernel
theorem dL_follows_641 : decode cL_follows 641 = .ok (.ireturn, 1) := by decide +kernel
theorem dL_alike_0 : decode cL_alike 0 = .ok (.aload_n 0, 1) := by decide +kernel
theorem dL_alike_1 : decode cL_alike 1 = .ok (.invokestatic 120, 3) := by decide +kernel
theorem dL_alike_4 : decode cL_alike 4 = .ok (.aload_n 1, 1) := by decide +kernel
theorem dL_alike_5 : decode cL_alike 5 = .ok (.invokestatic 120, 3) := by decide +kernel
theorem dL_alike_8 : decode cL_alike 8 = .ok (.lcmp, 1) := by decide +kernel
theorem dL_alike_9 : decode cL_alike 9 = .ok (.ifCond .ne 233, 3) := by decide +kernel
theorem dL_alike_12 : decode cL_alike 12 = .ok (.aload_n 0, 1) := by decide +kernel
theorem dL_alike_13 : decode cL_alike 13 = .ok (.invokevirtual 186, 3) := by decide +kernel
theorem dL_alike_16 : decode cL_alike 16 = .ok (.aload_n 1, 1) := by decide +kernel
theorem dL_alike_17 : decode cL_alike 17 = .ok (.invokevirtual 186, 3) := by decide +kernel
theorem dL_alike_20 : decode cL_alike 20 = .ok (.if_icmp .ne 222, 3) := by decide +kernel
theorem dL_alike_23 : decode cL_alike 23 = .ok (.aload_n 0, 1) := by decide +kernel
theorem dL_alike_24 : decode cL_alike 24 = .ok (.invokevirtual 189, 3) := by decide +kernel
theorem dL_alike_27 : decode cL_alike 27 = .ok (.aload_n 1, 1) := by decide +kernel
theorem dL_alike_28 : decode cL_alike 28 = .ok (.invokevirtual 189, 3) := by decide +kernel
theorem dL_alike_31 : decode cL_alike 31 = .ok (.if_icmp .ne 211, 3) := by decide +kernel
theorem dL_alike_34 : decode cL_alike 34 = .ok (.aload_n 0, 1) := by decide +kernel
theorem dL_alike_35 : decode cL_alike 35 = .ok (.iload_n 2, 1) := by decide +kernel
theorem dL_alike_36 : decode cL_alike 36 = .ok (.iconst 4, 1) := by decide +kernel
theorem dL_alike_37 : decode cL_alike 37 = .ok (.irem, 1) := by decide +kernel
theorem dL_alike_38 : decode cL_alike 38 = .ok (.iload_n 2, 1) := by decide +kernel
theorem dL_alike_39 : decode cL_alike 39 = .ok (.iconst 4, 1) := by decide +kernel
theorem dL_alike_40 : decode cL_alike 40 = .ok (.idiv, 1) := by decide +kernel
theorem dL_alike_41 : decode cL_alike 41 = .ok (.bipush 49, 2) := by decide +kernel
theorem dL_alike_43 : decode cL_alike 43 = .ok (.irem, 1) := by decide +kernel
theorem dL_alike_44 : decode cL_alike 44 = .ok (.invokestatic 124, 3) := by decide +kernel
theorem dL_alike_47 : decode cL_alike 47 = .ok (.aload_n 1, 1) := by decide +kernel
theorem dL_alike_48 : decode cL_alike 48 = .ok (.iload_n 2, 1) := by decide +kernel
theorem dL_alike_49 : decode cL_alike 49 = .ok (.iconst 4, 1) := by decide +kernel
theorem dL_alike_50 : decode cL_alike 50 = .ok (.irem, 1) := by decide +kernel
theorem dL_alike_51 : decode cL_alike 51 = .ok (.iload_n 2, 1) := by decide +kernel
theorem dL_alike_52 : decode cL_alike 52 = .ok (.iconst 4, 1) := by decide +kernel
theorem dL_alike_53 : decode cL_alike 53 = .ok (.idiv, 1) := by decide +kernel
theorem dL_alike_54 : decode cL_alike 54 = .ok (.bipush 49, 2) := by decide +kernel
theorem dL_alike_56 : decode cL_alike 56 = .ok (.irem, 1) := by decide +kernel
theorem dL_alike_57 : decode cL_alike 57 = .ok (.invokestatic 124, 3) := by decide +kernel
theorem dL_alike_60 : decode cL_alike 60 = .ok (.lcmp, 1) := by decide +kernel
theorem dL_alike_61 : decode cL_alike 61 = .ok (.ifCond .ne 181, 3) := by decide +kernel
theorem dL_alike_64 : decode cL_alike 64 = .ok (.aload_n 0, 1) := by decide +kernel
theorem dL_alike_65 : decode cL_alike 65 = .ok (.iload_n 2, 1) := by decide +kernel
theorem dL_alike_66 : decode cL_alike 66 = .ok (.bipush 12, 2) := by decide +kernel
theorem dL_alike_68 : decode cL_alike 68 = .ok (.irem, 1) := by decide +kernel
theorem dL_alike_69 : decode cL_alike 69 = .ok (.invokestatic 147, 3) := by decide +kernel
theorem dL_alike_72 : decode cL_alike 72 = .ok (.aload_n 1, 1) := by decide +kernel
theorem dL_alike_73 : decode cL_alike 73 = .ok (.iload_n 2, 1) := by decide +kernel
theorem dL_alike_74 : decode cL_alike 74 = .ok (.bipush 12, 2) := by decide +kernel
theorem dL_alike_76 : decode cL_alike 76 = .ok (.irem, 1) := by decide +kernel
theorem dL_alike_77 : decode cL_alike 77 = .ok (.invokestatic 147, 3) := by decide +kernel
theorem dL_alike_80 : decode cL_alike 80 = .ok (.lcmp, 1) := by decide +kernel
theorem dL_alike_81 : decode cL_alike 81 = .ok (.ifCond .ne 161, 3) := by decide +kernel
theorem dL_alike_84 : decode cL_alike 84 = .ok (.aload_n 0, 1) := by decide +kernel
theorem dL_alike_85 : decode cL_alike 85 = .ok (.iload_n 2, 1) := by decide +kernel
theorem dL_alike_86 : decode cL_alike 86 = .ok (.bipush 6, 2) := by decide +kernel
theorem dL_alike_88 : decode cL_alike 88 = .ok (.irem, 1) := by decide +kernel
theorem dL_alike_89 : decode cL_alike 89 = .ok (.invokestatic 149, 3) := by decide +kernel
theorem dL_alike_92 : decode cL_alike 92 = .ok (.aload_n 1, 1) := by decide +kernel
theorem dL_alike_93 : decode cL_alike 93 = .ok (.iload_n 2, 1) := by decide +kernel
theorem dL_alike_94 : decode cL_alike 94 = .ok (.bipush 6, 2) := by decide +kernel
theorem dL_alike_96 : decode cL_alike 96 = .ok (.irem, 1) := by decide +kernel
theorem dL_alike_97 : decode cL_alike 97 = .ok (.invokestatic 149, 3) := by decide +kernel
theorem dL_alike_100 : decode cL_alike 100 = .ok (.lcmp, 1) := by decide +kernel
theorem dL_alike_101 : decode cL_alike 101 = .ok (.ifCond .ne 141, 3) := by decide +kernel
theorem dL_alike_104 : decode cL_alike 104 = .ok (.aload_n 0, 1) := by decide +kernel
theorem dL_alike_105 : decode cL_alike 105 = .ok (.iload_n 2, 1) := by decide +kernel
theorem dL_alike_106 : decode cL_alike 106 = .ok (.iconst 4, 1) := by decide +kernel
theorem dL_alike_107 : decode cL_alike 107 = .ok (.irem, 1) := by decide +kernel
theorem dL_alike_108 : decode cL_alike 108 = .ok (.iload_n 2, 1) := by decide +kernel
theorem dL_alike_109 : decode cL_alike 109 = .ok (.iconst 4, 1) := by decide +kernel
theorem dL_alike_110 : decode cL_alike 110 = .ok (.idiv, 1) := by decide +kernel
theorem dL_alike_111 : decode cL_alike 111 = .ok (.bipush 6, 2) := by decide +kernel
theorem dL_alike_113 : decode cL_alike 113 = .ok (.irem, 1) := by decide +kernel
theorem dL_alike_114 : decode cL_alike 114 = .ok (.aload_n 0, 1) := by decide +kernel
theorem dL_alike_115 : decode cL_alike 115 = .ok (.iconst 0, 1) := by decide +kernel
theorem dL_alike_116 : decode cL_alike 116 = .ok (.invokestatic 104, 3) := by decide +kernel
theorem dL_alike_119 : decode cL_alike 119 = .ok (.l2i, 1) := by decide +kernel
theorem dL_alike_120 : decode cL_alike 120 = .ok (.iload_n 2, 1) := by decide +kernel
theorem dL_alike_121 : decode cL_alike 121 = .ok (.bipush 24, 2) := by decide +kernel
theorem dL_alike_123 : decode cL_alike 123 = .ok (.idiv, 1) := by decide +kernel
theorem dL_alike_124 : decode cL_alike 124 = .ok (.bipush 9, 2) := by decide +kernel
theorem dL_alike_126 : decode cL_alike 126 = .ok (.irem, 1) := by decide +kernel
theorem dL_alike_127 : decode cL_alike 127 = .ok (.iadd, 1) := by decide +kernel
theorem dL_alike_128 : decode cL_alike 128 = .ok (.iconst 1, 1) := by decide +kernel
theorem dL_alike_129 : decode cL_alike 129 = .ok (.iload_n 2, 1) := by decide +kernel
theorem dL_alike_130 : decode cL_alike 130 = .ok (.iconst 5, 1) := by decide +kernel
theorem dL_alike_131 : decode cL_alike 131 = .ok (.irem, 1) := by decide +kernel
theorem dL_alike_132 : decode cL_alike 132 = .ok (.iadd, 1) := by decide +kernel
theorem dL_alike_133 : decode cL_alike 133 = .ok (.bipush 12, 2) := by decide +kernel
theorem dL_alike_135 : decode cL_alike 135 = .ok (.iload_n 2, 1) := by decide +kernel
theorem dL_alike_136 : decode cL_alike 136 = .ok (.bipush 14, 2) := by decide +kernel
theorem dL_alike_138 : decode cL_alike 138 = .ok (.irem, 1) := by decide +kernel
theorem dL_alike_139 : decode cL_alike 139 = .ok (.iadd, 1) := by decide +kernel
theorem dL_alike_140 : decode cL_alike 140 = .ok (.invokestatic 134, 3) := by decide +kernel
theorem dL_alike_143 : decode cL_alike 143 = .ok (.aload_n 1, 1) := by decide +kernel
theorem dL_alike_144 : decode cL_alike 144 = .ok (.iload_n 2, 1) := by decide +kernel
theorem dL_alike_145 : decode cL_alike 145 = .ok (.iconst 4, 1) := by decide +kernel
theorem dL_alike_146 : decode cL_alike 146 = .ok (.irem, 1) := by decide +kernel
theorem dL_alike_147 : decode cL_alike 147 = .ok (.iload_n 2, 1) := by decide +kernel
theorem dL_alike_148 : decode cL_alike 148 = .ok (.iconst 4, 1) := by decide +kernel
theorem dL_alike_149 : decode cL_alike 149 = .ok (.idiv, 1) := by decide +kernel
theorem dL_alike_150 : decode cL_alike 150 = .ok (.bipush 6, 2) := by decide +kernel
theorem dL_alike_152 : decode cL_alike 152 = .ok (.irem, 1) := by decide +kernel
theorem dL_alike_153 : decode cL_alike 153 = .ok (.aload_n 1, 1) := by decide +kernel
theorem dL_alike_154 : decode cL_alike 154 = .ok (.iconst 0, 1) := by decide +kernel
theorem dL_alike_155 : decode cL_alike 155 = .ok (.invokestatic 104, 3) := by decide +kernel
theorem dL_alike_158 : decode cL_alike 158 = .ok (.l2i, 1) := by decide +kernel
theorem dL_alike_159 : decode cL_alike 159 = .ok (.iload_n 2, 1) := by decide +kernel
theorem dL_alike_160 : decode cL_alike 160 = .ok (.bipush 24, 2) := by decide +kernel
theorem dL_alike_162 : decode cL_alike 162 = .ok (.idiv, 1) := by decide +kernel
theorem dL_alike_163 : decode cL_alike 163 = .ok (.bipush 9, 2) := by decide +kernel
theorem dL_alike_165 : decode cL_alike 165 = .ok (.irem, 1) := by decide +kernel
theorem dL_alike_166 : decode cL_alike 166 = .ok (.iadd, 1) := by decide +kernel
theorem dL_alike_167 : decode cL_alike 167 = .ok (.iconst 1, 1) := by decide +kernel
theorem dL_alike_168 : decode cL_alike 168 = .ok (.iload_n 2, 1) := by decide +kernel
theorem dL_alike_169 : decode cL_alike 169 = .ok (.iconst 5, 1) := by decide +kernel
theorem dL_alike_170 : decode cL_alike 170 = .ok (.irem, 1) := by decide +kernel
theorem dL_alike_171 : decode cL_alike 171 = .ok (.iadd, 1) := by decide +kernel
theorem dL_alike_172 : decode cL_alike 172 = .ok (.bipush 12, 2) := by decide +kernel
theorem dL_alike_174 : decode cL_alike 174 = .ok (.iload_n 2, 1) := by decide +kernel
theorem dL_alike_175 : decode cL_alike 175 = .ok (.bipush 14, 2) := by decide +kernel
theorem dL_alike_177 : decode cL_alike 177 = .ok (.irem, 1) := by decide +kernel
theorem dL_alike_178 : decode cL_alike 178 = .ok (.iadd, 1) := by decide +kernel
theorem dL_alike_179 : decode cL_alike 179 = .ok (.invokestatic 134, 3) := by decide +kernel
theorem dL_alike_182 : decode cL_alike 182 = .ok (.lcmp, 1) := by decide +kernel
theorem dL_alike_183 : decode cL_alike 183 = .ok (.ifCond .ne 59, 3) := by decide +kernel
theorem dL_alike_186 : decode cL_alike 186 = .ok (.aload_n 0, 1) := by decide +kernel
theorem dL_alike_187 : decode cL_alike 187 = .ok (.iload_n 2, 1) := by decide +kernel
theorem dL_alike_188 : decode cL_alike 188 = .ok (.i2l, 1) := by decide +kernel
theorem dL_alike_189 : decode cL_alike 189 = .ok (.bipush 20, 2) := by decide +kernel
theorem dL_alike_191 : decode cL_alike 191 = .ok (.invokestatic 159, 3) := by decide +kernel
theorem dL_alike_194 : decode cL_alike 194 = .ok (.aload_n 1, 1) := by decide +kernel
theorem dL_alike_195 : decode cL_alike 195 = .ok (.iload_n 2, 1) := by decide +kernel
theorem dL_alike_196 : decode cL_alike 196 = .ok (.i2l, 1) := by decide +kernel
theorem dL_alike_197 : decode cL_alike 197 = .ok (.bipush 20, 2) := by decide +kernel
theorem dL_alike_199 : decode cL_alike 199 = .ok (.invokestatic 159, 3) := by decide +kernel
theorem dL_alike_202 : decode cL_alike 202 = .ok (.lcmp, 1) := by decide +kernel
theorem dL_alike_203 : decode cL_alike 203 = .ok (.ifCond .ne 39, 3) := by decide +kernel
theorem dL_alike_206 : decode cL_alike 206 = .ok (.aload_n 0, 1) := by decide +kernel
theorem dL_alike_207 : decode cL_alike 207 = .ok (.iconst 3, 1) := by decide +kernel
theorem dL_alike_208 : decode cL_alike 208 = .ok (.ldc2_w 192, 3) := by decide +kernel
theorem dL_alike_211 : decode cL_alike 211 = .ok (.iload_n 2, 1) := by decide +kernel
theorem dL_alike_212 : decode cL_alike 212 = .ok (.bipush 12, 2) := by decide +kernel
theorem dL_alike_214 : decode cL_alike 214 = .ok (.irem, 1) := by decide +kernel
theorem dL_alike_215 : decode cL_alike 215 = .ok (.i2l, 1) := by decide +kernel
theorem dL_alike_216 : decode cL_alike 216 = .ok (.ladd, 1) := by decide +kernel
theorem dL_alike_217 : decode cL_alike 217 = .ok (.invokestatic 153, 3) := by decide +kernel
theorem dL_alike_220 : decode cL_alike 220 = .ok (.aload_n 1, 1) := by decide +kernel
theorem dL_alike_221 : decode cL_alike 221 = .ok (.iconst 3, 1) := by decide +kernel
theorem dL_alike_222 : decode cL_alike 222 = .ok (.ldc2_w 192, 3) := by decide +kernel
theorem dL_alike_225 : decode cL_alike 225 = .ok (.iload_n 2, 1) := by decide +kernel
theorem dL_alike_226 : decode cL_alike 226 = .ok (.bipush 12, 2) := by decide +kernel
theorem dL_alike_228 : decode cL_alike 228 = .ok (.irem, 1) := by decide +kernel
theorem dL_alike_229 : decode cL_alike 229 = .ok (.i2l, 1) := by decide +kernel
theorem dL_alike_230 : decode cL_alike 230 = .ok (.ladd, 1) := by decide +kernel
theorem dL_alike_231 : decode cL_alike 231 = .ok (.invokestatic 153, 3) := by decide +kernel
theorem dL_alike_234 : decode cL_alike 234 = .ok (.lcmp, 1) := by decide +kernel
theorem dL_alike_235 : decode cL_alike 235 = .ok (.ifCond .ne 7, 3) := by decide +kernel
theorem dL_alike_238 : decode cL_alike 238 = .ok (.iconst 1, 1) := by decide +kernel
theorem dL_alike_239 : decode cL_alike 239 = .ok (.goto 4, 3) := by decide +kernel
theorem dL_alike_242 : decode cL_alike 242 = .ok (.iconst 0, 1) := by decide +kernel
theorem dL_alike_243 : decode cL_alike 243 = .ok (.ireturn, 1) := by decide +kernel
theorem dL_says_0 : decode cL_says 0 = .ok (.aload_n 0, 1) := by decide +kernel
theorem dL_says_1 : decode cL_says 1 = .ok (.iload_n 1, 1) := by decide +kernel
theorem dL_says_2 : decode cL_says 2 = .ok (.invokestatic 166, 3) := by decide +kernel
theorem dL_says_5 : decode cL_says 5 = .ok (.lconst 0, 1) := by decide +kernel
theorem dL_says_6 : decode cL_says 6 = .ok (.lcmp, 1) := by decide +kernel
theorem dL_says_7 : decode cL_says 7 = .ok (.ifCond .le 7, 3) := by decide +kernel
theorem dL_says_10 : decode cL_says 10 = .ok (.iconst 1, 1) := by decide +kernel
theorem dL_says_11 : decode cL_says 11 = .ok (.goto 4, 3) := by decide +kernel
theorem dL_says_14 : decode cL_says 14 = .ok (.iconst 0, 1) := by decide +kernel
theorem dL_says_15 : decode cL_says 15 = .ok (.ireturn, 1) := by decide +kernel
theorem dL_two_0 : decode cL_two 0 = .ok (.aload_n 0, 1) := by decide +kernel
theorem dL_two_1 : decode cL_two 1 = .ok (.bipush 48, 2) := by decide +kernel
theorem dL_two_3 : decode cL_two 3 = .ok (.iload_n 1, 1) := by decide +kernel
theorem dL_two_4 : decode cL_two 4 = .ok (.bipush 10, 2) := by decide +kernel
theorem dL_two_6 : decode cL_two 6 = .ok (.idiv, 1) := by decide +kernel
theorem dL_two_7 : decode cL_two 7 = .ok (.iadd, 1) := by decide +kernel
theorem dL_two_8 : decode cL_two 8 = .ok (.invokestatic 194, 3) := by decide +kernel
theorem dL_two_11 : decode cL_two 11 = .ok (.ifCond .eq 21, 3) := by decide +kernel
theorem dL_two_14 : decode cL_two 14 = .ok (.aload_n 0, 1) := by decide +kernel
theorem dL_two_15 : decode cL_two 15 = .ok (.bipush 48, 2) := by decide +kernel
theorem dL_two_17 : decode cL_two 17 = .ok (.iload_n 1, 1) := by decide +kernel
theorem dL_two_18 : decode cL_two 18 = .ok (.bipush 10, 2) := by decide +kernel
theorem dL_two_20 : decode cL_two 20 = .ok (.irem, 1) := by decide +kernel
theorem dL_two_21 : decode cL_two 21 = .ok (.iadd, 1) := by decide +kernel
theorem dL_two_22 : decode cL_two 22 = .ok (.invokestatic 194, 3) := by decide +kernel
theorem dL_two_25 : decode cL_two 25 = .ok (.ifCond .eq 7, 3) := by decide +kernel
theorem dL_two_28 : decode cL_two 28 = .ok (.iconst 1, 1) := by decide +kernel
theorem dL_two_29 : decode cL_two 29 = .ok (.goto 4, 3) := by decide +kernel
theorem dL_two_32 : decode cL_two 32 = .ok (.iconst 0, 1) := by decide +kernel
theorem dL_two_33 : decode cL_two 33 = .ok (.ireturn, 1) := by decide +kernel
theorem dL_tells_0 : decode cL_tells 0 = .ok (.iconst 1, 1) := by decide +kernel
theorem dL_tells_1 : decode cL_tells 1 = .ok (.iload_n 2, 1) := by decide +kernel
theorem dL_tells_2 : decode cL_tells 2 = .ok (.iconst 4, 1) := by decide +kernel
theorem dL_tells_3 : decode cL_tells 3 = .ok (.irem, 1) := by decide +kernel
theorem dL_tells_4 : decode cL_tells 4 = .ok (.iadd, 1) := by decide +kernel
theorem dL_tells_5 : decode cL_tells 5 = .ok (.istore_n 3, 1) := by decide +kernel
theorem dL_tells_6 : decode cL_tells 6 = .ok (.iconst 1, 1) := by decide +kernel
theorem dL_tells_7 : decode cL_tells 7 = .ok (.iload_n 2, 1) := by decide +kernel
theorem dL_tells_8 : decode cL_tells 8 = .ok (.iconst 4, 1) := by decide +kernel
theorem dL_tells_9 : decode cL_tells 9 = .ok (.idiv, 1) := by decide +kernel
theorem dL_tells_10 : decode cL_tells 10 = .ok (.iconst 5, 1) := by decide +kernel
theorem dL_tells_11 : decode cL_tells 11 = .ok (.irem, 1) := by decide +kernel
theorem dL_tells_12 : decode cL_tells 12 = .ok (.iadd, 1) := by decide +kernel
theorem dL_tells_13 : decode cL_tells 13 = .ok (.istore 4, 2) := by decide +kernel
theorem dL_tells_15 : decode cL_tells 15 = .ok (.aload_n 0, 1) := by decide +kernel
theorem dL_tells_16 : decode cL_tells 16 = .ok (.invokevirtual 198, 3) := by decide +kernel
theorem dL_tells_19 : decode cL_tells 19 = .ok (.ifCond .lt 48, 3) := by decide +kernel
theorem dL_tells_22 : decode cL_tells 22 = .ok (.aload_n 0, 1) := by decide +kernel
theorem dL_tells_23 : decode cL_tells 23 = .ok (.bipush 72, 2) := by decide +kernel
theorem dL_tells_25 : decode cL_tells 25 = .ok (.invokestatic 194, 3) := by decide +kernel
theorem dL_tells_28 : decode cL_tells 28 = .ok (.ifCond .eq 39, 3) := by decide +kernel
theorem dL_tells_31 : decode cL_tells 31 = .ok (.aload_n 0, 1) := by decide +kernel
theorem dL_tells_32 : decode cL_tells 32 = .ok (.bipush 111, 2) := by decide +kernel
theorem dL_tells_34 : decode cL_tells 34 = .ok (.invokestatic 194, 3) := by decide +kernel
theorem dL_tells_37 : decode cL_tells 37 = .ok (.ifCond .eq 30, 3) := by decide +kernel
theorem dL_tells_40 : decode cL_tells 40 = .ok (.aload_n 0, 1) := by decide +kernel
theorem dL_tells_41 : decode cL_tells 41 = .ok (.bipush 43, 2) := by decide +kernel
theorem dL_tells_43 : decode cL_tells 43 = .ok (.invokestatic 194, 3) := by decide +kernel
theorem dL_tells_46 : decode cL_tells 46 = .ok (.ifCond .eq 21, 3) := by decide +kernel
theorem dL_tells_49 : decode cL_tells 49 = .ok (.aload_n 0, 1) := by decide +kernel
theorem dL_tells_50 : decode cL_tells 50 = .ok (.iload_n 2, 1) := by decide +kernel
theorem dL_tells_51 : decode cL_tells 51 = .ok (.bipush 20, 2) := by decide +kernel
theorem dL_tells_53 : decode cL_tells 53 = .ok (.idiv, 1) := by decide +kernel
theorem dL_tells_54 : decode cL_tells 54 = .ok (.bipush 16, 2) := by decide +kernel
theorem dL_tells_56 : decode cL_tells 56 = .ok (.irem, 1) := by decide +kernel
theorem dL_tells_57 : decode cL_tells 57 = .ok (.invokestatic 201, 3) := by decide +kernel
theorem dL_tells_60 : decode cL_tells 60 = .ok (.ifCond .eq 7, 3) := by decide +kernel
theorem dL_tells_63 : decode cL_tells 63 = .ok (.iconst 1, 1) := by decide +kernel
theorem dL_tells_64 : decode cL_tells 64 = .ok (.goto 4, 3) := by decide +kernel
theorem dL_tells_67 : decode cL_tells 67 = .ok (.iconst 0, 1) := by decide +kernel
theorem dL_tells_68 : decode cL_tells 68 = .ok (.istore 5, 2) := by decide +kernel
theorem dL_tells_70 : decode cL_tells 70 = .ok (.iconst 0, 1) := by decide +kernel
theorem dL_tells_71 : decode cL_tells 71 = .ok (.istore 6, 2) := by decide +kernel
theorem dL_tells_73 : decode cL_tells 73 = .ok (.iload 6, 2) := by decide +kernel
theorem dL_tells_75 : decode cL_tells 75 = .ok (.iload_n 3, 1) := by decide +kernel
theorem dL_tells_76 : decode cL_tells 76 = .ok (.if_icmp .ge 115, 3) := by decide +kernel
theorem dL_tells_79 : decode cL_tells 79 = .ok (.iload 5, 2) := by decide +kernel
theorem dL_tells_81 : decode cL_tells 81 = .ok (.ifCond .eq 110, 3) := by decide +kernel
theorem dL_tells_84 : decode cL_tells 84 = .ok (.aload_n 0, 1) := by decide +kernel
theorem dL_tells_85 : decode cL_tells 85 = .ok (.bipush 114, 2) := by decide +kernel
theorem dL_tells_87 : decode cL_tells 87 = .ok (.invokestatic 194, 3) := by decide +kernel
theorem dL_tells_90 : decode cL_tells 90 = .ok (.ifCond .eq 92, 3) := by decide +kernel
theorem dL_tells_93 : decode cL_tells 93 = .ok (.aload_n 0, 1) := by decide +kernel
theorem dL_tells_94 : decode cL_tells 94 = .ok (.bipush 49, 2) := by decide +kernel
theorem dL_tells_96 : decode cL_tells 96 = .ok (.iload_n 1, 1) := by decide +kernel
theorem dL_tells_97 : decode cL_tells 97 = .ok (.iload 6, 2) := by decide +kernel
theorem dL_tells_99 : decode cL_tells 99 = .ok (.ishr, 1) := by decide +kernel
theorem dL_tells_100 : decode cL_tells 100 = .ok (.sipush 255, 3) := by decide +kernel
theorem dL_tells_103 : decode cL_tells 103 = .ok (.iand, 1) := by decide +kernel
theorem dL_tells_104 : decode cL_tells 104 = .ok (.bipush 9, 2) := by decide +kernel
theorem dL_tells_106 : decode cL_tells 106 = .ok (.irem, 1) := by decide +kernel
theorem dL_tells_107 : decode cL_tells 107 = .ok (.iadd, 1) := by decide +kernel
theorem dL_tells_108 : decode cL_tells 108 = .ok (.invokestatic 194, 3) := by decide +kernel
theorem dL_tells_111 : decode cL_tells 111 = .ok (.ifCond .eq 71, 3) := by decide +kernel
theorem dL_tells_114 : decode cL_tells 114 = .ok (.aload_n 0, 1) := by decide +kernel
theorem dL_tells_115 : decode cL_tells 115 = .ok (.bipush 49, 2) := by decide +kernel
theorem dL_tells_117 : decode cL_tells 117 = .ok (.iload_n 2, 1) := by decide +kernel
theorem dL_tells_118 : decode cL_tells 118 = .ok (.iload 6, 2) := by decide +kernel
theorem dL_tells_120 : decode cL_tells 120 = .ok (.ishr, 1) := by decide +kernel
theorem dL_tells_121 : decode cL_tells 121 = .ok (.sipush 255, 3) := by decide +kernel
theorem dL_tells_124 : decode cL_tells 124 = .ok (.iand, 1) := by decide +kernel
theorem dL_tells_125 : decode cL_tells 125 = .ok (.bipush 9, 2) := by decide +kernel
theorem dL_tells_127 : decode cL_tells 127 = .ok (.irem, 1) := by decide +kernel
theorem dL_tells_128 : decode cL_tells 128 = .ok (.iadd, 1) := by decide +kernel
theorem dL_tells_129 : decode cL_tells 129 = .ok (.invokestatic 194, 3) := by decide +kernel
theorem dL_tells_132 : decode cL_tells 132 = .ok (.ifCond .eq 50, 3) := by decide +kernel
theorem dL_tells_135 : decode cL_tells 135 = .ok (.aload_n 0, 1) := by decide +kernel
theorem dL_tells_136 : decode cL_tells 136 = .ok (.bipush 49, 2) := by decide +kernel
theorem dL_tells_138 : decode cL_tells 138 = .ok (.iload_n 1, 1) := by decide +kernel
theorem dL_tells_139 : decode cL_tells 139 = .ok (.iload 6, 2) := by decide +kernel
theorem dL_tells_141 : decode cL_tells 141 = .ok (.iconst 3, 1) := by decide +kernel
theorem dL_tells_142 : decode cL_tells 142 = .ok (.iadd, 1) := by decide +kernel
theorem dL_tells_143 : decode cL_tells 143 = .ok (.ishr, 1) := by decide +kernel
theorem dL_tells_144 : decode cL_tells 144 = .ok (.sipush 255, 3) := by decide +kernel
theorem dL_tells_147 : decode cL_tells 147 = .ok (.iand, 1) := by decide +kernel
theorem dL_tells_148 : decode cL_tells 148 = .ok (.bipush 9, 2) := by decide +kernel
theorem dL_tells_150 : decode cL_tells 150 = .ok (.irem, 1) := by decide +kernel
theorem dL_tells_151 : decode cL_tells 151 = .ok (.iadd, 1) := by decide +kernel
theorem dL_tells_152 : decode cL_tells 152 = .ok (.invokestatic 194, 3) := by decide +kernel
theorem dL_tells_155 : decode cL_tells 155 = .ok (.ifCond .eq 27, 3) := by decide +kernel
theorem dL_tells_158 : decode cL_tells 158 = .ok (.aload_n 0, 1) := by decide +kernel
theorem dL_tells_159 : decode cL_tells 159 = .ok (.iload_n 1, 1) := by decide +kernel
theorem dL_tells_160 : decode cL_tells 160 = .ok (.iconst 2, 1) := by decide +kernel
theorem dL_tells_161 : decode cL_tells 161 = .ok (.iload 6, 2) := by decide +kernel
theorem dL_tells_163 : decode cL_tells 163 = .ok (.imul, 1) := by decide +kernel
theorem dL_tells_164 : decode cL_tells 164 = .ok (.ishr, 1) := by decide +kernel
theorem dL_tells_165 : decode cL_tells 165 = .ok (.sipush 255, 3) := by decide +kernel
theorem dL_tells_168 : decode cL_tells 168 = .ok (.iand, 1) := by decide +kernel
theorem dL_tells_169 : decode cL_tells 169 = .ok (.bipush 22, 2) := by decide +kernel
theorem dL_tells_171 : decode cL_tells 171 = .ok (.irem, 1) := by decide +kernel
theorem dL_tells_172 : decode cL_tells 172 = .ok (.invokestatic 201, 3) := by decide +kernel
theorem dL_tells_175 : decode cL_tells 175 = .ok (.ifCond .eq 7, 3) := by decide +kernel
theorem dL_tells_178 : decode cL_tells 178 = .ok (.iconst 1, 1) := by decide +kernel
theorem dL_tells_179 : decode cL_tells 179 = .ok (.goto 4, 3) := by decide +kernel
theorem dL_tells_182 : decode cL_tells 182 = .ok (.iconst 0, 1) := by decide +kernel
theorem dL_tells_183 : decode cL_tells 183 = .ok (.istore 5, 2) := by decide +kernel
theorem dL_tells_185 : decode cL_tells 185 = .ok (.iinc 6 1, 3) := by decide +kernel
theorem dL_tells_188 : decode cL_tells 188 = .ok (.goto (-115), 3) := by decide +kernel
theorem dL_tells_191 : decode cL_tells 191 = .ok (.iconst 0, 1) := by decide +kernel
theorem dL_tells_192 : decode cL_tells 192 = .ok (.istore 6, 2) := by decide +kernel
theorem dL_tells_194 : decode cL_tells 194 = .ok (.iload 6, 2) := by decide +kernel
theorem dL_tells_196 : decode cL_tells 196 = .ok (.iload 4, 2) := by decide +kernel
theorem dL_tells_198 : decode cL_tells 198 = .ok (.if_icmp .ge 22, 3) := by decide +kernel
theorem dL_tells_201 : decode cL_tells 201 = .ok (.iload 5, 2) := by decide +kernel
theorem dL_tells_203 : decode cL_tells 203 = .ok (.ifCond .eq 17, 3) := by decide +kernel
theorem dL_tells_206 : decode cL_tells 206 = .ok (.aload_n 0, 1) := by decide +kernel
theorem dL_tells_207 : decode cL_tells 207 = .ok (.bipush 103, 2) := by decide +kernel
theorem dL_tells_209 : decode cL_tells 209 = .ok (.invokestatic 194, 3) := by decide +kernel
theorem dL_tells_212 : decode cL_tells 212 = .ok (.istore 5, 2) := by decide +kernel
theorem dL_tells_214 : decode cL_tells 214 = .ok (.iinc 6 1, 3) := by decide +kernel
theorem dL_tells_217 : decode cL_tells 217 = .ok (.goto (-23), 3) := by decide +kernel
theorem dL_tells_220 : decode cL_tells 220 = .ok (.iconst 0, 1) := by decide +kernel
theorem dL_tells_221 : decode cL_tells 221 = .ok (.istore 6, 2) := by decide +kernel
theorem dL_tells_223 : decode cL_tells 223 = .ok (.iload 6, 2) := by decide +kernel
theorem dL_tells_225 : decode cL_tells 225 = .ok (.bipush 6, 2) := by decide +kernel
theorem dL_tells_227 : decode cL_tells 227 = .ok (.if_icmp .ge 138, 3) := by decide +kernel
theorem dL_tells_230 : decode cL_tells 230 = .ok (.iload 5, 2) := by decide +kernel
theorem dL_tells_232 : decode cL_tells 232 = .ok (.ifCond .eq 133, 3) := by decide +kernel
theorem dL_tells_235 : decode cL_tells 235 = .ok (.iload_n 1, 1) := by decide +kernel
theorem dL_tells_236 : decode cL_tells 236 = .ok (.iload 6, 2) := by decide +kernel
theorem dL_tells_238 : decode cL_tells 238 = .ok (.ishr, 1) := by decide +kernel
theorem dL_tells_239 : decode cL_tells 239 = .ok (.sipush 4095, 3) := by decide +kernel
theorem dL_tells_242 : decode cL_tells 242 = .ok (.iand, 1) := by decide +kernel
theorem dL_tells_243 : decode cL_tells 243 = .ok (.bipush 53, 2) := by decide +kernel
theorem dL_tells_245 : decode cL_tells 245 = .ok (.iload 6, 2) := by decide +kernel
theorem dL_tells_247 : decode cL_tells 247 = .ok (.imul, 1) := by decide +kernel
theorem dL_tells_248 : decode cL_tells 248 = .ok (.iadd, 1) := by decide +kernel
theorem dL_tells_249 : decode cL_tells 249 = .ok (.istore 7, 2) := by decide +kernel
theorem dL_tells_251 : decode cL_tells 251 = .ok (.aload_n 0, 1) := by decide +kernel
theorem dL_tells_252 : decode cL_tells 252 = .ok (.bipush 98, 2) := by decide +kernel
theorem dL_tells_254 : decode cL_tells 254 = .ok (.invokestatic 194, 3) := by decide +kernel
theorem dL_tells_257 : decode cL_tells 257 = .ok (.ifCond .eq 99, 3) := by decide +kernel
theorem dL_tells_260 : decode cL_tells 260 = .ok (.aload_n 0, 1) := by decide +kernel
theorem dL_tells_261 : decode cL_tells 261 = .ok (.bipush 48, 2) := by decide +kernel
theorem dL_tells_263 : decode cL_tells 263 = .ok (.iload 6, 2) := by decide +kernel
theorem dL_tells_265 : decode cL_tells 265 = .ok (.iload_n 3, 1) := by decide +kernel
theorem dL_tells_266 : decode cL_tells 266 = .ok (.irem, 1) := by decide +kernel
theorem dL_tells_267 : decode cL_tells 267 = .ok (.iadd, 1) := by decide +kernel
theorem dL_tells_268 : decode cL_tells 268 = .ok (.invokestatic 194, 3) := by decide +kernel
theorem dL_tells_271 : decode cL_tells 271 = .ok (.ifCond .eq 85, 3) := by decide +kernel
theorem dL_tells_274 : decode cL_tells 274 = .ok (.aload_n 0, 1) := by decide +kernel
theorem dL_tells_275 : decode cL_tells 275 = .ok (.bipush 48, 2) := by decide +kernel
theorem dL_tells_277 : decode cL_tells 277 = .ok (.iload 7, 2) := by decide +kernel
theorem dL_tells_279 : decode cL_tells 279 = .ok (.iload 4, 2) := by decide +kernel
theorem dL_tells_281 : decode cL_tells 281 = .ok (.irem, 1) := by decide +kernel
theorem dL_tells_282 : decode cL_tells 282 = .ok (.iadd, 1) := by decide +kernel
theorem dL_tells_283 : decode cL_tells 283 = .ok (.invokestatic 194, 3) := by decide +kernel
theorem dL_tells_286 : decode cL_tells 286 = .ok (.ifCond .eq 70, 3) := by decide +kernel
theorem dL_tells_289 : decode cL_tells 289 = .ok (.aload_n 0, 1) := by decide +kernel
theorem dL_tells_290 : decode cL_tells 290 = .ok (.bipush 48, 2) := by decide +kernel
theorem dL_tells_292 : decode cL_tells 292 = .ok (.invokestatic 194, 3) := by decide +kernel
theorem dL_tells_295 : decode cL_tells 295 = .ok (.ifCond .eq 61, 3) := by decide +kernel
theorem dL_tells_298 : decode cL_tells 298 = .ok (.aload_n 0, 1) := by decide +kernel
theorem dL_tells_299 : decode cL_tells 299 = .ok (.bipush 8, 2) := by decide +kernel
theorem dL_tells_301 : decode cL_tells 301 = .ok (.iload 6, 2) := by decide +kernel
theorem dL_tells_303 : decode cL_tells 303 = .ok (.imul, 1) := by decide +kernel
theorem dL_tells_304 : decode cL_tells 304 = .ok (.iload 7, 2) := by decide +kernel
theorem dL_tells_306 : decode cL_tells 306 = .ok (.iconst 5, 1) := by decide +kernel
theorem dL_tells_307 : decode cL_tells 307 = .ok (.idiv, 1) := by decide +kernel
theorem dL_tells_308 : decode cL_tells 308 = .ok (.iconst 3, 1) := by decide +kernel
theorem dL_tells_309 : decode cL_tells 309 = .ok (.irem, 1) := by decide +kernel
theorem dL_tells_310 : decode cL_tells 310 = .ok (.iadd, 1) := by decide +kernel
theorem dL_tells_311 : decode cL_tells 311 = .ok (.invokestatic 201, 3) := by decide +kernel
theorem dL_tells_314 : decode cL_tells 314 = .ok (.ifCond .eq 42, 3) := by decide +kernel
theorem dL_tells_317 : decode cL_tells 317 = .ok (.aload_n 0, 1) := by decide +kernel
theorem dL_tells_318 : decode cL_tells 318 = .ok (.iconst 1, 1) := by decide +kernel
theorem dL_tells_319 : decode cL_tells 319 = .ok (.iload 7, 2) := by decide +kernel
theorem dL_tells_321 : decode cL_tells 321 = .ok (.bipush 15, 2) := by decide +kernel
theorem dL_tells_323 : decode cL_tells 323 = .ok (.idiv, 1) := by decide +kernel
theorem dL_tells_324 : decode cL_tells 324 = .ok (.bipush 6, 2) := by decide +kernel
theorem dL_tells_326 : decode cL_tells 326 = .ok (.irem, 1) := by decide +kernel
theorem dL_tells_327 : decode cL_tells 327 = .ok (.iadd, 1) := by decide +kernel
theorem dL_tells_328 : decode cL_tells 328 = .ok (.invokestatic 201, 3) := by decide +kernel
theorem dL_tells_331 : decode cL_tells 331 = .ok (.ifCond .eq 25, 3) := by decide +kernel
theorem dL_tells_334 : decode cL_tells 334 = .ok (.aload_n 0, 1) := by decide +kernel
theorem dL_tells_335 : decode cL_tells 335 = .ok (.bipush 12, 2) := by decide +kernel
theorem dL_tells_337 : decode cL_tells 337 = .ok (.iload 7, 2) := by decide +kernel
theorem dL_tells_339 : decode cL_tells 339 = .ok (.bipush 90, 2) := by decide +kernel
theorem dL_tells_341 : decode cL_tells 341 = .ok (.idiv, 1) := by decide +kernel
theorem dL_tells_342 : decode cL_tells 342 = .ok (.bipush 14, 2) := by decide +kernel
theorem dL_tells_344 : decode cL_tells 344 = .ok (.irem, 1) := by decide +kernel
theorem dL_tells_345 : decode cL_tells 345 = .ok (.iadd, 1) := by decide +kernel
theorem dL_tells_346 : decode cL_tells 346 = .ok (.invokestatic 201, 3) := by decide +kernel
theorem dL_tells_349 : decode cL_tells 349 = .ok (.ifCond .eq 7, 3) := by decide +kernel
theorem dL_tells_352 : decode cL_tells 352 = .ok (.iconst 1, 1) := by decide +kernel
theorem dL_tells_353 : decode cL_tells 353 = .ok (.goto 4, 3) := by decide +kernel
theorem dL_tells_356 : decode cL_tells 356 = .ok (.iconst 0, 1) := by decide +kernel
theorem dL_tells_357 : decode cL_tells 357 = .ok (.istore 5, 2) := by decide +kernel
theorem dL_tells_359 : decode cL_tells 359 = .ok (.iinc 6 1, 3) := by decide +kernel
theorem dL_tells_362 : decode cL_tells 362 = .ok (.goto (-139), 3) := by decide +kernel
theorem dL_tells_365 : decode cL_tells 365 = .ok (.iload 5, 2) := by decide +kernel
theorem dL_tells_367 : decode cL_tells 367 = .ok (.ifCond .eq 16, 3) := by decide +kernel
theorem dL_tells_370 : decode cL_tells 370 = .ok (.aload_n 0, 1) := by decide +kernel
theorem dL_tells_371 : decode cL_tells 371 = .ok (.invokevirtual 186, 3) := by decide +kernel
theorem dL_tells_374 : decode cL_tells 374 = .ok (.bipush (-99), 2) := by decide +kernel
theorem dL_tells_376 : decode cL_tells 376 = .ok (.if_icmp .ne 7, 3) := by decide +kernel
theorem dL_tells_379 : decode cL_tells 379 = .ok (.iconst 1, 1) := by decide +kernel
theorem dL_tells_380 : decode cL_tells 380 = .ok (.goto 4, 3) := by decide +kernel
theorem dL_tells_383 : decode cL_tells 383 = .ok (.iconst 0, 1) := by decide +kernel
theorem dL_tells_384 : decode cL_tells 384 = .ok (.ireturn, 1) := by decide +kernel
theorem dL_act_0 : decode cL_act 0 = .ok (.aload_n 0, 1) := by decide +kernel
theorem dL_act_1 : decode cL_act 1 = .ok (.iconst 0, 1) := by decide +kernel
theorem dL_act_2 : decode cL_act 2 = .ok (.invokestatic 104, 3) := by decide +kernel
theorem dL_act_5 : decode cL_act 5 = .ok (.l2i, 1) := by decide +kernel
theorem dL_act_6 : decode cL_act 6 = .ok (.istore_n 3, 1) := by decide +kernel
theorem dL_act_7 : decode cL_act 7 = .ok (.aload_n 0, 1) := by decide +kernel
theorem dL_act_8 : decode cL_act 8 = .ok (.iconst 1, 1) := by decide +kernel
theorem dL_act_9 : decode cL_act 9 = .ok (.invokestatic 104, 3) := by decide +kernel
theorem dL_act_12 : decode cL_act 12 = .ok (.l2i, 1) := by decide +kernel
theorem dL_act_13 : decode cL_act 13 = .ok (.istore 4, 2) := by decide +kernel
theorem dL_act_15 : decode cL_act 15 = .ok (.iload 4, 2) := by decide +kernel
theorem dL_act_17 : decode cL_act 17 = .ok (.ifCond .ne 7, 3) := by decide +kernel
theorem dL_act_20 : decode cL_act 20 = .ok (.iconst 0, 1) := by decide +kernel
theorem dL_act_21 : decode cL_act 21 = .ok (.goto 7, 3) := by decide +kernel
theorem dL_act_24 : decode cL_act 24 = .ok (.iload_n 2, 1) := by decide +kernel
theorem dL_act_25 : decode cL_act 25 = .ok (.iload 4, 2) := by decide +kernel
theorem dL_act_27 : decode cL_act 27 = .ok (.irem, 1) := by decide +kernel
theorem dL_act_28 : decode cL_act 28 = .ok (.istore 5, 2) := by decide +kernel
theorem dL_act_30 : decode cL_act 30 = .ok (.iload_n 2, 1) := by decide +kernel
theorem dL_act_31 : decode cL_act 31 = .ok (.iconst 4, 1) := by decide +kernel
theorem dL_act_32 : decode cL_act 32 = .ok (.idiv, 1) := by decide +kernel
theorem dL_act_33 : decode cL_act 33 = .ok (.istore 6, 2) := by decide +kernel
theorem dL_act_35 : decode cL_act 35 = .ok (.iload_n 1, 1) := by decide +kernel
theorem dL_act_36 : decode cL_act 36 = .ok (.bipush 24, 2) := by decide +kernel
theorem dL_act_38 : decode cL_act 38 = .ok (.irem, 1) := by decide +kernel
theorem dL_act_39 : decode cL_act 39 = .ok (.tableswitch 257 0 15 #[77, 120, 125, 125, 125, 125, 125, 169, 179, 179, 179, 198, 198, 211, 221, 226], 77) := by decide +kernel
theorem dL_act_116 : decode cL_act 116 = .ok (.aload_n 0, 1) := by decide +kernel
theorem dL_act_117 : decode cL_act 117 = .ok (.iconst 1, 1) := by decide +kernel
theorem dL_act_118 : decode cL_act 118 = .ok (.iload 6, 2) := by decide +kernel
theorem dL_act_120 : decode cL_act 120 = .ok (.bipush 9, 2) := by decide +kernel
theorem dL_act_122 : decode cL_act 122 = .ok (.irem, 1) := by decide +kernel
theorem dL_act_123 : decode cL_act 123 = .ok (.iadd, 1) := by decide +kernel
theorem dL_act_124 : decode cL_act 124 = .ok (.iconst 1, 1) := by decide +kernel
theorem dL_act_125 : decode cL_act 125 = .ok (.iload 6, 2) := by decide +kernel
theorem dL_act_127 : decode cL_act 127 = .ok (.bipush 9, 2) := by decide +kernel
theorem dL_act_129 : decode cL_act 129 = .ok (.idiv, 1) := by decide +kernel
theorem dL_act_130 : decode cL_act 130 = .ok (.bipush 9, 2) := by decide +kernel
theorem dL_act_132 : decode cL_act 132 = .ok (.irem, 1) := by decide +kernel
theorem dL_act_133 : decode cL_act 133 = .ok (.iadd, 1) := by decide +kernel
theorem dL_act_134 : decode cL_act 134 = .ok (.iconst 1, 1) := by decide +kernel
theorem dL_act_135 : decode cL_act 135 = .ok (.iload 6, 2) := by decide +kernel
theorem dL_act_137 : decode cL_act 137 = .ok (.bipush 81, 2) := by decide +kernel
theorem dL_act_139 : decode cL_act 139 = .ok (.idiv, 1) := by decide +kernel
theorem dL_act_140 : decode cL_act 140 = .ok (.bipush 9, 2) := by decide +kernel
theorem dL_act_142 : decode cL_act 142 = .ok (.irem, 1) := by decide +kernel
theorem dL_act_143 : decode cL_act 143 = .ok (.iadd, 1) := by decide +kernel
theorem dL_act_144 : decode cL_act 144 = .ok (.iload 6, 2) := by decide +kernel
theorem dL_act_146 : decode cL_act 146 = .ok (.sipush 729, 3) := by decide +kernel
theorem dL_act_149 : decode cL_act 149 = .ok (.idiv, 1) := by decide +kernel
theorem dL_act_150 : decode cL_act 150 = .ok (.bipush 30, 2) := by decide +kernel
theorem dL_act_152 : decode cL_act 152 = .ok (.irem, 1) := by decide +kernel
theorem dL_act_153 : decode cL_act 153 = .ok (.iconst 5, 1) := by decide +kernel
theorem dL_act_154 : decode cL_act 154 = .ok (.isub, 1) := by decide +kernel
theorem dL_act_155 : decode cL_act 155 = .ok (.invokestatic 126, 3) := by decide +kernel
theorem dL_act_158 : decode cL_act 158 = .ok (.lreturn, 1) := by decide +kernel
theorem dL_act_159 : decode cL_act 159 = .ok (.aload_n 0, 1) := by decide +kernel
theorem dL_act_160 : decode cL_act 160 = .ok (.invokestatic 129, 3) := by decide +kernel
theorem dL_act_163 : decode cL_act 163 = .ok (.lreturn, 1) := by decide +kernel
theorem dL_act_164 : decode cL_act 164 = .ok (.aload_n 0, 1) := by decide +kernel
theorem dL_act_165 : decode cL_act 165 = .ok (.iload 5, 2) := by decide +kernel
theorem dL_act_167 : decode cL_act 167 = .ok (.iload 6, 2) := by decide +kernel
theorem dL_act_169 : decode cL_act 169 = .ok (.bipush 6, 2) := by decide +kernel
theorem dL_act_171 : decode cL_act 171 = .ok (.irem, 1) := by decide +kernel
theorem dL_act_172 : decode cL_act 172 = .ok (.iload_n 3, 1) := by decide +kernel
theorem dL_act_173 : decode cL_act 173 = .ok (.iload 6, 2) := by decide +kernel
theorem dL_act_175 : decode cL_act 175 = .ok (.bipush 6, 2) := by decide +kernel
theorem dL_act_177 : decode cL_act 177 = .ok (.idiv, 1) := by decide +kernel
theorem dL_act_178 : decode cL_act 178 = .ok (.bipush 12, 2) := by decide +kernel
theorem dL_act_180 : decode cL_act 180 = .ok (.irem, 1) := by decide +kernel
theorem dL_act_181 : decode cL_act 181 = .ok (.iadd, 1) := by decide +kernel
theorem dL_act_182 : decode cL_act 182 = .ok (.iconst 1, 1) := by decide +kernel
theorem dL_act_183 : decode cL_act 183 = .ok (.iload 6, 2) := by decide +kernel
theorem dL_act_185 : decode cL_act 185 = .ok (.bipush 72, 2) := by decide +kernel
theorem dL_act_187 : decode cL_act 187 = .ok (.idiv, 1) := by decide +kernel
theorem dL_act_188 : decode cL_act 188 = .ok (.bipush 6, 2) := by decide +kernel
theorem dL_act_190 : decode cL_act 190 = .ok (.irem, 1) := by decide +kernel
theorem dL_act_191 : decode cL_act 191 = .ok (.iadd, 1) := by decide +kernel
theorem dL_act_192 : decode cL_act 192 = .ok (.bipush 12, 2) := by decide +kernel
theorem dL_act_194 : decode cL_act 194 = .ok (.iload 6, 2) := by decide +kernel
theorem dL_act_196 : decode cL_act 196 = .ok (.sipush 432, 3) := by decide +kernel
theorem dL_act_199 : decode cL_act 199 = .ok (.idiv, 1) := by decide +kernel
theorem dL_act_200 : decode cL_act 200 = .ok (.bipush 14, 2) := by decide +kernel
theorem dL_act_202 : decode cL_act 202 = .ok (.irem, 1) := by decide +kernel
theorem dL_act_203 : decode cL_act 203 = .ok (.iadd, 1) := by decide +kernel
theorem dL_act_204 : decode cL_act 204 = .ok (.invokestatic 131, 3) := by decide +kernel
theorem dL_act_207 : decode cL_act 207 = .ok (.lreturn, 1) := by decide +kernel
theorem dL_act_208 : decode cL_act 208 = .ok (.aload_n 0, 1) := by decide +kernel
theorem dL_act_209 : decode cL_act 209 = .ok (.iload 6, 2) := by decide +kernel
theorem dL_act_211 : decode cL_act 211 = .ok (.bipush 8, 2) := by decide +kernel
theorem dL_act_213 : decode cL_act 213 = .ok (.irem, 1) := by decide +kernel
theorem dL_act_214 : decode cL_act 214 = .ok (.invokestatic 136, 3) := by decide +kernel
theorem dL_act_217 : decode cL_act 217 = .ok (.lreturn, 1) := by decide +kernel
theorem dL_act_218 : decode cL_act 218 = .ok (.aload_n 0, 1) := by decide +kernel
theorem dL_act_219 : decode cL_act 219 = .ok (.iload 5, 2) := by decide +kernel
theorem dL_act_221 : decode cL_act 221 = .ok (.iload 6, 2) := by decide +kernel
theorem dL_act_223 : decode cL_act 223 = .ok (.iconst 3, 1) := by decide +kernel
theorem dL_act_224 : decode cL_act 224 = .ok (.irem, 1) := by decide +kernel
theorem dL_act_225 : decode cL_act 225 = .ok (.ifCond .le 7, 3) := by decide +kernel
theorem dL_act_228 : decode cL_act 228 = .ok (.iconst 1, 1) := by decide +kernel
theorem dL_act_229 : decode cL_act 229 = .ok (.goto 4, 3) := by decide +kernel
theorem dL_act_232 : decode cL_act 232 = .ok (.iconst 0, 1) := by decide +kernel
theorem dL_act_233 : decode cL_act 233 = .ok (.invokestatic 138, 3) := by decide +kernel
theorem dL_act_236 : decode cL_act 236 = .ok (.lreturn, 1) := by decide +kernel
theorem dL_act_237 : decode cL_act 237 = .ok (.aload_n 0, 1) := by decide +kernel
theorem dL_act_238 : decode cL_act 238 = .ok (.iload 6, 2) := by decide +kernel
theorem dL_act_240 : decode cL_act 240 = .ok (.bipush 46, 2) := by decide +kernel
theorem dL_act_242 : decode cL_act 242 = .ok (.irem, 1) := by decide +kernel
theorem dL_act_243 : decode cL_act 243 = .ok (.bipush 20, 2) := by decide +kernel
theorem dL_act_245 : decode cL_act 245 = .ok (.isub, 1) := by decide +kernel
theorem dL_act_246 : decode cL_act 246 = .ok (.invokestatic 141, 3) := by decide +kernel
theorem dL_act_249 : decode cL_act 249 = .ok (.lreturn, 1) := by decide +kernel
theorem dL_act_250 : decode cL_act 250 = .ok (.aload_n 0, 1) := by decide +kernel
theorem dL_act_251 : decode cL_act 251 = .ok (.iload 6, 2) := by decide +kernel
theorem dL_act_253 : decode cL_act 253 = .ok (.bipush 6, 2) := by decide +kernel
theorem dL_act_255 : decode cL_act 255 = .ok (.irem, 1) := by decide +kernel
theorem dL_act_256 : decode cL_act 256 = .ok (.invokestatic 143, 3) := by decide +kernel
theorem dL_act_259 : decode cL_act 259 = .ok (.lreturn, 1) := by decide +kernel
theorem dL_act_260 : decode cL_act 260 = .ok (.aload_n 0, 1) := by decide +kernel
theorem dL_act_261 : decode cL_act 261 = .ok (.invokestatic 184, 3) := by decide +kernel
theorem dL_act_264 : decode cL_act 264 = .ok (.lreturn, 1) := by decide +kernel
theorem dL_act_265 : decode cL_act 265 = .ok (.iload 6, 2) := by decide +kernel
theorem dL_act_267 : decode cL_act 267 = .ok (.iconst 2, 1) := by decide +kernel
theorem dL_act_268 : decode cL_act 268 = .ok (.irem, 1) := by decide +kernel
theorem dL_act_269 : decode cL_act 269 = .ok (.ifCond .ne 16, 3) := by decide +kernel
theorem dL_act_272 : decode cL_act 272 = .ok (.aload_n 0, 1) := by decide +kernel
theorem dL_act_273 : decode cL_act 273 = .ok (.iload 6, 2) := by decide +kernel
theorem dL_act_275 : decode cL_act 275 = .ok (.iconst 2, 1) := by decide +kernel
theorem dL_act_276 : decode cL_act 276 = .ok (.idiv, 1) := by decide +kernel
theorem dL_act_277 : decode cL_act 277 = .ok (.iconst 1, 1) := by decide +kernel
theorem dL_act_278 : decode cL_act 278 = .ok (.iand, 1) := by decide +kernel
theorem dL_act_279 : decode cL_act 279 = .ok (.invokestatic 162, 3) := by decide +kernel
theorem dL_act_282 : decode cL_act 282 = .ok (.goto 13, 3) := by decide +kernel
theorem dL_act_285 : decode cL_act 285 = .ok (.aload_n 0, 1) := by decide +kernel
theorem dL_act_286 : decode cL_act 286 = .ok (.iload 6, 2) := by decide +kernel
theorem dL_act_288 : decode cL_act 288 = .ok (.iconst 2, 1) := by decide +kernel
theorem dL_act_289 : decode cL_act 289 = .ok (.idiv, 1) := by decide +kernel
theorem dL_act_290 : decode cL_act 290 = .ok (.iconst 1, 1) := by decide +kernel
theorem dL_act_291 : decode cL_act 291 = .ok (.iand, 1) := by decide +kernel
theorem dL_act_292 : decode cL_act 292 = .ok (.invokestatic 164, 3) := by decide +kernel
theorem dL_act_295 : decode cL_act 295 = .ok (.lreturn, 1) := by decide +kernel
theorem dL_act_296 : decode cL_act 296 = .ok (.aload_n 0, 1) := by decide +kernel
theorem dL_act_297 : decode cL_act 297 = .ok (.iconst 1, 1) := by decide +kernel
theorem dL_act_298 : decode cL_act 298 = .ok (.iload 6, 2) := by decide +kernel
theorem dL_act_300 : decode cL_act 300 = .ok (.iconst 5, 1) := by decide +kernel
theorem dL_act_301 : decode cL_act 301 = .ok (.irem, 1) := by decide +kernel
theorem dL_act_302 : decode cL_act 302 = .ok (.iadd, 1) := by decide +kernel
theorem dL_act_303 : decode cL_act 303 = .ok (.invokestatic 145, 3) := by decide +kernel
theorem dL_act_306 : decode cL_act 306 = .ok (.lreturn, 1) := by decide +kernel
theorem dL_law_0 : decode cL_law 0 = .ok (.new 10, 3) := by decide +kernel
theorem dL_law_3 : decode cL_law 3 = .ok (.dup, 1) := by decide +kernel
theorem dL_law_4 : decode cL_law 4 = .ok (.invokespecial 204, 3) := by decide +kernel
theorem dL_law_7 : decode cL_law 7 = .ok (.astore_n 1, 1) := by decide +kernel
theorem dL_law_8 : decode cL_law 8 = .ok (.new 10, 3) := by decide +kernel
theorem dL_law_11 : decode cL_law 11 = .ok (.dup, 1) := by decide +kernel
theorem dL_law_12 : decode cL_law 12 = .ok (.invokespecial 204, 3) := by decide +kernel
theorem dL_law_15 : decode cL_law 15 = .ok (.astore_n 2, 1) := by decide +kernel
theorem dL_law_16 : decode cL_law 16 = .ok (.aload_n 1, 1) := by decide +kernel
theorem dL_law_17 : decode cL_law 17 = .ok (.aload_n 2, 1) := by decide +kernel
theorem dL_law_18 : decode cL_law 18 = .ok (.aload_n 0, 1) := by decide +kernel
theorem dL_law_19 : decode cL_law 19 = .ok (.iconst 0, 1) := by decide +kernel
theorem dL_law_20 : decode cL_law 20 = .ok (.invokestatic 205, 3) := by decide +kernel
theorem dL_law_23 : decode cL_law 23 = .ok (.invokestatic 209, 3) := by decide +kernel
theorem dL_law_26 : decode cL_law 26 = .ok (.ifCond .eq 21, 3) := by decide +kernel
theorem dL_law_29 : decode cL_law 29 = .ok (.aload_n 1, 1) := by decide +kernel
theorem dL_law_30 : decode cL_law 30 = .ok (.invokestatic 213, 3) := by decide +kernel
theorem dL_law_33 : decode cL_law 33 = .ok (.ifCond .eq 14, 3) := by decide +kernel
theorem dL_law_36 : decode cL_law 36 = .ok (.aload_n 1, 1) := by decide +kernel
theorem dL_law_37 : decode cL_law 37 = .ok (.invokestatic 217, 3) := by decide +kernel
theorem dL_law_40 : decode cL_law 40 = .ok (.ifCond .eq 7, 3) := by decide +kernel
theorem dL_law_43 : decode cL_law 43 = .ok (.iconst 1, 1) := by decide +kernel
theorem dL_law_44 : decode cL_law 44 = .ok (.goto 4, 3) := by decide +kernel
theorem dL_law_47 : decode cL_law 47 = .ok (.iconst 0, 1) := by decide +kernel
theorem dL_law_48 : decode cL_law 48 = .ok (.istore_n 3, 1) := by decide +kernel
theorem dL_law_49 : decode cL_law 49 = .ok (.iconst 0, 1) := by decide +kernel
theorem dL_law_50 : decode cL_law 50 = .ok (.istore 4, 2) := by decide +kernel
theorem dL_law_52 : decode cL_law 52 = .ok (.iload 4, 2) := by decide +kernel
theorem dL_law_54 : decode cL_law 54 = .ok (.bipush 72, 2) := by decide +kernel
theorem dL_law_56 : decode cL_law 56 = .ok (.if_icmp .ge 221, 3) := by decide +kernel
theorem dL_law_59 : decode cL_law 59 = .ok (.iload_n 3, 1) := by decide +kernel
theorem dL_law_60 : decode cL_law 60 = .ok (.ifCond .eq 217, 3) := by decide +kernel
theorem dL_law_63 : decode cL_law 63 = .ok (.aload_n 0, 1) := by decide +kernel
theorem dL_law_64 : decode cL_law 64 = .ok (.iconst 2, 1) := by decide +kernel
theorem dL_law_65 : decode cL_law 65 = .ok (.iload 4, 2) := by decide +kernel
theorem dL_law_67 : decode cL_law 67 = .ok (.imul, 1) := by decide +kernel
theorem dL_law_68 : decode cL_law 68 = .ok (.invokestatic 205, 3) := by decide +kernel
theorem dL_law_71 : decode cL_law 71 = .ok (.istore 5, 2) := by decide +kernel
theorem dL_law_73 : decode cL_law 73 = .ok (.aload_n 0, 1) := by decide +kernel
theorem dL_law_74 : decode cL_law 74 = .ok (.iconst 2, 1) := by decide +kernel
theorem dL_law_75 : decode cL_law 75 = .ok (.iload 4, 2) := by decide +kernel
theorem dL_law_77 : decode cL_law 77 = .ok (.imul, 1) := by decide +kernel
theorem dL_law_78 : decode cL_law 78 = .ok (.iconst 1, 1) := by decide +kernel
theorem dL_law_79 : decode cL_law 79 = .ok (.iadd, 1) := by decide +kernel
theorem dL_law_80 : decode cL_law 80 = .ok (.invokestatic 205, 3) := by decide +kernel
theorem dL_law_83 : decode cL_law 83 = .ok (.istore 6, 2) := by decide +kernel
theorem dL_law_85 : decode cL_law 85 = .ok (.iload 4, 2) := by decide +kernel
theorem dL_law_87 : decode cL_law 87 = .ok (.bipush 36, 2) := by decide +kernel
theorem dL_law_89 : decode cL_law 89 = .ok (.irem, 1) := by decide +kernel
theorem dL_law_90 : decode cL_law 90 = .ok (.ifCond .ne 46, 3) := by decide +kernel
theorem dL_law_93 : decode cL_law 93 = .ok (.aload_n 1, 1) := by decide +kernel
theorem dL_law_94 : decode cL_law 94 = .ok (.iload 5, 2) := by decide +kernel
theorem dL_law_96 : decode cL_law 96 = .ok (.iload 6, 2) := by decide +kernel
theorem dL_law_98 : decode cL_law 98 = .ok (.invokestatic 220, 3) := by decide +kernel
theorem dL_law_101 : decode cL_law 101 = .ok (.ifCond .eq 30, 3) := by decide +kernel
theorem dL_law_104 : decode cL_law 104 = .ok (.aload_n 2, 1) := by decide +kernel
theorem dL_law_105 : decode cL_law 105 = .ok (.iload 5, 2) := by decide +kernel
theorem dL_law_107 : decode cL_law 107 = .ok (.iload 6, 2) := by decide +kernel
theorem dL_law_109 : decode cL_law 109 = .ok (.invokestatic 220, 3) := by decide +kernel
theorem dL_law_112 : decode cL_law 112 = .ok (.ifCond .eq 19, 3) := by decide +kernel
theorem dL_law_115 : decode cL_law 115 = .ok (.aload_n 1, 1) := by decide +kernel
theorem dL_law_116 : decode cL_law 116 = .ok (.invokestatic 224, 3) := by decide +kernel
theorem dL_law_119 : decode cL_law 119 = .ok (.aload_n 2, 1) := by decide +kernel
theorem dL_law_120 : decode cL_law 120 = .ok (.invokestatic 224, 3) := by decide +kernel
theorem dL_law_123 : decode cL_law 123 = .ok (.lcmp, 1) := by decide +kernel
theorem dL_law_124 : decode cL_law 124 = .ok (.ifCond .ne 7, 3) := by decide +kernel
theorem dL_law_127 : decode cL_law 127 = .ok (.iconst 1, 1) := by decide +kernel
theorem dL_law_128 : decode cL_law 128 = .ok (.goto 4, 3) := by decide +kernel
theorem dL_law_131 : decode cL_law 131 = .ok (.iconst 0, 1) := by decide +kernel
theorem dL_law_132 : decode cL_law 132 = .ok (.istore_n 3, 1) := by decide +kernel
theorem dL_law_133 : decode cL_law 133 = .ok (.goto 138, 3) := by decide +kernel
theorem dL_law_136 : decode cL_law 136 = .ok (.aload_n 1, 1) := by decide +kernel
theorem dL_law_137 : decode cL_law 137 = .ok (.iload 5, 2) := by decide +kernel
theorem dL_law_139 : decode cL_law 139 = .ok (.iload 6, 2) := by decide +kernel
theorem dL_law_141 : decode cL_law 141 = .ok (.invokestatic 226, 3) := by decide +kernel
theorem dL_law_144 : decode cL_law 144 = .ok (.aload_n 2, 1) := by decide +kernel
theorem dL_law_145 : decode cL_law 145 = .ok (.iload 5, 2) := by decide +kernel
theorem dL_law_147 : decode cL_law 147 = .ok (.iload 6, 2) := by decide +kernel
theorem dL_law_149 : decode cL_law 149 = .ok (.invokestatic 226, 3) := by decide +kernel
theorem dL_law_152 : decode cL_law 152 = .ok (.lcmp, 1) := by decide +kernel
theorem dL_law_153 : decode cL_law 153 = .ok (.ifCond .ne 7, 3) := by decide +kernel
theorem dL_law_156 : decode cL_law 156 = .ok (.iconst 1, 1) := by decide +kernel
theorem dL_law_157 : decode cL_law 157 = .ok (.goto 4, 3) := by decide +kernel
theorem dL_law_160 : decode cL_law 160 = .ok (.iconst 0, 1) := by decide +kernel
theorem dL_law_161 : decode cL_law 161 = .ok (.istore_n 3, 1) := by decide +kernel
theorem dL_law_162 : decode cL_law 162 = .ok (.iload 4, 2) := by decide +kernel
theorem dL_law_164 : decode cL_law 164 = .ok (.bipush 6, 2) := by decide +kernel
theorem dL_law_166 : decode cL_law 166 = .ok (.irem, 1) := by decide +kernel
theorem dL_law_167 : decode cL_law 167 = .ok (.ifCond .ne 27, 3) := by decide +kernel
theorem dL_law_170 : decode cL_law 170 = .ok (.iload_n 3, 1) := by decide +kernel
theorem dL_law_171 : decode cL_law 171 = .ok (.ifCond .eq 21, 3) := by decide +kernel
theorem dL_law_174 : decode cL_law 174 = .ok (.aload_n 2, 1) := by decide +kernel
theorem dL_law_175 : decode cL_law 175 = .ok (.invokestatic 213, 3) := by decide +kernel
theorem dL_law_178 : decode cL_law 178 = .ok (.ifCond .eq 14, 3) := by decide +kernel
theorem dL_law_181 : decode cL_law 181 = .ok (.aload_n 2, 1) := by decide +kernel
theorem dL_law_182 : decode cL_law 182 = .ok (.invokestatic 217, 3) := by decide +kernel
theorem dL_law_185 : decode cL_law 185 = .ok (.ifCond .eq 7, 3) := by decide +kernel
theorem dL_law_188 : decode cL_law 188 = .ok (.iconst 1, 1) := by decide +kernel
theorem dL_law_189 : decode cL_law 189 = .ok (.goto 4, 3) := by decide +kernel
theorem dL_law_192 : decode cL_law 192 = .ok (.iconst 0, 1) := by decide +kernel
theorem dL_law_193 : decode cL_law 193 = .ok (.istore_n 3, 1) := by decide +kernel
theorem dL_law_194 : decode cL_law 194 = .ok (.iload 4, 2) := by decide +kernel
theorem dL_law_196 : decode cL_law 196 = .ok (.bipush 12, 2) := by decide +kernel
theorem dL_law_198 : decode cL_law 198 = .ok (.irem, 1) := by decide +kernel
theorem dL_law_199 : decode cL_law 199 = .ok (.bipush 11, 2) := by decide +kernel
theorem dL_law_201 : decode cL_law 201 = .ok (.if_icmp .ne 42, 3) := by decide +kernel
theorem dL_law_204 : decode cL_law 204 = .ok (.iload_n 3, 1) := by decide +kernel
theorem dL_law_205 : decode cL_law 205 = .ok (.ifCond .eq 36, 3) := by decide +kernel
theorem dL_law_208 : decode cL_law 208 = .ok (.aload_n 2, 1) := by decide +kernel
theorem dL_law_209 : decode cL_law 209 = .ok (.iload 6, 2) := by decide +kernel
theorem dL_law_211 : decode cL_law 211 = .ok (.invokestatic 229, 3) := by decide +kernel
theorem dL_law_214 : decode cL_law 214 = .ok (.ifCond .eq 27, 3) := by decide +kernel
theorem dL_law_217 : decode cL_law 217 = .ok (.aload_n 1, 1) := by decide +kernel
theorem dL_law_218 : decode cL_law 218 = .ok (.iconst 1, 1) := by decide +kernel
theorem dL_law_219 : decode cL_law 219 = .ok (.invokestatic 162, 3) := by decide +kernel
theorem dL_law_222 : decode cL_law 222 = .ok (.lconst 0, 1) := by decide +kernel
theorem dL_law_223 : decode cL_law 223 = .ok (.lcmp, 1) := by decide +kernel
theorem dL_law_224 : decode cL_law 224 = .ok (.ifCond .lt 17, 3) := by decide +kernel
theorem dL_law_227 : decode cL_law 227 = .ok (.aload_n 1, 1) := by decide +kernel
theorem dL_law_228 : decode cL_law 228 = .ok (.iconst 1, 1) := by decide +kernel
theorem dL_law_229 : decode cL_law 229 = .ok (.invokestatic 164, 3) := by decide +kernel
theorem dL_law_232 : decode cL_law 232 = .ok (.lconst 0, 1) := by decide +kernel
theorem dL_law_233 : decode cL_law 233 = .ok (.lcmp, 1) := by decide +kernel
theorem dL_law_234 : decode cL_law 234 = .ok (.ifCond .lt 7, 3) := by decide +kernel
theorem dL_law_237 : decode cL_law 237 = .ok (.iconst 1, 1) := by decide +kernel
theorem dL_law_238 : decode cL_law 238 = .ok (.goto 4, 3) := by decide +kernel
theorem dL_law_241 : decode cL_law 241 = .ok (.iconst 0, 1) := by decide +kernel
theorem dL_law_242 : decode cL_law 242 = .ok (.istore_n 3, 1) := by decide +kernel
theorem dL_law_243 : decode cL_law 243 = .ok (.iload_n 3, 1) := by decide +kernel
theorem dL_law_244 : decode cL_law 244 = .ok (.ifCond .eq 25, 3) := by decide +kernel
theorem dL_law_247 : decode cL_law 247 = .ok (.iload 4, 2) := by decide +kernel
theorem dL_law_249 : decode cL_law 249 = .ok (.bipush 6, 2) := by decide +kernel
theorem dL_law_251 : decode cL_law 251 = .ok (.irem, 1) := by decide +kernel
theorem dL_law_252 : decode cL_law 252 = .ok (.ifCond .gt 13, 3) := by decide +kernel
theorem dL_law_255 : decode cL_law 255 = .ok (.aload_n 1, 1) := by decide +kernel
theorem dL_law_256 : decode cL_law 256 = .ok (.aload_n 2, 1) := by decide +kernel
theorem dL_law_257 : decode cL_law 257 = .ok (.iload 6, 2) := by decide +kernel
theorem dL_law_259 : decode cL_law 259 = .ok (.invokestatic 209, 3) := by decide +kernel
theorem dL_law_262 : decode cL_law 262 = .ok (.ifCond .eq 7, 3) := by decide +kernel
theorem dL_law_265 : decode cL_law 265 = .ok (.iconst 1, 1) := by decide +kernel
theorem dL_law_266 : decode cL_law 266 = .ok (.goto 4, 3) := by decide +kernel
theorem dL_law_269 : decode cL_law 269 = .ok (.iconst 0, 1) := by decide +kernel
theorem dL_law_270 : decode cL_law 270 = .ok (.istore_n 3, 1) := by decide +kernel
theorem dL_law_271 : decode cL_law 271 = .ok (.iinc 4 1, 3) := by decide +kernel
theorem dL_law_274 : decode cL_law 274 = .ok (.goto (-222), 3) := by decide +kernel
theorem dL_law_277 : decode cL_law 277 = .ok (.iload_n 3, 1) := by decide +kernel
theorem dL_law_278 : decode cL_law 278 = .ok (.ifCond .eq 17, 3) := by decide +kernel
theorem dL_law_281 : decode cL_law 281 = .ok (.aload_n 1, 1) := by decide +kernel
theorem dL_law_282 : decode cL_law 282 = .ok (.aload_n 2, 1) := by decide +kernel
theorem dL_law_283 : decode cL_law 283 = .ok (.ldc 232, 2) := by decide +kernel
theorem dL_law_285 : decode cL_law 285 = .ok (.invokestatic 209, 3) := by decide +kernel
theorem dL_law_288 : decode cL_law 288 = .ok (.ifCond .eq 7, 3) := by decide +kernel
theorem dL_law_291 : decode cL_law 291 = .ok (.iconst 1, 1) := by decide +kernel
theorem dL_law_292 : decode cL_law 292 = .ok (.goto 4, 3) := by decide +kernel
theorem dL_law_295 : decode cL_law 295 = .ok (.iconst 0, 1) := by decide +kernel
theorem dL_law_296 : decode cL_law 296 = .ok (.ireturn, 1) := by decide +kernel
abbrev vwCl : List vw_C := [(RX0, TX0, 10), (RX1, TX1, 5), (RX2, TX2, 12), (RX3, TX3, 4), (RX4, TX4, 3), (RX5, TX5, 4), (RX6, TX6, 8)]
