def RX0 : String := "HallHeating$Booking"
def TX0 : u_T := fun k => match k with
  | 0 => ("HallHeating$Booking", "room", "I", false)
  | 1 => ("HallHeating$Booking", "group", "I", false)
  | 2 => ("HallHeating$Booking", "first", "I", false)
  | 3 => ("HallHeating$Booking", "hours", "I", false)
  | 4 => ("HallHeating$Booking", "wanted", "I", false)
  | 5 => ("HallHeating$Booking", "begun", "Z", false)
  | 6 => ("HallHeating$Booking", "preheatDebt", "I", false)
  | 7 => ("HallHeating$Booking", "ownHeat", "I", false)
  | 8 => ("HallHeating$Booking", "marked", "Z", false)
  | _ => ("HallHeating$Booking", "coldHours", "I", false)
def tyX0 : Nat → FieldType := fun k => match k with
  | 0 => .int
  | 1 => .int
  | 2 => .int
  | 3 => .int
  | 4 => .int
  | 5 => .boolean
  | 6 => .int
  | 7 => .int
  | 8 => .boolean
  | _ => .int
theorem nmX0 : ∀ a, a < 10 → ∀ b, b < 10 → a ≠ b → (TX0 a).2.1 ≠ (TX0 b).2.1 := by decide +kernel
theorem tyX0_ok : ∀ k, k < 10 → parseFieldDescriptor (TX0 k).2.2.1 = some (tyX0 k) := by decide +kernel
abbrev cX0_init : ByteArray := prog_2_method_1_code
def yX0_init : MethodName := ⟨RX0, "<init>", "()V"⟩
abbrev cX0_become : ByteArray := prog_2_method_2_code
def yX0_become : MethodName := ⟨RX0, "become", "(IIIII)V"⟩
abbrev cX0_copyFrom : ByteArray := prog_2_method_3_code
def yX0_copyFrom : MethodName := ⟨RX0, "copyFrom", "(LHallHeating$Booking;)V"⟩
abbrev cX0_numberAbout : ByteArray := prog_2_method_4_code
def yX0_numberAbout : MethodName := ⟨RX0, "numberAbout", "(I)I"⟩
abbrev cX0_end : ByteArray := prog_2_method_5_code
def yX0_end : MethodName := ⟨RX0, "end", "()I"⟩
abbrev cX0_has : ByteArray := prog_2_method_6_code
def yX0_has : MethodName := ⟨RX0, "has", "(I)Z"⟩
abbrev cX0_isOver : ByteArray := prog_2_method_7_code
def yX0_isOver : MethodName := ⟨RX0, "isOver", "(I)Z"⟩
abbrev cX0_meets : ByteArray := prog_2_method_8_code
def yX0_meets : MethodName := ⟨RX0, "meets", "(II)Z"⟩
abbrev cX0_mayGo : ByteArray := prog_2_method_9_code
def yX0_mayGo : MethodName := ⟨RX0, "mayGo", "(I)Z"⟩
def RX1 : String := "HallHeating$Command"
def TX1 : u_T := fun k => match k with
  | 0 => ("HallHeating$Command", "kind", "I", false)
  | 1 => ("HallHeating$Command", "d2", "I", false)
  | 2 => ("HallHeating$Command", "d3", "I", false)
  | 3 => ("HallHeating$Command", "d4", "I", false)
  | _ => ("HallHeating$Command", "d5", "I", false)
def tyX1 : Nat → FieldType := fun k => match k with
  | 0 => .int
  | 1 => .int
  | 2 => .int
  | 3 => .int
  | _ => .int
theorem nmX1 : ∀ a, a < 5 → ∀ b, b < 5 → a ≠ b → (TX1 a).2.1 ≠ (TX1 b).2.1 := by decide +kernel
theorem tyX1_ok : ∀ k, k < 5 → parseFieldDescriptor (TX1 k).2.2.1 = some (tyX1 k) := by decide +kernel
abbrev cX1_init : ByteArray := prog_3_method_1_code
def yX1_init : MethodName := ⟨RX1, "<init>", "()V"⟩
abbrev cX1_withoutLast : ByteArray := prog_3_method_2_code
def yX1_withoutLast : MethodName := ⟨RX1, "withoutLast", "(JI)J"⟩
abbrev cX1_become : ByteArray := prog_3_method_3_code
def yX1_become : MethodName := ⟨RX1, "become", "(J)V"⟩
abbrev cX1_succeedsOn : ByteArray := prog_3_method_4_code
def yX1_succeedsOn : MethodName := ⟨RX1, "succeedsOn", "(LHallHeating$Hall;)Z"⟩
abbrev cX1_letsPass : ByteArray := prog_3_method_5_code
def yX1_letsPass : MethodName := ⟨RX1, "letsPass", "(LHallHeating$Hall;I)Z"⟩
abbrev cX1_changesOutdoors : ByteArray := prog_3_method_6_code
def yX1_changesOutdoors : MethodName := ⟨RX1, "changesOutdoors", "(LHallHeating$Hall;I)Z"⟩
abbrev cX1_proves : ByteArray := prog_3_method_7_code
def yX1_proves : MethodName := ⟨RX1, "proves", "(LHallHeating$Hall;)Z"⟩
abbrev cX1_pays : ByteArray := prog_3_method_8_code
def yX1_pays : MethodName := ⟨RX1, "pays", "(LHallHeating$Hall;)Z"⟩
abbrev cX1_cancels : ByteArray := prog_3_method_9_code
def yX1_cancels : MethodName := ⟨RX1, "cancels", "(LHallHeating$Hall;)Z"⟩
abbrev cX1_isAsWarm : ByteArray := prog_3_method_10_code
def yX1_isAsWarm : MethodName := ⟨RX1, "isAsWarm", "(LHallHeating$Room;I)Z"⟩
abbrev cX1_isOverOrNot : ByteArray := prog_3_method_11_code
def yX1_isOverOrNot : MethodName := ⟨RX1, "isOverOrNot", "(LHallHeating$Hall;)Z"⟩
def RX2 : String := "HallHeating$Hall"
def TX2 : u_T := fun k => match k with
  | 0 => ("HallHeating$Hall", "hour", "I", false)
  | 1 => ("HallHeating$Hall", "outdoors", "I", false)
  | 2 => ("HallHeating$Hall", "rooms", "[LHallHeating$Room;", true)
  | 3 => ("HallHeating$Hall", "roomCount", "I", false)
  | 4 => ("HallHeating$Hall", "owed", "[I", true)
  | 5 => ("HallHeating$Hall", "groupCount", "I", false)
  | 6 => ("HallHeating$Hall", "bookings", "[LHallHeating$Booking;", true)
  | 7 => ("HallHeating$Hall", "bookingCount", "I", false)
  | 8 => ("HallHeating$Hall", "meter", "I", false)
  | 9 => ("HallHeating$Hall", "groupCharges", "I", false)
  | 10 => ("HallHeating$Hall", "parishCharges", "I", false)
  | _ => ("HallHeating$Hall", "heatedHours", "I", false)
def tyX2 : Nat → FieldType := fun k => match k with
  | 0 => .int
  | 1 => .int
  | 2 => .array (.object "HallHeating$Room")
  | 3 => .int
  | 4 => .array .int
  | 5 => .int
  | 6 => .array (.object "HallHeating$Booking")
  | 7 => .int
  | 8 => .int
  | 9 => .int
  | 10 => .int
  | _ => .int
theorem nmX2 : ∀ a, a < 12 → ∀ b, b < 12 → a ≠ b → (TX2 a).2.1 ≠ (TX2 b).2.1 := by decide +kernel
theorem tyX2_ok : ∀ k, k < 12 → parseFieldDescriptor (TX2 k).2.2.1 = some (tyX2 k) := by decide +kernel
abbrev cX2_init : ByteArray := prog_4_method_1_code
def yX2_init : MethodName := ⟨RX2, "<init>", "()V"⟩
abbrev cX2_clear : ByteArray := prog_4_method_2_code
def yX2_clear : MethodName := ⟨RX2, "clear", "()V"⟩
abbrev cX2_copyFrom : ByteArray := prog_4_method_3_code
def yX2_copyFrom : MethodName := ⟨RX2, "copyFrom", "(LHallHeating$Hall;)V"⟩
abbrev cX2_numberAbout : ByteArray := prog_4_method_4_code
def yX2_numberAbout : MethodName := ⟨RX2, "numberAbout", "(I)I"⟩
abbrev cX2_findRoom : ByteArray := prog_4_method_5_code
def yX2_findRoom : MethodName := ⟨RX2, "findRoom", "(I)LHallHeating$Room;"⟩
abbrev cX2_hasGroup : ByteArray := prog_4_method_6_code
def yX2_hasGroup : MethodName := ⟨RX2, "hasGroup", "(I)Z"⟩
abbrev cX2_findBooking : ByteArray := prog_4_method_7_code
def yX2_findBooking : MethodName := ⟨RX2, "findBooking", "(I)LHallHeating$Booking;"⟩
abbrev cX2_newRoom : ByteArray := prog_4_method_8_code
def yX2_newRoom : MethodName := ⟨RX2, "newRoom", "(IIII)I"⟩
abbrev cX2_newGroup : ByteArray := prog_4_method_9_code
def yX2_newGroup : MethodName := ⟨RX2, "newGroup", "()I"⟩
abbrev cX2_hasPlaceFor : ByteArray := prog_4_method_10_code
def yX2_hasPlaceFor : MethodName := ⟨RX2, "hasPlaceFor", "(III)Z"⟩
abbrev cX2_newBooking : ByteArray := prog_4_method_11_code
def yX2_newBooking : MethodName := ⟨RX2, "newBooking", "(IIIII)I"⟩
abbrev cX2_removeBooking : ByteArray := prog_4_method_12_code
def yX2_removeBooking : MethodName := ⟨RX2, "removeBooking", "(I)V"⟩
abbrev cX2_bookingOfNow : ByteArray := prog_4_method_13_code
def yX2_bookingOfNow : MethodName := ⟨RX2, "bookingOfNow", "(I)I"⟩
abbrev cX2_nextBooking : ByteArray := prog_4_method_14_code
def yX2_nextBooking : MethodName := ⟨RX2, "nextBooking", "(I)I"⟩
abbrev cX2_heatingBooking : ByteArray := prog_4_method_15_code
def yX2_heatingBooking : MethodName := ⟨RX2, "heatingBooking", "(I)I"⟩
abbrev cX2_mustPreheat : ByteArray := prog_4_method_16_code
def yX2_mustPreheat : MethodName := ⟨RX2, "mustPreheat", "(LHallHeating$Room;LHallHeating$Booking;)Z"⟩
abbrev cX2_mark : ByteArray := prog_4_method_17_code
def yX2_mark : MethodName := ⟨RX2, "mark", "(IZ)V"⟩
abbrev cX2_markAll : ByteArray := prog_4_method_18_code
def yX2_markAll : MethodName := ⟨RX2, "markAll", "()V"⟩
abbrev cX2_owedBy : ByteArray := prog_4_method_19_code
def yX2_owedBy : MethodName := ⟨RX2, "owedBy", "(I)I"⟩
abbrev cX2_settle : ByteArray := prog_4_method_20_code
def yX2_settle : MethodName := ⟨RX2, "settle", "(I)I"⟩
abbrev cX2_letHoursPass : ByteArray := prog_4_method_21_code
def yX2_letHoursPass : MethodName := ⟨RX2, "letHoursPass", "(I)V"⟩
abbrev cX2_letHourPass : ByteArray := prog_4_method_22_code
def yX2_letHourPass : MethodName := ⟨RX2, "letHourPass", "()V"⟩
abbrev cX2_heatRoom : ByteArray := prog_4_method_23_code
def yX2_heatRoom : MethodName := ⟨RX2, "heatRoom", "(LHallHeating$Room;LHallHeating$Booking;)I"⟩
abbrev cX2_chargePreheat : ByteArray := prog_4_method_24_code
def yX2_chargePreheat : MethodName := ⟨RX2, "chargePreheat", "(LHallHeating$Booking;I)V"⟩
abbrev cX2_chargeOwnHour : ByteArray := prog_4_method_25_code
def yX2_chargeOwnHour : MethodName := ⟨RX2, "chargeOwnHour", "(LHallHeating$Booking;II)V"⟩
abbrev cX2_chargeGroup : ByteArray := prog_4_method_26_code
def yX2_chargeGroup : MethodName := ⟨RX2, "chargeGroup", "(II)V"⟩
abbrev cX2_leaveHeat : ByteArray := prog_4_method_27_code
def yX2_leaveHeat : MethodName := ⟨RX2, "leaveHeat", "(LHallHeating$Booking;)V"⟩
abbrev cX2_endOfBookings : ByteArray := prog_4_method_28_code
def yX2_endOfBookings : MethodName := ⟨RX2, "endOfBookings", "()I"⟩
abbrev cX2_coldestBooking : ByteArray := prog_4_method_29_code
def yX2_coldestBooking : MethodName := ⟨RX2, "coldestBooking", "()I"⟩
def RX3 : String := "HallHeating$HallText"
def TX3 : u_T := fun k => match k with
  | 0 => ("HallHeating$HallText", "signs", "[I", true)
  | 1 => ("HallHeating$HallText", "length", "I", false)
  | 2 => ("HallHeating$HallText", "at", "I", false)
  | _ => ("HallHeating$HallText", "error", "I", false)
def tyX3 : Nat → FieldType := fun k => match k with
  | 0 => .array .int
  | 1 => .int
  | 2 => .int
  | _ => .int
theorem nmX3 : ∀ a, a < 4 → ∀ b, b < 4 → a ≠ b → (TX3 a).2.1 ≠ (TX3 b).2.1 := by decide +kernel
theorem tyX3_ok : ∀ k, k < 4 → parseFieldDescriptor (TX3 k).2.2.1 = some (tyX3 k) := by decide +kernel
abbrev cX3_init : ByteArray := prog_5_method_1_code
def yX3_init : MethodName := ⟨RX3, "<init>", "()V"⟩
abbrev cX3_add : ByteArray := prog_5_method_2_code
def yX3_add : MethodName := ⟨RX3, "add", "(I)V"⟩
abbrev cX3_readInto : ByteArray := prog_5_method_3_code
def yX3_readInto : MethodName := ⟨RX3, "readInto", "(LHallHeating$Hall;)I"⟩
abbrev cX3_readPart : ByteArray := prog_5_method_4_code
def yX3_readPart : MethodName := ⟨RX3, "readPart", "(LHallHeating$Hall;)V"⟩
abbrev cX3_readRoom : ByteArray := prog_5_method_5_code
def yX3_readRoom : MethodName := ⟨RX3, "readRoom", "(LHallHeating$Hall;)V"⟩
abbrev cX3_readGroup : ByteArray := prog_5_method_6_code
def yX3_readGroup : MethodName := ⟨RX3, "readGroup", "(LHallHeating$Hall;)V"⟩
abbrev cX3_readOutdoors : ByteArray := prog_5_method_7_code
def yX3_readOutdoors : MethodName := ⟨RX3, "readOutdoors", "(LHallHeating$Hall;)V"⟩
abbrev cX3_readBooking : ByteArray := prog_5_method_8_code
def yX3_readBooking : MethodName := ⟨RX3, "readBooking", "(LHallHeating$Hall;)V"⟩
abbrev cX3_sign : ByteArray := prog_5_method_9_code
def yX3_sign : MethodName := ⟨RX3, "sign", "()I"⟩
abbrev cX3_require : ByteArray := prog_5_method_10_code
def yX3_require : MethodName := ⟨RX3, "require", "(Z)V"⟩
abbrev cX3_readNumber : ByteArray := prog_5_method_11_code
def yX3_readNumber : MethodName := ⟨RX3, "readNumber", "(III)I"⟩
def RX4 : String := "HallHeating$Memory"
def TX4 : u_T := fun k => match k with
  | 0 => ("HallHeating$Memory", "states", "[LHallHeating$Hall;", true)
  | 1 => ("HallHeating$Memory", "nextPlace", "I", false)
  | _ => ("HallHeating$Memory", "count", "I", false)
def tyX4 : Nat → FieldType := fun k => match k with
  | 0 => .array (.object "HallHeating$Hall")
  | 1 => .int
  | _ => .int
theorem nmX4 : ∀ a, a < 3 → ∀ b, b < 3 → a ≠ b → (TX4 a).2.1 ≠ (TX4 b).2.1 := by decide +kernel
theorem tyX4_ok : ∀ k, k < 3 → parseFieldDescriptor (TX4 k).2.2.1 = some (tyX4 k) := by decide +kernel
abbrev cX4_init : ByteArray := prog_6_method_1_code
def yX4_init : MethodName := ⟨RX4, "<init>", "()V"⟩
abbrev cX4_remember : ByteArray := prog_6_method_2_code
def yX4_remember : MethodName := ⟨RX4, "remember", "(LHallHeating$Hall;)V"⟩
abbrev cX4_takeBack : ByteArray := prog_6_method_3_code
def yX4_takeBack : MethodName := ⟨RX4, "takeBack", "(LHallHeating$Hall;)V"⟩
abbrev cX4_forgetAll : ByteArray := prog_6_method_4_code
def yX4_forgetAll : MethodName := ⟨RX4, "forgetAll", "()V"⟩
def RX5 : String := "HallHeating$Room"
def TX5 : u_T := fun k => match k with
  | 0 => ("HallHeating$Room", "size", "I", false)
  | 1 => ("HallHeating$Room", "loss", "I", false)
  | 2 => ("HallHeating$Room", "power", "I", false)
  | _ => ("HallHeating$Room", "temperature", "I", false)
def tyX5 : Nat → FieldType := fun k => match k with
  | 0 => .int
  | 1 => .int
  | 2 => .int
  | _ => .int
theorem nmX5 : ∀ a, a < 4 → ∀ b, b < 4 → a ≠ b → (TX5 a).2.1 ≠ (TX5 b).2.1 := by decide +kernel
theorem tyX5_ok : ∀ k, k < 4 → parseFieldDescriptor (TX5 k).2.2.1 = some (tyX5 k) := by decide +kernel
abbrev cX5_init : ByteArray := prog_7_method_1_code
def yX5_init : MethodName := ⟨RX5, "<init>", "()V"⟩
abbrev cX5_become : ByteArray := prog_7_method_2_code
def yX5_become : MethodName := ⟨RX5, "become", "(IIII)V"⟩
abbrev cX5_copyFrom : ByteArray := prog_7_method_3_code
def yX5_copyFrom : MethodName := ⟨RX5, "copyFrom", "(LHallHeating$Room;)V"⟩
abbrev cX5_numberAbout : ByteArray := prog_7_method_4_code
def yX5_numberAbout : MethodName := ⟨RX5, "numberAbout", "(I)I"⟩
abbrev cX5_cooled : ByteArray := prog_7_method_5_code
def yX5_cooled : MethodName := ⟨RX5, "cooled", "(I)I"⟩
abbrev cX5_warmTowards : ByteArray := prog_7_method_6_code
def yX5_warmTowards : MethodName := ⟨RX5, "warmTowards", "(I)I"⟩
def RX6 : String := "HallHeating"
def TX6 : u_T := fun k => match k with
  | 0 => ("HallHeating", "text", "LHallHeating$HallText;", true)
  | 1 => ("HallHeating", "hall", "LHallHeating$Hall;", true)
  | 2 => ("HallHeating", "memory", "LHallHeating$Memory;", true)
  | 3 => ("HallHeating", "slots", "[LHallHeating$Hall;", true)
  | 4 => ("HallHeating", "saved", "[Z", true)
  | 5 => ("HallHeating", "command", "LHallHeating$Command;", true)
  | 6 => ("HallHeating", "trial", "LHallHeating$Hall;", true)
  | _ => ("HallHeating", "secondTrial", "LHallHeating$Hall;", true)
def tyX6 : Nat → FieldType := fun k => match k with
  | 0 => .object "HallHeating$HallText"
  | 1 => .object "HallHeating$Hall"
  | 2 => .object "HallHeating$Memory"
  | 3 => .array (.object "HallHeating$Hall")
  | 4 => .array .boolean
  | 5 => .object "HallHeating$Command"
  | 6 => .object "HallHeating$Hall"
  | _ => .object "HallHeating$Hall"
theorem nmX6 : ∀ a, a < 8 → ∀ b, b < 8 → a ≠ b → (TX6 a).2.1 ≠ (TX6 b).2.1 := by decide +kernel
theorem tyX6_ok : ∀ k, k < 8 → parseFieldDescriptor (TX6 k).2.2.1 = some (tyX6 k) := by decide +kernel
abbrev cX6_init : ByteArray := prog_1_method_1_code
def yX6_init : MethodName := ⟨RX6, "<init>", "()V"⟩
abbrev cX6_append : ByteArray := prog_1_method_2_code
def yX6_append : MethodName := ⟨RX6, "append", "(I)I"⟩
abbrev cX6_clearText : ByteArray := prog_1_method_3_code
def yX6_clearText : MethodName := ⟨RX6, "clearText", "()I"⟩
abbrev cX6_errorPosition : ByteArray := prog_1_method_4_code
def yX6_errorPosition : MethodName := ⟨RX6, "errorPosition", "()I"⟩
abbrev cX6_load : ByteArray := prog_1_method_5_code
def yX6_load : MethodName := ⟨RX6, "load", "()I"⟩
abbrev cX6_about : ByteArray := prog_1_method_6_code
def yX6_about : MethodName := ⟨RX6, "about", "(I)I"⟩
abbrev cX6_room : ByteArray := prog_1_method_7_code
def yX6_room : MethodName := ⟨RX6, "room", "(II)I"⟩
abbrev cX6_owes : ByteArray := prog_1_method_8_code
def yX6_owes : MethodName := ⟨RX6, "owes", "(I)I"⟩
abbrev cX6_booking : ByteArray := prog_1_method_9_code
def yX6_booking : MethodName := ⟨RX6, "booking", "(II)I"⟩
abbrev cX6_addRoom : ByteArray := prog_1_method_10_code
def yX6_addRoom : MethodName := ⟨RX6, "addRoom", "(IIII)I"⟩
abbrev cX6_addGroup : ByteArray := prog_1_method_11_code
def yX6_addGroup : MethodName := ⟨RX6, "addGroup", "()I"⟩
abbrev cX6_book : ByteArray := prog_1_method_12_code
def yX6_book : MethodName := ⟨RX6, "book", "(IIIII)I"⟩
abbrev cX6_cancel : ByteArray := prog_1_method_13_code
def yX6_cancel : MethodName := ⟨RX6, "cancel", "(I)I"⟩
abbrev cX6_prove : ByteArray := prog_1_method_14_code
def yX6_prove : MethodName := ⟨RX6, "prove", "(IZ)I"⟩
abbrev cX6_outside : ByteArray := prog_1_method_15_code
def yX6_outside : MethodName := ⟨RX6, "outside", "(I)I"⟩
abbrev cX6_pay : ByteArray := prog_1_method_16_code
def yX6_pay : MethodName := ⟨RX6, "pay", "(I)I"⟩
abbrev cX6_pass : ByteArray := prog_1_method_17_code
def yX6_pass : MethodName := ⟨RX6, "pass", "(I)I"⟩
abbrev cX6_undo : ByteArray := prog_1_method_18_code
def yX6_undo : MethodName := ⟨RX6, "undo", "()I"⟩
abbrev cX6_later : ByteArray := prog_1_method_19_code
def yX6_later : MethodName := ⟨RX6, "later", "(II)I"⟩
abbrev cX6_begins : ByteArray := prog_1_method_20_code
def yX6_begins : MethodName := ⟨RX6, "begins", "(I)I"⟩
abbrev cX6_cost : ByteArray := prog_1_method_21_code
def yX6_cost : MethodName := ⟨RX6, "cost", "(IIIII)I"⟩
abbrev cX6_willOwe : ByteArray := prog_1_method_22_code
def yX6_willOwe : MethodName := ⟨RX6, "willOwe", "(I)I"⟩
abbrev cX6_coldest : ByteArray := prog_1_method_23_code
def yX6_coldest : MethodName := ⟨RX6, "coldest", "()I"⟩
abbrev cX6_passAllBookingsOnTrial : ByteArray := prog_1_method_24_code
def yX6_passAllBookingsOnTrial : MethodName := ⟨RX6, "passAllBookingsOnTrial", "()V"⟩
abbrev cX6_runScript : ByteArray := prog_1_method_25_code
def yX6_runScript : MethodName := ⟨RX6, "runScript", "(IJ)I"⟩
abbrev cX6_simulate : ByteArray := prog_1_method_26_code
def yX6_simulate : MethodName := ⟨RX6, "simulate", "(JI)I"⟩
abbrev cX6_save : ByteArray := prog_1_method_27_code
def yX6_save : MethodName := ⟨RX6, "save", "(I)I"⟩
abbrev cX6_restore : ByteArray := prog_1_method_28_code
def yX6_restore : MethodName := ⟨RX6, "restore", "(I)I"⟩
abbrev cX6_requireRange : ByteArray := prog_1_method_29_code
def yX6_requireRange : MethodName := ⟨RX6, "requireRange", "(III)V"⟩
abbrev cX6_requireRoom : ByteArray := prog_1_method_30_code
def yX6_requireRoom : MethodName := ⟨RX6, "requireRoom", "(I)LHallHeating$Room;"⟩
abbrev cX6_requireGroup : ByteArray := prog_1_method_31_code
def yX6_requireGroup : MethodName := ⟨RX6, "requireGroup", "(I)V"⟩
abbrev cX6_requireBooking : ByteArray := prog_1_method_32_code
def yX6_requireBooking : MethodName := ⟨RX6, "requireBooking", "(I)LHallHeating$Booking;"⟩
abbrev cX6_requireSlot : ByteArray := prog_1_method_33_code
def yX6_requireSlot : MethodName := ⟨RX6, "requireSlot", "(I)V"⟩
abbrev cX6_requireBookingArguments : ByteArray := prog_1_method_34_code
def yX6_requireBookingArguments : MethodName := ⟨RX6, "requireBookingArguments", "(IIIII)V"⟩
def RX7 : String := "HallHeatingModel"
def TX7 : u_T := fun k => match k with
  | 0 => ("HallHeatingModel", "refusal", "I", false)
  | 1 => ("HallHeatingModel", "script", "[I", true)
  | 2 => ("HallHeatingModel", "scriptSize", "I", false)
  | 3 => ("HallHeatingModel", "spot", "I", false)
  | 4 => ("HallHeatingModel", "isGood", "Z", false)
  | 5 => ("HallHeatingModel", "read", "[I", true)
  | 6 => ("HallHeatingModel", "now", "[I", true)
  | 7 => ("HallHeatingModel", "trial", "[I", true)
  | 8 => ("HallHeatingModel", "diary", "[I", true)
  | 9 => ("HallHeatingModel", "acts", "I", false)
  | 10 => ("HallHeatingModel", "kept", "[I", true)
  | _ => ("HallHeatingModel", "isKept", "[Z", true)
def tyX7 : Nat → FieldType := fun k => match k with
  | 0 => .int
  | 1 => .array .int
  | 2 => .int
  | 3 => .int
  | 4 => .boolean
  | 5 => .array .int
  | 6 => .array .int
  | 7 => .array .int
  | 8 => .array .int
  | 9 => .int
  | 10 => .array .int
  | _ => .array .boolean
theorem nmX7 : ∀ a, a < 12 → ∀ b, b < 12 → a ≠ b → (TX7 a).2.1 ≠ (TX7 b).2.1 := by decide +kernel
theorem tyX7_ok : ∀ k, k < 12 → parseFieldDescriptor (TX7 k).2.2.1 = some (tyX7 k) := by decide +kernel
abbrev cX7_init : ByteArray := prog_9_method_1_code
def yX7_init : MethodName := ⟨RX7, "<init>", "()V"⟩
abbrev cX7_thrown : ByteArray := prog_9_method_2_code
def yX7_thrown : MethodName := ⟨RX7, "thrown", "()I"⟩
abbrev cX7_refused : ByteArray := prog_9_method_3_code
def yX7_refused : MethodName := ⟨RX7, "refused", "(I)Z"⟩
abbrev cX7_in : ByteArray := prog_9_method_4_code
def yX7_in : MethodName := ⟨RX7, "in", "(JJJ)Z"⟩
abbrev cX7_copy : ByteArray := prog_9_method_5_code
def yX7_copy : MethodName := ⟨RX7, "copy", "([II[III)V"⟩
abbrev cX7_tenTo : ByteArray := prog_9_method_6_code
def yX7_tenTo : MethodName := ⟨RX7, "tenTo", "(I)J"⟩
abbrev cX7_clean : ByteArray := prog_9_method_7_code
def yX7_clean : MethodName := ⟨RX7, "clean", "([I)V"⟩
abbrev cX7_remember : ByteArray := prog_9_method_8_code
def yX7_remember : MethodName := ⟨RX7, "remember", "()V"⟩
abbrev cX7_begin : ByteArray := prog_9_method_9_code
def yX7_begin : MethodName := ⟨RX7, "begin", "()V"⟩
abbrev cX7_roomAt : ByteArray := prog_9_method_10_code
def yX7_roomAt : MethodName := ⟨RX7, "roomAt", "(II)I"⟩
abbrev cX7_bookAt : ByteArray := prog_9_method_11_code
def yX7_bookAt : MethodName := ⟨RX7, "bookAt", "(II)I"⟩
abbrev cX7_endOf : ByteArray := prog_9_method_12_code
def yX7_endOf : MethodName := ⟨RX7, "endOf", "([II)I"⟩
abbrev cX7_isOver : ByteArray := prog_9_method_13_code
def yX7_isOver : MethodName := ⟨RX7, "isOver", "([II)Z"⟩
abbrev cX7_currentOf : ByteArray := prog_9_method_14_code
def yX7_currentOf : MethodName := ⟨RX7, "currentOf", "([II)I"⟩
abbrev cX7_nextOf : ByteArray := prog_9_method_15_code
def yX7_nextOf : MethodName := ⟨RX7, "nextOf", "([II)I"⟩
abbrev cX7_cooled : ByteArray := prog_9_method_16_code
def yX7_cooled : MethodName := ⟨RX7, "cooled", "([II)I"⟩
abbrev cX7_isPreheated : ByteArray := prog_9_method_17_code
def yX7_isPreheated : MethodName := ⟨RX7, "isPreheated", "([III)Z"⟩
abbrev cX7_heaterOf : ByteArray := prog_9_method_18_code
def yX7_heaterOf : MethodName := ⟨RX7, "heaterOf", "([II)I"⟩
abbrev cX7_charge : ByteArray := prog_9_method_19_code
def yX7_charge : MethodName := ⟨RX7, "charge", "([III)V"⟩
abbrev cX7_goRoom : ByteArray := prog_9_method_20_code
def yX7_goRoom : MethodName := ⟨RX7, "goRoom", "([II)I"⟩
abbrev cX7_settle : ByteArray := prog_9_method_21_code
def yX7_settle : MethodName := ⟨RX7, "settle", "([II)V"⟩
abbrev cX7_goHour : ByteArray := prog_9_method_22_code
def yX7_goHour : MethodName := ⟨RX7, "goHour", "([I)V"⟩
abbrev cX7_goHours : ByteArray := prog_9_method_23_code
def yX7_goHours : MethodName := ⟨RX7, "goHours", "([II)V"⟩
abbrev cX7_goAll : ByteArray := prog_9_method_24_code
def yX7_goAll : MethodName := ⟨RX7, "goAll", "([I)V"⟩
abbrev cX7_isFree : ByteArray := prog_9_method_25_code
def yX7_isFree : MethodName := ⟨RX7, "isFree", "([IIII)Z"⟩
abbrev cX7_canBook : ByteArray := prog_9_method_26_code
def yX7_canBook : MethodName := ⟨RX7, "canBook", "([IIII)Z"⟩
abbrev cX7_addRoomTo : ByteArray := prog_9_method_27_code
def yX7_addRoomTo : MethodName := ⟨RX7, "addRoomTo", "([IIIII)V"⟩
abbrev cX7_bookTo : ByteArray := prog_9_method_28_code
def yX7_bookTo : MethodName := ⟨RX7, "bookTo", "([IIIIII)V"⟩
abbrev cX7_canCancel : ByteArray := prog_9_method_29_code
def yX7_canCancel : MethodName := ⟨RX7, "canCancel", "([II)Z"⟩
abbrev cX7_drop : ByteArray := prog_9_method_30_code
def yX7_drop : MethodName := ⟨RX7, "drop", "([II)V"⟩
abbrev cX7_append : ByteArray := prog_9_method_31_code
def yX7_append : MethodName := ⟨RX7, "append", "(I)I"⟩
abbrev cX7_clearText : ByteArray := prog_9_method_32_code
def yX7_clearText : MethodName := ⟨RX7, "clearText", "()I"⟩
abbrev cX7_isNext : ByteArray := prog_9_method_33_code
def yX7_isNext : MethodName := ⟨RX7, "isNext", "(I)Z"⟩
abbrev cX7_accept : ByteArray := prog_9_method_34_code
def yX7_accept : MethodName := ⟨RX7, "accept", "(Z)V"⟩
abbrev cX7_digit : ByteArray := prog_9_method_35_code
def yX7_digit : MethodName := ⟨RX7, "digit", "(II)I"⟩
abbrev cX7_two : ByteArray := prog_9_method_36_code
def yX7_two : MethodName := ⟨RX7, "two", "(II)I"⟩
abbrev cX7_readRoom : ByteArray := prog_9_method_37_code
def yX7_readRoom : MethodName := ⟨RX7, "readRoom", "()V"⟩
abbrev cX7_readOutside : ByteArray := prog_9_method_38_code
def yX7_readOutside : MethodName := ⟨RX7, "readOutside", "()V"⟩
abbrev cX7_readBooking : ByteArray := prog_9_method_39_code
def yX7_readBooking : MethodName := ⟨RX7, "readBooking", "()V"⟩
abbrev cX7_readText : ByteArray := prog_9_method_40_code
def yX7_readText : MethodName := ⟨RX7, "readText", "()I"⟩
abbrev cX7_errorPosition : ByteArray := prog_9_method_41_code
def yX7_errorPosition : MethodName := ⟨RX7, "errorPosition", "()I"⟩
abbrev cX7_load : ByteArray := prog_9_method_42_code
def yX7_load : MethodName := ⟨RX7, "load", "()I"⟩
abbrev cX7_about : ByteArray := prog_9_method_43_code
def yX7_about : MethodName := ⟨RX7, "about", "(I)I"⟩
abbrev cX7_isRoom : ByteArray := prog_9_method_44_code
def yX7_isRoom : MethodName := ⟨RX7, "isRoom", "(I)Z"⟩
abbrev cX7_isGroup : ByteArray := prog_9_method_45_code
def yX7_isGroup : MethodName := ⟨RX7, "isGroup", "(I)Z"⟩
abbrev cX7_isBooking : ByteArray := prog_9_method_46_code
def yX7_isBooking : MethodName := ⟨RX7, "isBooking", "(I)Z"⟩
abbrev cX7_room : ByteArray := prog_9_method_47_code
def yX7_room : MethodName := ⟨RX7, "room", "(II)I"⟩
abbrev cX7_owes : ByteArray := prog_9_method_48_code
def yX7_owes : MethodName := ⟨RX7, "owes", "(I)I"⟩
abbrev cX7_booking : ByteArray := prog_9_method_49_code
def yX7_booking : MethodName := ⟨RX7, "booking", "(II)I"⟩
abbrev cX7_addRoom : ByteArray := prog_9_method_50_code
def yX7_addRoom : MethodName := ⟨RX7, "addRoom", "(IIII)I"⟩
abbrev cX7_addGroup : ByteArray := prog_9_method_51_code
def yX7_addGroup : MethodName := ⟨RX7, "addGroup", "()I"⟩
abbrev cX7_isSound : ByteArray := prog_9_method_52_code
def yX7_isSound : MethodName := ⟨RX7, "isSound", "(III)Z"⟩
abbrev cX7_book : ByteArray := prog_9_method_53_code
def yX7_book : MethodName := ⟨RX7, "book", "(IIIII)I"⟩
abbrev cX7_cancel : ByteArray := prog_9_method_54_code
def yX7_cancel : MethodName := ⟨RX7, "cancel", "(I)I"⟩
abbrev cX7_prove : ByteArray := prog_9_method_55_code
def yX7_prove : MethodName := ⟨RX7, "prove", "(IZ)I"⟩
abbrev cX7_isOutside : ByteArray := prog_9_method_56_code
def yX7_isOutside : MethodName := ⟨RX7, "isOutside", "(I)Z"⟩
abbrev cX7_outside : ByteArray := prog_9_method_57_code
def yX7_outside : MethodName := ⟨RX7, "outside", "(I)I"⟩
abbrev cX7_pay : ByteArray := prog_9_method_58_code
def yX7_pay : MethodName := ⟨RX7, "pay", "(I)I"⟩
abbrev cX7_pass : ByteArray := prog_9_method_59_code
def yX7_pass : MethodName := ⟨RX7, "pass", "(I)I"⟩
abbrev cX7_undo : ByteArray := prog_9_method_60_code
def yX7_undo : MethodName := ⟨RX7, "undo", "()I"⟩
abbrev cX7_later : ByteArray := prog_9_method_61_code
def yX7_later : MethodName := ⟨RX7, "later", "(II)I"⟩
abbrev cX7_begins : ByteArray := prog_9_method_62_code
def yX7_begins : MethodName := ⟨RX7, "begins", "(I)I"⟩
abbrev cX7_cost : ByteArray := prog_9_method_63_code
def yX7_cost : MethodName := ⟨RX7, "cost", "(IIIII)I"⟩
abbrev cX7_willOwe : ByteArray := prog_9_method_64_code
def yX7_willOwe : MethodName := ⟨RX7, "willOwe", "(I)I"⟩
abbrev cX7_coldest : ByteArray := prog_9_method_65_code
def yX7_coldest : MethodName := ⟨RX7, "coldest", "()I"⟩
abbrev cX7_does : ByteArray := prog_9_method_66_code
def yX7_does : MethodName := ⟨RX7, "does", "(I)Z"⟩
abbrev cX7_runScript : ByteArray := prog_9_method_67_code
def yX7_runScript : MethodName := ⟨RX7, "runScript", "(IJ)I"⟩
abbrev cX7_markAll : ByteArray := prog_9_method_68_code
def yX7_markAll : MethodName := ⟨RX7, "markAll", "()V"⟩
abbrev cX7_simulate : ByteArray := prog_9_method_69_code
def yX7_simulate : MethodName := ⟨RX7, "simulate", "(JI)I"⟩
abbrev cX7_save : ByteArray := prog_9_method_70_code
def yX7_save : MethodName := ⟨RX7, "save", "(I)I"⟩
abbrev cX7_restore : ByteArray := prog_9_method_71_code
def yX7_restore : MethodName := ⟨RX7, "restore", "(I)I"⟩
def RL : String := "HallHeatingLaw"
abbrev cL_append : ByteArray := method_3_code
def yL_append : MethodName := ⟨RL, "append", "(LHallHeating;I[J)I"⟩
abbrev cL_load : ByteArray := method_4_code
def yL_load : MethodName := ⟨RL, "load", "(LHallHeating;[J)I"⟩
abbrev cL_about : ByteArray := method_5_code
def yL_about : MethodName := ⟨RL, "about", "(LHallHeating;I[J)I"⟩
abbrev cL_room : ByteArray := method_6_code
def yL_room : MethodName := ⟨RL, "room", "(LHallHeating;II[J)I"⟩
abbrev cL_owes : ByteArray := method_7_code
def yL_owes : MethodName := ⟨RL, "owes", "(LHallHeating;I[J)I"⟩
abbrev cL_booking : ByteArray := method_8_code
def yL_booking : MethodName := ⟨RL, "booking", "(LHallHeating;II[J)I"⟩
abbrev cL_addRoom : ByteArray := method_9_code
def yL_addRoom : MethodName := ⟨RL, "addRoom", "(LHallHeating;IIII[J)I"⟩
abbrev cL_addGroup : ByteArray := method_10_code
def yL_addGroup : MethodName := ⟨RL, "addGroup", "(LHallHeating;[J)I"⟩
abbrev cL_book : ByteArray := method_11_code
def yL_book : MethodName := ⟨RL, "book", "(LHallHeating;IIIII[J)I"⟩
abbrev cL_cancel : ByteArray := method_12_code
def yL_cancel : MethodName := ⟨RL, "cancel", "(LHallHeating;I[J)I"⟩
abbrev cL_prove : ByteArray := method_13_code
def yL_prove : MethodName := ⟨RL, "prove", "(LHallHeating;IZ[J)I"⟩
abbrev cL_outside : ByteArray := method_14_code
def yL_outside : MethodName := ⟨RL, "outside", "(LHallHeating;I[J)I"⟩
abbrev cL_pay : ByteArray := method_15_code
def yL_pay : MethodName := ⟨RL, "pay", "(LHallHeating;I[J)I"⟩
abbrev cL_pass : ByteArray := method_16_code
def yL_pass : MethodName := ⟨RL, "pass", "(LHallHeating;I[J)I"⟩
abbrev cL_undo : ByteArray := method_17_code
def yL_undo : MethodName := ⟨RL, "undo", "(LHallHeating;[J)I"⟩
abbrev cL_later : ByteArray := method_18_code
def yL_later : MethodName := ⟨RL, "later", "(LHallHeating;II[J)I"⟩
abbrev cL_begins : ByteArray := method_19_code
def yL_begins : MethodName := ⟨RL, "begins", "(LHallHeating;I[J)I"⟩
abbrev cL_cost : ByteArray := method_20_code
def yL_cost : MethodName := ⟨RL, "cost", "(LHallHeating;IIIII[J)I"⟩
abbrev cL_willOwe : ByteArray := method_21_code
def yL_willOwe : MethodName := ⟨RL, "willOwe", "(LHallHeating;I[J)I"⟩
abbrev cL_runScript : ByteArray := method_22_code
def yL_runScript : MethodName := ⟨RL, "runScript", "(LHallHeating;IJ[J)I"⟩
abbrev cL_simulate : ByteArray := method_23_code
def yL_simulate : MethodName := ⟨RL, "simulate", "(LHallHeating;JI[J)I"⟩
abbrev cL_save : ByteArray := method_24_code
def yL_save : MethodName := ⟨RL, "save", "(LHallHeating;I[J)I"⟩
abbrev cL_restore : ByteArray := method_25_code
def yL_restore : MethodName := ⟨RL, "restore", "(LHallHeating;I[J)I"⟩
abbrev cL_law : ByteArray := code
def yL_law : MethodName := ⟨RL, "law", "([I)Z"⟩
theorem dX0_init_0 : decode cX0_init 0 = .ok (.aload_n 0, 1) := by decide +kernel
theorem dX0_init_1 : decode cX0_init 1 = .ok (.invokespecial 1, 3) := by decide +kernel
theorem dX0_init_4 : decode cX0_init 4 = .ok (.return_, 1) := by decide +kernel
theorem dX0_become_0 : decode cX0_become 0 = .ok (.aload_n 0, 1) := by decide +kernel
theorem dX0_become_1 : decode cX0_become 1 = .ok (.iload_n 1, 1) := by decide +kernel
theorem dX0_become_2 : decode cX0_become 2 = .ok (.putfield 7, 3) := by decide +kernel
theorem dX0_become_5 : decode cX0_become 5 = .ok (.aload_n 0, 1) := by decide +kernel
theorem dX0_become_6 : decode cX0_become 6 = .ok (.iload_n 2, 1) := by decide +kernel
theorem dX0_become_7 : decode cX0_become 7 = .ok (.putfield 13, 3) := by decide +kernel
theorem dX0_become_10 : decode cX0_become 10 = .ok (.aload_n 0, 1) := by decide +kernel
theorem dX0_become_11 : decode cX0_become 11 = .ok (.iload_n 3, 1) := by decide +kernel
theorem dX0_become_12 : decode cX0_become 12 = .ok (.putfield 16, 3) := by decide +kernel
theorem dX0_become_15 : decode cX0_become 15 = .ok (.aload_n 0, 1) := by decide +kernel
theorem dX0_become_16 : decode cX0_become 16 = .ok (.iload 4, 2) := by decide +kernel
theorem dX0_become_18 : decode cX0_become 18 = .ok (.putfield 19, 3) := by decide +kernel
theorem dX0_become_21 : decode cX0_become 21 = .ok (.aload_n 0, 1) := by decide +kernel
theorem dX0_become_22 : decode cX0_become 22 = .ok (.iload 5, 2) := by decide +kernel
theorem dX0_become_24 : decode cX0_become 24 = .ok (.putfield 22, 3) := by decide +kernel
theorem dX0_become_27 : decode cX0_become 27 = .ok (.aload_n 0, 1) := by decide +kernel
theorem dX0_become_28 : decode cX0_become 28 = .ok (.iconst 0, 1) := by decide +kernel
theorem dX0_become_29 : decode cX0_become 29 = .ok (.putfield 25, 3) := by decide +kernel
theorem dX0_become_32 : decode cX0_become 32 = .ok (.aload_n 0, 1) := by decide +kernel
theorem dX0_become_33 : decode cX0_become 33 = .ok (.iconst 0, 1) := by decide +kernel
theorem dX0_become_34 : decode cX0_become 34 = .ok (.putfield 29, 3) := by decide +kernel
theorem dX0_become_37 : decode cX0_become 37 = .ok (.aload_n 0, 1) := by decide +kernel
theorem dX0_become_38 : decode cX0_become 38 = .ok (.iconst 0, 1) := by decide +kernel
theorem dX0_become_39 : decode cX0_become 39 = .ok (.putfield 32, 3) := by decide +kernel
theorem dX0_become_42 : decode cX0_become 42 = .ok (.aload_n 0, 1) := by decide +kernel
theorem dX0_become_43 : decode cX0_become 43 = .ok (.iconst 0, 1) := by decide +kernel
theorem dX0_become_44 : decode cX0_become 44 = .ok (.putfield 35, 3) := by decide +kernel
theorem dX0_become_47 : decode cX0_become 47 = .ok (.aload_n 0, 1) := by decide +kernel
theorem dX0_become_48 : decode cX0_become 48 = .ok (.iconst 0, 1) := by decide +kernel
theorem dX0_become_49 : decode cX0_become 49 = .ok (.putfield 38, 3) := by decide +kernel
theorem dX0_become_52 : decode cX0_become 52 = .ok (.return_, 1) := by decide +kernel
theorem dX0_copyFrom_0 : decode cX0_copyFrom 0 = .ok (.aload_n 0, 1) := by decide +kernel
theorem dX0_copyFrom_1 : decode cX0_copyFrom 1 = .ok (.aload_n 1, 1) := by decide +kernel
theorem dX0_copyFrom_2 : decode cX0_copyFrom 2 = .ok (.getfield 7, 3) := by decide +kernel
theorem dX0_copyFrom_5 : decode cX0_copyFrom 5 = .ok (.aload_n 1, 1) := by decide +kernel
theorem dX0_copyFrom_6 : decode cX0_copyFrom 6 = .ok (.getfield 13, 3) := by decide +kernel
theorem dX0_copyFrom_9 : decode cX0_copyFrom 9 = .ok (.aload_n 1, 1) := by decide +kernel
theorem dX0_copyFrom_10 : decode cX0_copyFrom 10 = .ok (.getfield 16, 3) := by decide +kernel
theorem dX0_copyFrom_13 : decode cX0_copyFrom 13 = .ok (.aload_n 1, 1) := by decide +kernel
theorem dX0_copyFrom_14 : decode cX0_copyFrom 14 = .ok (.getfield 19, 3) := by decide +kernel
theorem dX0_copyFrom_17 : decode cX0_copyFrom 17 = .ok (.aload_n 1, 1) := by decide +kernel
theorem dX0_copyFrom_18 : decode cX0_copyFrom 18 = .ok (.getfield 22, 3) := by decide +kernel
theorem dX0_copyFrom_21 : decode cX0_copyFrom 21 = .ok (.invokevirtual 41, 3) := by decide +kernel
theorem dX0_copyFrom_24 : decode cX0_copyFrom 24 = .ok (.aload_n 0, 1) := by decide +kernel
theorem dX0_copyFrom_25 : decode cX0_copyFrom 25 = .ok (.aload_n 1, 1) := by decide +kernel
theorem dX0_copyFrom_26 : decode cX0_copyFrom 26 = .ok (.getfield 25, 3) := by decide +kernel
theorem dX0_copyFrom_29 : decode cX0_copyFrom 29 = .ok (.putfield 25, 3) := by decide +kernel
theorem dX0_copyFrom_32 : decode cX0_copyFrom 32 = .ok (.aload_n 0, 1) := by decide +kernel
theorem dX0_copyFrom_33 : decode cX0_copyFrom 33 = .ok (.aload_n 1, 1) := by decide +kernel
theorem dX0_copyFrom_34 : decode cX0_copyFrom 34 = .ok (.getfield 29, 3) := by decide +kernel
theorem dX0_copyFrom_37 : decode cX0_copyFrom 37 = .ok (.putfield 29, 3) := by decide +kernel
theorem dX0_copyFrom_40 : decode cX0_copyFrom 40 = .ok (.aload_n 0, 1) := by decide +kernel
theorem dX0_copyFrom_41 : decode cX0_copyFrom 41 = .ok (.aload_n 1, 1) := by decide +kernel
theorem dX0_copyFrom_42 : decode cX0_copyFrom 42 = .ok (.getfield 32, 3) := by decide +kernel
theorem dX0_copyFrom_45 : decode cX0_copyFrom 45 = .ok (.putfield 32, 3) := by decide +kernel
theorem dX0_copyFrom_48 : decode cX0_copyFrom 48 = .ok (.aload_n 0, 1) := by decide +kernel
theorem dX0_copyFrom_49 : decode cX0_copyFrom 49 = .ok (.aload_n 1, 1) := by decide +kernel
theorem dX0_copyFrom_50 : decode cX0_copyFrom 50 = .ok (.getfield 35, 3) := by decide +kernel
theorem dX0_copyFrom_53 : decode cX0_copyFrom 53 = .ok (.putfield 35, 3) := by decide +kernel
theorem dX0_copyFrom_56 : decode cX0_copyFrom 56 = .ok (.aload_n 0, 1) := by decide +kernel
theorem dX0_copyFrom_57 : decode cX0_copyFrom 57 = .ok (.aload_n 1, 1) := by decide +kernel
theorem dX0_copyFrom_58 : decode cX0_copyFrom 58 = .ok (.getfield 38, 3) := by decide +kernel
theorem dX0_copyFrom_61 : decode cX0_copyFrom 61 = .ok (.putfield 38, 3) := by decide +kernel
theorem dX0_copyFrom_64 : decode cX0_copyFrom 64 = .ok (.return_, 1) := by decide +kernel
theorem dX0_numberAbout_0 : decode cX0_numberAbout 0 = .ok (.iload_n 1, 1) := by decide +kernel
theorem dX0_numberAbout_1 : decode cX0_numberAbout 1 = .ok (.tableswitch 95 0 7 #[47, 52, 57, 62, 67, 72, 77, 82], 47) := by decide +kernel
theorem dX0_numberAbout_48 : decode cX0_numberAbout 48 = .ok (.aload_n 0, 1) := by decide +kernel
theorem dX0_numberAbout_49 : decode cX0_numberAbout 49 = .ok (.getfield 7, 3) := by decide +kernel
theorem dX0_numberAbout_52 : decode cX0_numberAbout 52 = .ok (.ireturn, 1) := by decide +kernel
theorem dX0_numberAbout_53 : decode cX0_numberAbout 53 = .ok (.aload_n 0, 1) := by decide +kernel
theorem dX0_numberAbout_54 : decode cX0_numberAbout 54 = .ok (.getfield 13, 3) := by decide +kernel
theorem dX0_numberAbout_57 : decode cX0_numberAbout 57 = .ok (.ireturn, 1) := by decide +kernel
theorem dX0_numberAbout_58 : decode cX0_numberAbout 58 = .ok (.aload_n 0, 1) := by decide +kernel
theorem dX0_numberAbout_59 : decode cX0_numberAbout 59 = .ok (.getfield 16, 3) := by decide +kernel
theorem dX0_numberAbout_62 : decode cX0_numberAbout 62 = .ok (.ireturn, 1) := by decide +kernel
theorem dX0_numberAbout_63 : decode cX0_numberAbout 63 = .ok (.aload_n 0, 1) := by decide +kernel
theorem dX0_numberAbout_64 : decode cX0_numberAbout 64 = .ok (.getfield 19, 3) := by decide +kernel
theorem dX0_numberAbout_67 : decode cX0_numberAbout 67 = .ok (.ireturn, 1) := by decide +kernel
theorem dX0_numberAbout_68 : decode cX0_numberAbout 68 = .ok (.aload_n 0, 1) := by decide +kernel
theorem dX0_numberAbout_69 : decode cX0_numberAbout 69 = .ok (.getfield 22, 3) := by decide +kernel
theorem dX0_numberAbout_72 : decode cX0_numberAbout 72 = .ok (.ireturn, 1) := by decide +kernel
theorem dX0_numberAbout_73 : decode cX0_numberAbout 73 = .ok (.aload_n 0, 1) := by decide +kernel
theorem dX0_numberAbout_74 : decode cX0_numberAbout 74 = .ok (.getfield 29, 3) := by decide +kernel
theorem dX0_numberAbout_77 : decode cX0_numberAbout 77 = .ok (.ireturn, 1) := by decide +kernel
theorem dX0_numberAbout_78 : decode cX0_numberAbout 78 = .ok (.aload_n 0, 1) := by decide +kernel
theorem dX0_numberAbout_79 : decode cX0_numberAbout 79 = .ok (.getfield 32, 3) := by decide +kernel
theorem dX0_numberAbout_82 : decode cX0_numberAbout 82 = .ok (.ireturn, 1) := by decide +kernel
theorem dX0_numberAbout_83 : decode cX0_numberAbout 83 = .ok (.aload_n 0, 1) := by decide +kernel
theorem dX0_numberAbout_84 : decode cX0_numberAbout 84 = .ok (.getfield 35, 3) := by decide +kernel
theorem dX0_numberAbout_87 : decode cX0_numberAbout 87 = .ok (.ifCond .eq 7, 3) := by decide +kernel
theorem dX0_numberAbout_90 : decode cX0_numberAbout 90 = .ok (.iconst 1, 1) := by decide +kernel
theorem dX0_numberAbout_91 : decode cX0_numberAbout 91 = .ok (.goto 4, 3) := by decide +kernel
theorem dX0_numberAbout_94 : decode cX0_numberAbout 94 = .ok (.iconst 0, 1) := by decide +kernel
theorem dX0_numberAbout_95 : decode cX0_numberAbout 95 = .ok (.ireturn, 1) := by decide +kernel
theorem dX0_numberAbout_96 : decode cX0_numberAbout 96 = .ok (.aload_n 0, 1) := by decide +kernel
theorem dX0_numberAbout_97 : decode cX0_numberAbout 97 = .ok (.getfield 38, 3) := by decide +kernel
theorem dX0_numberAbout_100 : decode cX0_numberAbout 100 = .ok (.ireturn, 1) := by decide +kernel
theorem dX0_end_0 : decode cX0_end 0 = .ok (.aload_n 0, 1) := by decide +kernel
theorem dX0_end_1 : decode cX0_end 1 = .ok (.getfield 16, 3) := by decide +kernel
theorem dX0_end_4 : decode cX0_end 4 = .ok (.aload_n 0, 1) := by decide +kernel
theorem dX0_end_5 : decode cX0_end 5 = .ok (.getfield 19, 3) := by decide +kernel
theorem dX0_end_8 : decode cX0_end 8 = .ok (.iadd, 1) := by decide +kernel
theorem dX0_end_9 : decode cX0_end 9 = .ok (.ireturn, 1) := by decide +kernel
theorem dX0_has_0 : decode cX0_has 0 = .ok (.aload_n 0, 1) := by decide +kernel
theorem dX0_has_1 : decode cX0_has 1 = .ok (.getfield 16, 3) := by decide +kernel
theorem dX0_has_4 : decode cX0_has 4 = .ok (.iload_n 1, 1) := by decide +kernel
theorem dX0_has_5 : decode cX0_has 5 = .ok (.if_icmp .gt 20, 3) := by decide +kernel
theorem dX0_has_8 : decode cX0_has 8 = .ok (.iload_n 1, 1) := by decide +kernel
theorem dX0_has_9 : decode cX0_has 9 = .ok (.aload_n 0, 1) := by decide +kernel
theorem dX0_has_10 : decode cX0_has 10 = .ok (.getfield 16, 3) := by decide +kernel
theorem dX0_has_13 : decode cX0_has 13 = .ok (.aload_n 0, 1) := by decide +kernel
theorem dX0_has_14 : decode cX0_has 14 = .ok (.getfield 19, 3) := by decide +kernel
theorem dX0_has_17 : decode cX0_has 17 = .ok (.iadd, 1) := by decide +kernel
theorem dX0_has_18 : decode cX0_has 18 = .ok (.if_icmp .ge 7, 3) := by decide +kernel
theorem dX0_has_21 : decode cX0_has 21 = .ok (.iconst 1, 1) := by decide +kernel
theorem dX0_has_22 : decode cX0_has 22 = .ok (.goto 4, 3) := by decide +kernel
theorem dX0_has_25 : decode cX0_has 25 = .ok (.iconst 0, 1) := by decide +kernel
theorem dX0_has_26 : decode cX0_has 26 = .ok (.ireturn, 1) := by decide +kernel
theorem dX0_isOver_0 : decode cX0_isOver 0 = .ok (.aload_n 0, 1) := by decide +kernel
theorem dX0_isOver_1 : decode cX0_isOver 1 = .ok (.invokevirtual 45, 3) := by decide +kernel
theorem dX0_isOver_4 : decode cX0_isOver 4 = .ok (.iload_n 1, 1) := by decide +kernel
theorem dX0_isOver_5 : decode cX0_isOver 5 = .ok (.if_icmp .gt 7, 3) := by decide +kernel
theorem dX0_isOver_8 : decode cX0_isOver 8 = .ok (.iconst 1, 1) := by decide +kernel
theorem dX0_isOver_9 : decode cX0_isOver 9 = .ok (.goto 4, 3) := by decide +kernel
theorem dX0_isOver_12 : decode cX0_isOver 12 = .ok (.iconst 0, 1) := by decide +kernel
theorem dX0_isOver_13 : decode cX0_isOver 13 = .ok (.ireturn, 1) := by decide +kernel
theorem dX0_meets_0 : decode cX0_meets 0 = .ok (.aload_n 0, 1) := by decide +kernel
theorem dX0_meets_1 : decode cX0_meets 1 = .ok (.getfield 16, 3) := by decide +kernel
theorem dX0_meets_4 : decode cX0_meets 4 = .ok (.iload_n 1, 1) := by decide +kernel
theorem dX0_meets_5 : decode cX0_meets 5 = .ok (.iload_n 2, 1) := by decide +kernel
theorem dX0_meets_6 : decode cX0_meets 6 = .ok (.iadd, 1) := by decide +kernel
theorem dX0_meets_7 : decode cX0_meets 7 = .ok (.if_icmp .ge 15, 3) := by decide +kernel
theorem dX0_meets_10 : decode cX0_meets 10 = .ok (.iload_n 1, 1) := by decide +kernel
theorem dX0_meets_11 : decode cX0_meets 11 = .ok (.aload_n 0, 1) := by decide +kernel
theorem dX0_meets_12 : decode cX0_meets 12 = .ok (.invokevirtual 45, 3) := by decide +kernel
theorem dX0_meets_15 : decode cX0_meets 15 = .ok (.if_icmp .ge 7, 3) := by decide +kernel
theorem dX0_meets_18 : decode cX0_meets 18 = .ok (.iconst 1, 1) := by decide +kernel
theorem dX0_meets_19 : decode cX0_meets 19 = .ok (.goto 4, 3) := by decide +kernel
theorem dX0_meets_22 : decode cX0_meets 22 = .ok (.iconst 0, 1) := by decide +kernel
theorem dX0_meets_23 : decode cX0_meets 23 = .ok (.ireturn, 1) := by decide +kernel
theorem dX0_mayGo_0 : decode cX0_mayGo 0 = .ok (.aload_n 0, 1) := by decide +kernel
theorem dX0_mayGo_1 : decode cX0_mayGo 1 = .ok (.getfield 25, 3) := by decide +kernel
theorem dX0_mayGo_4 : decode cX0_mayGo 4 = .ok (.ifCond .ne 15, 3) := by decide +kernel
theorem dX0_mayGo_7 : decode cX0_mayGo 7 = .ok (.iload_n 1, 1) := by decide +kernel
theorem dX0_mayGo_8 : decode cX0_mayGo 8 = .ok (.aload_n 0, 1) := by decide +kernel
theorem dX0_mayGo_9 : decode cX0_mayGo 9 = .ok (.getfield 16, 3) := by decide +kernel
theorem dX0_mayGo_12 : decode cX0_mayGo 12 = .ok (.if_icmp .gt 7, 3) := by decide +kernel
theorem dX0_mayGo_15 : decode cX0_mayGo 15 = .ok (.iconst 1, 1) := by decide +kernel
theorem dX0_mayGo_16 : decode cX0_mayGo 16 = .ok (.goto 4, 3) := by decide +kernel
theorem dX0_mayGo_19 : decode cX0_mayGo 19 = .ok (.iconst 0, 1) := by decide +kernel
theorem dX0_mayGo_20 : decode cX0_mayGo 20 = .ok (.ireturn, 1) := by decide +kernel
theorem dX1_init_0 : decode cX1_init 0 = .ok (.aload_n 0, 1) := by decide +kernel
theorem dX1_init_1 : decode cX1_init 1 = .ok (.invokespecial 3, 3) := by decide +kernel
theorem dX1_init_4 : decode cX1_init 4 = .ok (.return_, 1) := by decide +kernel
theorem dX1_withoutLast_0 : decode cX1_withoutLast 0 = .ok (.lload_n 0, 1) := by decide +kernel
theorem dX1_withoutLast_1 : decode cX1_withoutLast 1 = .ok (.lstore_n 3, 1) := by decide +kernel
theorem dX1_withoutLast_2 : decode cX1_withoutLast 2 = .ok (.iconst 0, 1) := by decide +kernel
theorem dX1_withoutLast_3 : decode cX1_withoutLast 3 = .ok (.istore 5, 2) := by decide +kernel
theorem dX1_withoutLast_5 : decode cX1_withoutLast 5 = .ok (.iload 5, 2) := by decide +kernel
theorem dX1_withoutLast_7 : decode cX1_withoutLast 7 = .ok (.iload_n 2, 1) := by decide +kernel
theorem dX1_withoutLast_8 : decode cX1_withoutLast 8 = .ok (.if_icmp .ge 15, 3) := by decide +kernel
theorem dX1_withoutLast_11 : decode cX1_withoutLast 11 = .ok (.lload_n 3, 1) := by decide +kernel
theorem dX1_withoutLast_12 : decode cX1_withoutLast 12 = .ok (.ldc2_w 9, 3) := by decide +kernel
theorem dX1_withoutLast_15 : decode cX1_withoutLast 15 = .ok (.ldiv, 1) := by decide +kernel
theorem dX1_withoutLast_16 : decode cX1_withoutLast 16 = .ok (.lstore_n 3, 1) := by decide +kernel
theorem dX1_withoutLast_17 : decode cX1_withoutLast 17 = .ok (.iinc 5 1, 3) := by decide +kernel
theorem dX1_withoutLast_20 : decode cX1_withoutLast 20 = .ok (.goto (-15), 3) := by decide +kernel
theorem dX1_withoutLast_23 : decode cX1_withoutLast 23 = .ok (.lload_n 3, 1) := by decide +kernel
theorem dX1_withoutLast_24 : decode cX1_withoutLast 24 = .ok (.lreturn, 1) := by decide +kernel
theorem dX1_become_0 : decode cX1_become 0 = .ok (.lload_n 1, 1) := by decide +kernel
theorem dX1_become_1 : decode cX1_become 1 = .ok (.ldc2_w 9, 3) := by decide +kernel
theorem dX1_become_4 : decode cX1_become 4 = .ok (.lrem, 1) := by decide +kernel
theorem dX1_become_5 : decode cX1_become 5 = .ok (.l2i, 1) := by decide +kernel
theorem dX1_become_6 : decode cX1_become 6 = .ok (.istore_n 3, 1) := by decide +kernel
theorem dX1_become_7 : decode cX1_become 7 = .ok (.aload_n 0, 1) := by decide +kernel
theorem dX1_become_8 : decode cX1_become 8 = .ok (.iload_n 3, 1) := by decide +kernel
theorem dX1_become_9 : decode cX1_become 9 = .ok (.sipush 10000, 3) := by decide +kernel
theorem dX1_become_12 : decode cX1_become 12 = .ok (.idiv, 1) := by decide +kernel
theorem dX1_become_13 : decode cX1_become 13 = .ok (.putfield 11, 3) := by decide +kernel
theorem dX1_become_16 : decode cX1_become 16 = .ok (.aload_n 0, 1) := by decide +kernel
theorem dX1_become_17 : decode cX1_become 17 = .ok (.iload_n 3, 1) := by decide +kernel
theorem dX1_become_18 : decode cX1_become 18 = .ok (.sipush 1000, 3) := by decide +kernel
theorem dX1_become_21 : decode cX1_become 21 = .ok (.idiv, 1) := by decide +kernel
theorem dX1_become_22 : decode cX1_become 22 = .ok (.bipush 10, 2) := by decide +kernel
theorem dX1_become_24 : decode cX1_become 24 = .ok (.irem, 1) := by decide +kernel
theorem dX1_become_25 : decode cX1_become 25 = .ok (.putfield 17, 3) := by decide +kernel
theorem dX1_become_28 : decode cX1_become 28 = .ok (.aload_n 0, 1) := by decide +kernel
theorem dX1_become_29 : decode cX1_become 29 = .ok (.iload_n 3, 1) := by decide +kernel
theorem dX1_become_30 : decode cX1_become 30 = .ok (.bipush 100, 2) := by decide +kernel
theorem dX1_become_32 : decode cX1_become 32 = .ok (.idiv, 1) := by decide +kernel
theorem dX1_become_33 : decode cX1_become 33 = .ok (.bipush 10, 2) := by decide +kernel
theorem dX1_become_35 : decode cX1_become 35 = .ok (.irem, 1) := by decide +kernel
theorem dX1_become_36 : decode cX1_become 36 = .ok (.putfield 20, 3) := by decide +kernel
theorem dX1_become_39 : decode cX1_become 39 = .ok (.aload_n 0, 1) := by decide +kernel
theorem dX1_become_40 : decode cX1_become 40 = .ok (.iload_n 3, 1) := by decide +kernel
theorem dX1_become_41 : decode cX1_become 41 = .ok (.bipush 10, 2) := by decide +kernel
theorem dX1_become_43 : decode cX1_become 43 = .ok (.idiv, 1) := by decide +kernel
theorem dX1_become_44 : decode cX1_become 44 = .ok (.bipush 10, 2) := by decide +kernel
theorem dX1_become_46 : decode cX1_become 46 = .ok (.irem, 1) := by decide +kernel
theorem dX1_become_47 : decode cX1_become 47 = .ok (.putfield 23, 3) := by decide +kernel
theorem dX1_become_50 : decode cX1_become 50 = .ok (.aload_n 0, 1) := by decide +kernel
theorem dX1_become_51 : decode cX1_become 51 = .ok (.iload_n 3, 1) := by decide +kernel
theorem dX1_become_52 : decode cX1_become 52 = .ok (.bipush 10, 2) := by decide +kernel
theorem dX1_become_54 : decode cX1_become 54 = .ok (.irem, 1) := by decide +kernel
theorem dX1_become_55 : decode cX1_become 55 = .ok (.putfield 26, 3) := by decide +kernel
theorem dX1_become_58 : decode cX1_become 58 = .ok (.return_, 1) := by decide +kernel
theorem dX1_succeedsOn_0 : decode cX1_succeedsOn 0 = .ok (.aload_n 0, 1) := by decide +kernel
theorem dX1_succeedsOn_1 : decode cX1_succeedsOn 1 = .ok (.getfield 11, 3) := by decide +kernel
theorem dX1_succeedsOn_4 : decode cX1_succeedsOn 4 = .ok (.tableswitch 391 1 9 #[52, 92, 133, 169, 204, 232, 272, 320, 349], 52) := by decide +kernel
theorem dX1_succeedsOn_56 : decode cX1_succeedsOn 56 = .ok (.aload_n 0, 1) := by decide +kernel
theorem dX1_succeedsOn_57 : decode cX1_succeedsOn 57 = .ok (.getfield 17, 3) := by decide +kernel
theorem dX1_succeedsOn_60 : decode cX1_succeedsOn 60 = .ok (.ifCond .ne 34, 3) := by decide +kernel
theorem dX1_succeedsOn_63 : decode cX1_succeedsOn 63 = .ok (.aload_n 0, 1) := by decide +kernel
theorem dX1_succeedsOn_64 : decode cX1_succeedsOn 64 = .ok (.getfield 20, 3) := by decide +kernel
theorem dX1_succeedsOn_67 : decode cX1_succeedsOn 67 = .ok (.ifCond .ne 27, 3) := by decide +kernel
theorem dX1_succeedsOn_70 : decode cX1_succeedsOn 70 = .ok (.aload_n 0, 1) := by decide +kernel
theorem dX1_succeedsOn_71 : decode cX1_succeedsOn 71 = .ok (.aload_n 1, 1) := by decide +kernel
theorem dX1_succeedsOn_72 : decode cX1_succeedsOn 72 = .ok (.bipush 10, 2) := by decide +kernel
theorem dX1_succeedsOn_74 : decode cX1_succeedsOn 74 = .ok (.aload_n 0, 1) := by decide +kernel
theorem dX1_succeedsOn_75 : decode cX1_succeedsOn 75 = .ok (.getfield 23, 3) := by decide +kernel
theorem dX1_succeedsOn_78 : decode cX1_succeedsOn 78 = .ok (.imul, 1) := by decide +kernel
theorem dX1_succeedsOn_79 : decode cX1_succeedsOn 79 = .ok (.aload_n 0, 1) := by decide +kernel
theorem dX1_succeedsOn_80 : decode cX1_succeedsOn 80 = .ok (.getfield 26, 3) := by decide +kernel
theorem dX1_succeedsOn_83 : decode cX1_succeedsOn 83 = .ok (.iadd, 1) := by decide +kernel
theorem dX1_succeedsOn_84 : decode cX1_succeedsOn 84 = .ok (.invokevirtual 29, 3) := by decide +kernel
theorem dX1_succeedsOn_87 : decode cX1_succeedsOn 87 = .ok (.ifCond .eq 7, 3) := by decide +kernel
theorem dX1_succeedsOn_90 : decode cX1_succeedsOn 90 = .ok (.iconst 1, 1) := by decide +kernel
theorem dX1_succeedsOn_91 : decode cX1_succeedsOn 91 = .ok (.goto 4, 3) := by decide +kernel
theorem dX1_succeedsOn_94 : decode cX1_succeedsOn 94 = .ok (.iconst 0, 1) := by decide +kernel
theorem dX1_succeedsOn_95 : decode cX1_succeedsOn 95 = .ok (.ireturn, 1) := by decide +kernel
theorem dX1_succeedsOn_96 : decode cX1_succeedsOn 96 = .ok (.aload_n 0, 1) := by decide +kernel
theorem dX1_succeedsOn_97 : decode cX1_succeedsOn 97 = .ok (.getfield 17, 3) := by decide +kernel
theorem dX1_succeedsOn_100 : decode cX1_succeedsOn 100 = .ok (.ifCond .ne 35, 3) := by decide +kernel
theorem dX1_succeedsOn_103 : decode cX1_succeedsOn 103 = .ok (.aload_n 0, 1) := by decide +kernel
theorem dX1_succeedsOn_104 : decode cX1_succeedsOn 104 = .ok (.getfield 20, 3) := by decide +kernel
theorem dX1_succeedsOn_107 : decode cX1_succeedsOn 107 = .ok (.iconst 1, 1) := by decide +kernel
theorem dX1_succeedsOn_108 : decode cX1_succeedsOn 108 = .ok (.if_icmp .gt 27, 3) := by decide +kernel
theorem dX1_succeedsOn_111 : decode cX1_succeedsOn 111 = .ok (.aload_n 0, 1) := by decide +kernel
theorem dX1_succeedsOn_112 : decode cX1_succeedsOn 112 = .ok (.aload_n 1, 1) := by decide +kernel
theorem dX1_succeedsOn_113 : decode cX1_succeedsOn 113 = .ok (.bipush 10, 2) := by decide +kernel
theorem dX1_succeedsOn_115 : decode cX1_succeedsOn 115 = .ok (.aload_n 0, 1) := by decide +kernel
theorem dX1_succeedsOn_116 : decode cX1_succeedsOn 116 = .ok (.getfield 23, 3) := by decide +kernel
theorem dX1_succeedsOn_119 : decode cX1_succeedsOn 119 = .ok (.imul, 1) := by decide +kernel
theorem dX1_succeedsOn_120 : decode cX1_succeedsOn 120 = .ok (.aload_n 0, 1) := by decide +kernel
theorem dX1_succeedsOn_121 : decode cX1_succeedsOn 121 = .ok (.getfield 26, 3) := by decide +kernel
theorem dX1_succeedsOn_124 : decode cX1_succeedsOn 124 = .ok (.iadd, 1) := by decide +kernel
theorem dX1_succeedsOn_125 : decode cX1_succeedsOn 125 = .ok (.invokevirtual 33, 3) := by decide +kernel
theorem dX1_succeedsOn_128 : decode cX1_succeedsOn 128 = .ok (.ifCond .eq 7, 3) := by decide +kernel
theorem dX1_succeedsOn_131 : decode cX1_succeedsOn 131 = .ok (.iconst 1, 1) := by decide +kernel
theorem dX1_succeedsOn_132 : decode cX1_succeedsOn 132 = .ok (.goto 4, 3) := by decide +kernel
theorem dX1_succeedsOn_135 : decode cX1_succeedsOn 135 = .ok (.iconst 0, 1) := by decide +kernel
theorem dX1_succeedsOn_136 : decode cX1_succeedsOn 136 = .ok (.ireturn, 1) := by decide +kernel
theorem dX1_succeedsOn_137 : decode cX1_succeedsOn 137 = .ok (.aload_n 0, 1) := by decide +kernel
theorem dX1_succeedsOn_138 : decode cX1_succeedsOn 138 = .ok (.getfield 20, 3) := by decide +kernel
theorem dX1_succeedsOn_141 : decode cX1_succeedsOn 141 = .ok (.iconst 1, 1) := by decide +kernel
theorem dX1_succeedsOn_142 : decode cX1_succeedsOn 142 = .ok (.if_icmp .gt 29, 3) := by decide +kernel
theorem dX1_succeedsOn_145 : decode cX1_succeedsOn 145 = .ok (.aload_n 0, 1) := by decide +kernel
theorem dX1_succeedsOn_146 : decode cX1_succeedsOn 146 = .ok (.getfield 23, 3) := by decide +kernel
theorem dX1_succeedsOn_149 : decode cX1_succeedsOn 149 = .ok (.ifCond .ne 22, 3) := by decide +kernel
theorem dX1_succeedsOn_152 : decode cX1_succeedsOn 152 = .ok (.aload_n 0, 1) := by decide +kernel
theorem dX1_succeedsOn_153 : decode cX1_succeedsOn 153 = .ok (.getfield 26, 3) := by decide +kernel
theorem dX1_succeedsOn_156 : decode cX1_succeedsOn 156 = .ok (.ifCond .ne 15, 3) := by decide +kernel
theorem dX1_succeedsOn_159 : decode cX1_succeedsOn 159 = .ok (.aload_n 0, 1) := by decide +kernel
theorem dX1_succeedsOn_160 : decode cX1_succeedsOn 160 = .ok (.aload_n 1, 1) := by decide +kernel
theorem dX1_succeedsOn_161 : decode cX1_succeedsOn 161 = .ok (.invokevirtual 36, 3) := by decide +kernel
theorem dX1_succeedsOn_164 : decode cX1_succeedsOn 164 = .ok (.ifCond .eq 7, 3) := by decide +kernel
theorem dX1_succeedsOn_167 : decode cX1_succeedsOn 167 = .ok (.iconst 1, 1) := by decide +kernel
theorem dX1_succeedsOn_168 : decode cX1_succeedsOn 168 = .ok (.goto 4, 3) := by decide +kernel
theorem dX1_succeedsOn_171 : decode cX1_succeedsOn 171 = .ok (.iconst 0, 1) := by decide +kernel
theorem dX1_succeedsOn_172 : decode cX1_succeedsOn 172 = .ok (.ireturn, 1) := by decide +kernel
theorem dX1_succeedsOn_173 : decode cX1_succeedsOn 173 = .ok (.aload_n 0, 1) := by decide +kernel
theorem dX1_succeedsOn_174 : decode cX1_succeedsOn 174 = .ok (.getfield 20, 3) := by decide +kernel
theorem dX1_succeedsOn_177 : decode cX1_succeedsOn 177 = .ok (.ifCond .ne 29, 3) := by decide +kernel
theorem dX1_succeedsOn_180 : decode cX1_succeedsOn 180 = .ok (.aload_n 0, 1) := by decide +kernel
theorem dX1_succeedsOn_181 : decode cX1_succeedsOn 181 = .ok (.getfield 23, 3) := by decide +kernel
theorem dX1_succeedsOn_184 : decode cX1_succeedsOn 184 = .ok (.ifCond .ne 22, 3) := by decide +kernel
theorem dX1_succeedsOn_187 : decode cX1_succeedsOn 187 = .ok (.aload_n 0, 1) := by decide +kernel
theorem dX1_succeedsOn_188 : decode cX1_succeedsOn 188 = .ok (.getfield 26, 3) := by decide +kernel
theorem dX1_succeedsOn_191 : decode cX1_succeedsOn 191 = .ok (.ifCond .ne 15, 3) := by decide +kernel
theorem dX1_succeedsOn_194 : decode cX1_succeedsOn 194 = .ok (.aload_n 0, 1) := by decide +kernel
theorem dX1_succeedsOn_195 : decode cX1_succeedsOn 195 = .ok (.aload_n 1, 1) := by decide +kernel
theorem dX1_succeedsOn_196 : decode cX1_succeedsOn 196 = .ok (.invokevirtual 40, 3) := by decide +kernel
theorem dX1_succeedsOn_199 : decode cX1_succeedsOn 199 = .ok (.ifCond .eq 7, 3) := by decide +kernel
theorem dX1_succeedsOn_202 : decode cX1_succeedsOn 202 = .ok (.iconst 1, 1) := by decide +kernel
theorem dX1_succeedsOn_203 : decode cX1_succeedsOn 203 = .ok (.goto 4, 3) := by decide +kernel
theorem dX1_succeedsOn_206 : decode cX1_succeedsOn 206 = .ok (.iconst 0, 1) := by decide +kernel
theorem dX1_succeedsOn_207 : decode cX1_succeedsOn 207 = .ok (.ireturn, 1) := by decide +kernel
theorem dX1_succeedsOn_208 : decode cX1_succeedsOn 208 = .ok (.aload_n 0, 1) := by decide +kernel
theorem dX1_succeedsOn_209 : decode cX1_succeedsOn 209 = .ok (.getfield 23, 3) := by decide +kernel
theorem dX1_succeedsOn_212 : decode cX1_succeedsOn 212 = .ok (.ifCond .ne 22, 3) := by decide +kernel
theorem dX1_succeedsOn_215 : decode cX1_succeedsOn 215 = .ok (.aload_n 0, 1) := by decide +kernel
theorem dX1_succeedsOn_216 : decode cX1_succeedsOn 216 = .ok (.getfield 26, 3) := by decide +kernel
theorem dX1_succeedsOn_219 : decode cX1_succeedsOn 219 = .ok (.ifCond .ne 15, 3) := by decide +kernel
theorem dX1_succeedsOn_222 : decode cX1_succeedsOn 222 = .ok (.aload_n 0, 1) := by decide +kernel
theorem dX1_succeedsOn_223 : decode cX1_succeedsOn 223 = .ok (.aload_n 1, 1) := by decide +kernel
theorem dX1_succeedsOn_224 : decode cX1_succeedsOn 224 = .ok (.invokevirtual 43, 3) := by decide +kernel
theorem dX1_succeedsOn_227 : decode cX1_succeedsOn 227 = .ok (.ifCond .eq 7, 3) := by decide +kernel
theorem dX1_succeedsOn_230 : decode cX1_succeedsOn 230 = .ok (.iconst 1, 1) := by decide +kernel
theorem dX1_succeedsOn_231 : decode cX1_succeedsOn 231 = .ok (.goto 4, 3) := by decide +kernel
theorem dX1_succeedsOn_234 : decode cX1_succeedsOn 234 = .ok (.iconst 0, 1) := by decide +kernel
theorem dX1_succeedsOn_235 : decode cX1_succeedsOn 235 = .ok (.ireturn, 1) := by decide +kernel
theorem dX1_succeedsOn_236 : decode cX1_succeedsOn 236 = .ok (.aload_n 0, 1) := by decide +kernel
theorem dX1_succeedsOn_237 : decode cX1_succeedsOn 237 = .ok (.getfield 20, 3) := by decide +kernel
theorem dX1_succeedsOn_240 : decode cX1_succeedsOn 240 = .ok (.ifCond .ne 34, 3) := by decide +kernel
theorem dX1_succeedsOn_243 : decode cX1_succeedsOn 243 = .ok (.aload_n 0, 1) := by decide +kernel
theorem dX1_succeedsOn_244 : decode cX1_succeedsOn 244 = .ok (.aload_n 1, 1) := by decide +kernel
theorem dX1_succeedsOn_245 : decode cX1_succeedsOn 245 = .ok (.aload_n 0, 1) := by decide +kernel
theorem dX1_succeedsOn_246 : decode cX1_succeedsOn 246 = .ok (.getfield 17, 3) := by decide +kernel
theorem dX1_succeedsOn_249 : decode cX1_succeedsOn 249 = .ok (.invokevirtual 46, 3) := by decide +kernel
theorem dX1_succeedsOn_252 : decode cX1_succeedsOn 252 = .ok (.bipush 10, 2) := by decide +kernel
theorem dX1_succeedsOn_254 : decode cX1_succeedsOn 254 = .ok (.aload_n 0, 1) := by decide +kernel
theorem dX1_succeedsOn_255 : decode cX1_succeedsOn 255 = .ok (.getfield 23, 3) := by decide +kernel
theorem dX1_succeedsOn_258 : decode cX1_succeedsOn 258 = .ok (.imul, 1) := by decide +kernel
theorem dX1_succeedsOn_259 : decode cX1_succeedsOn 259 = .ok (.aload_n 0, 1) := by decide +kernel
theorem dX1_succeedsOn_260 : decode cX1_succeedsOn 260 = .ok (.getfield 26, 3) := by decide +kernel
theorem dX1_succeedsOn_263 : decode cX1_succeedsOn 263 = .ok (.iadd, 1) := by decide +kernel
theorem dX1_succeedsOn_264 : decode cX1_succeedsOn 264 = .ok (.invokevirtual 52, 3) := by decide +kernel
theorem dX1_succeedsOn_267 : decode cX1_succeedsOn 267 = .ok (.ifCond .eq 7, 3) := by decide +kernel
theorem dX1_succeedsOn_270 : decode cX1_succeedsOn 270 = .ok (.iconst 1, 1) := by decide +kernel
theorem dX1_succeedsOn_271 : decode cX1_succeedsOn 271 = .ok (.goto 4, 3) := by decide +kernel
theorem dX1_succeedsOn_274 : decode cX1_succeedsOn 274 = .ok (.iconst 0, 1) := by decide +kernel
theorem dX1_succeedsOn_275 : decode cX1_succeedsOn 275 = .ok (.ireturn, 1) := by decide +kernel
theorem dX1_succeedsOn_276 : decode cX1_succeedsOn 276 = .ok (.aload_n 1, 1) := by decide +kernel
theorem dX1_succeedsOn_277 : decode cX1_succeedsOn 277 = .ok (.aload_n 0, 1) := by decide +kernel
theorem dX1_succeedsOn_278 : decode cX1_succeedsOn 278 = .ok (.getfield 17, 3) := by decide +kernel
theorem dX1_succeedsOn_281 : decode cX1_succeedsOn 281 = .ok (.invokevirtual 56, 3) := by decide +kernel
theorem dX1_succeedsOn_284 : decode cX1_succeedsOn 284 = .ok (.ifCond .eq 38, 3) := by decide +kernel
theorem dX1_succeedsOn_287 : decode cX1_succeedsOn 287 = .ok (.aload_n 1, 1) := by decide +kernel
theorem dX1_succeedsOn_288 : decode cX1_succeedsOn 288 = .ok (.aload_n 0, 1) := by decide +kernel
theorem dX1_succeedsOn_289 : decode cX1_succeedsOn 289 = .ok (.getfield 17, 3) := by decide +kernel
theorem dX1_succeedsOn_292 : decode cX1_succeedsOn 292 = .ok (.invokevirtual 60, 3) := by decide +kernel
theorem dX1_succeedsOn_295 : decode cX1_succeedsOn 295 = .ok (.bipush 100, 2) := by decide +kernel
theorem dX1_succeedsOn_297 : decode cX1_succeedsOn 297 = .ok (.aload_n 0, 1) := by decide +kernel
theorem dX1_succeedsOn_298 : decode cX1_succeedsOn 298 = .ok (.getfield 20, 3) := by decide +kernel
theorem dX1_succeedsOn_301 : decode cX1_succeedsOn 301 = .ok (.imul, 1) := by decide +kernel
theorem dX1_succeedsOn_302 : decode cX1_succeedsOn 302 = .ok (.bipush 10, 2) := by decide +kernel
theorem dX1_succeedsOn_304 : decode cX1_succeedsOn 304 = .ok (.aload_n 0, 1) := by decide +kernel
theorem dX1_succeedsOn_305 : decode cX1_succeedsOn 305 = .ok (.getfield 23, 3) := by decide +kernel
theorem dX1_succeedsOn_308 : decode cX1_succeedsOn 308 = .ok (.imul, 1) := by decide +kernel
theorem dX1_succeedsOn_309 : decode cX1_succeedsOn 309 = .ok (.iadd, 1) := by decide +kernel
theorem dX1_succeedsOn_310 : decode cX1_succeedsOn 310 = .ok (.aload_n 0, 1) := by decide +kernel
theorem dX1_succeedsOn_311 : decode cX1_succeedsOn 311 = .ok (.getfield 26, 3) := by decide +kernel
theorem dX1_succeedsOn_314 : decode cX1_succeedsOn 314 = .ok (.iadd, 1) := by decide +kernel
theorem dX1_succeedsOn_315 : decode cX1_succeedsOn 315 = .ok (.if_icmp .gt 7, 3) := by decide +kernel
theorem dX1_succeedsOn_318 : decode cX1_succeedsOn 318 = .ok (.iconst 1, 1) := by decide +kernel
theorem dX1_succeedsOn_319 : decode cX1_succeedsOn 319 = .ok (.goto 4, 3) := by decide +kernel
theorem dX1_succeedsOn_322 : decode cX1_succeedsOn 322 = .ok (.iconst 0, 1) := by decide +kernel
theorem dX1_succeedsOn_323 : decode cX1_succeedsOn 323 = .ok (.ireturn, 1) := by decide +kernel
theorem dX1_succeedsOn_324 : decode cX1_succeedsOn 324 = .ok (.aload_n 0, 1) := by decide +kernel
theorem dX1_succeedsOn_325 : decode cX1_succeedsOn 325 = .ok (.getfield 23, 3) := by decide +kernel
theorem dX1_succeedsOn_328 : decode cX1_succeedsOn 328 = .ok (.ifCond .ne 23, 3) := by decide +kernel
theorem dX1_succeedsOn_331 : decode cX1_succeedsOn 331 = .ok (.aload_n 0, 1) := by decide +kernel
theorem dX1_succeedsOn_332 : decode cX1_succeedsOn 332 = .ok (.getfield 26, 3) := by decide +kernel
theorem dX1_succeedsOn_335 : decode cX1_succeedsOn 335 = .ok (.iconst 1, 1) := by decide +kernel
theorem dX1_succeedsOn_336 : decode cX1_succeedsOn 336 = .ok (.if_icmp .gt 15, 3) := by decide +kernel
theorem dX1_succeedsOn_339 : decode cX1_succeedsOn 339 = .ok (.aload_n 0, 1) := by decide +kernel
theorem dX1_succeedsOn_340 : decode cX1_succeedsOn 340 = .ok (.aload_n 1, 1) := by decide +kernel
theorem dX1_succeedsOn_341 : decode cX1_succeedsOn 341 = .ok (.invokevirtual 64, 3) := by decide +kernel
theorem dX1_succeedsOn_344 : decode cX1_succeedsOn 344 = .ok (.ifCond .eq 7, 3) := by decide +kernel
theorem dX1_succeedsOn_347 : decode cX1_succeedsOn 347 = .ok (.iconst 1, 1) := by decide +kernel
theorem dX1_succeedsOn_348 : decode cX1_succeedsOn 348 = .ok (.goto 4, 3) := by decide +kernel
theorem dX1_succeedsOn_351 : decode cX1_succeedsOn 351 = .ok (.iconst 0, 1) := by decide +kernel
theorem dX1_succeedsOn_352 : decode cX1_succeedsOn 352 = .ok (.ireturn, 1) := by decide +kernel
theorem dX1_succeedsOn_353 : decode cX1_succeedsOn 353 = .ok (.aload_n 1, 1) := by decide +kernel
theorem dX1_succeedsOn_354 : decode cX1_succeedsOn 354 = .ok (.getfield 67, 3) := by decide +kernel
theorem dX1_succeedsOn_357 : decode cX1_succeedsOn 357 = .ok (.sipush 1000, 3) := by decide +kernel
theorem dX1_succeedsOn_360 : decode cX1_succeedsOn 360 = .ok (.aload_n 0, 1) := by decide +kernel
theorem dX1_succeedsOn_361 : decode cX1_succeedsOn 361 = .ok (.getfield 17, 3) := by decide +kernel
theorem dX1_succeedsOn_364 : decode cX1_succeedsOn 364 = .ok (.imul, 1) := by decide +kernel
theorem dX1_succeedsOn_365 : decode cX1_succeedsOn 365 = .ok (.bipush 100, 2) := by decide +kernel
theorem dX1_succeedsOn_367 : decode cX1_succeedsOn 367 = .ok (.aload_n 0, 1) := by decide +kernel
theorem dX1_succeedsOn_368 : decode cX1_succeedsOn 368 = .ok (.getfield 20, 3) := by decide +kernel
theorem dX1_succeedsOn_371 : decode cX1_succeedsOn 371 = .ok (.imul, 1) := by decide +kernel
theorem dX1_succeedsOn_372 : decode cX1_succeedsOn 372 = .ok (.iadd, 1) := by decide +kernel
theorem dX1_succeedsOn_373 : decode cX1_succeedsOn 373 = .ok (.bipush 10, 2) := by decide +kernel
theorem dX1_succeedsOn_375 : decode cX1_succeedsOn 375 = .ok (.aload_n 0, 1) := by decide +kernel
theorem dX1_succeedsOn_376 : decode cX1_succeedsOn 376 = .ok (.getfield 23, 3) := by decide +kernel
theorem dX1_succeedsOn_379 : decode cX1_succeedsOn 379 = .ok (.imul, 1) := by decide +kernel
theorem dX1_succeedsOn_380 : decode cX1_succeedsOn 380 = .ok (.iadd, 1) := by decide +kernel
theorem dX1_succeedsOn_381 : decode cX1_succeedsOn 381 = .ok (.aload_n 0, 1) := by decide +kernel
theorem dX1_succeedsOn_382 : decode cX1_succeedsOn 382 = .ok (.getfield 26, 3) := by decide +kernel
theorem dX1_succeedsOn_385 : decode cX1_succeedsOn 385 = .ok (.iadd, 1) := by decide +kernel
theorem dX1_succeedsOn_386 : decode cX1_succeedsOn 386 = .ok (.if_icmp .lt 7, 3) := by decide +kernel
theorem dX1_succeedsOn_389 : decode cX1_succeedsOn 389 = .ok (.iconst 1, 1) := by decide +kernel
theorem dX1_succeedsOn_390 : decode cX1_succeedsOn 390 = .ok (.goto 4, 3) := by decide +kernel
theorem dX1_succeedsOn_393 : decode cX1_succeedsOn 393 = .ok (.iconst 0, 1) := by decide +kernel
theorem dX1_succeedsOn_394 : decode cX1_succeedsOn 394 = .ok (.ireturn, 1) := by decide +kernel
theorem dX1_succeedsOn_395 : decode cX1_succeedsOn 395 = .ok (.iconst 0, 1) := by decide +kernel
theorem dX1_succeedsOn_396 : decode cX1_succeedsOn 396 = .ok (.ireturn, 1) := by decide +kernel
theorem dX1_letsPass_0 : decode cX1_letsPass 0 = .ok (.iload_n 2, 1) := by decide +kernel
theorem dX1_letsPass_1 : decode cX1_letsPass 1 = .ok (.iconst 1, 1) := by decide +kernel
theorem dX1_letsPass_2 : decode cX1_letsPass 2 = .ok (.if_icmp .lt 21, 3) := by decide +kernel
theorem dX1_letsPass_5 : decode cX1_letsPass 5 = .ok (.iload_n 2, 1) := by decide +kernel
theorem dX1_letsPass_6 : decode cX1_letsPass 6 = .ok (.bipush 48, 2) := by decide +kernel
theorem dX1_letsPass_8 : decode cX1_letsPass 8 = .ok (.if_icmp .gt 15, 3) := by decide +kernel
theorem dX1_letsPass_11 : decode cX1_letsPass 11 = .ok (.aload_n 1, 1) := by decide +kernel
theorem dX1_letsPass_12 : decode cX1_letsPass 12 = .ok (.getfield 70, 3) := by decide +kernel
theorem dX1_letsPass_15 : decode cX1_letsPass 15 = .ok (.iload_n 2, 1) := by decide +kernel
theorem dX1_letsPass_16 : decode cX1_letsPass 16 = .ok (.iadd, 1) := by decide +kernel
theorem dX1_letsPass_17 : decode cX1_letsPass 17 = .ok (.sipush 240, 3) := by decide +kernel
theorem dX1_letsPass_20 : decode cX1_letsPass 20 = .ok (.if_icmp .le 5, 3) := by decide +kernel
theorem dX1_letsPass_23 : decode cX1_letsPass 23 = .ok (.iconst 0, 1) := by decide +kernel
theorem dX1_letsPass_24 : decode cX1_letsPass 24 = .ok (.ireturn, 1) := by decide +kernel
theorem dX1_letsPass_25 : decode cX1_letsPass 25 = .ok (.iconst 0, 1) := by decide +kernel
theorem dX1_letsPass_26 : decode cX1_letsPass 26 = .ok (.istore_n 3, 1) := by decide +kernel
theorem dX1_letsPass_27 : decode cX1_letsPass 27 = .ok (.iload_n 3, 1) := by decide +kernel
theorem dX1_letsPass_28 : decode cX1_letsPass 28 = .ok (.iload_n 2, 1) := by decide +kernel
theorem dX1_letsPass_29 : decode cX1_letsPass 29 = .ok (.if_icmp .ge 13, 3) := by decide +kernel
theorem dX1_letsPass_32 : decode cX1_letsPass 32 = .ok (.aload_n 1, 1) := by decide +kernel
theorem dX1_letsPass_33 : decode cX1_letsPass 33 = .ok (.invokevirtual 73, 3) := by decide +kernel
theorem dX1_letsPass_36 : decode cX1_letsPass 36 = .ok (.iinc 3 1, 3) := by decide +kernel
theorem dX1_letsPass_39 : decode cX1_letsPass 39 = .ok (.goto (-12), 3) := by decide +kernel
theorem dX1_letsPass_42 : decode cX1_letsPass 42 = .ok (.iconst 1, 1) := by decide +kernel
theorem dX1_letsPass_43 : decode cX1_letsPass 43 = .ok (.ireturn, 1) := by decide +kernel
theorem dX1_changesOutdoors_0 : decode cX1_changesOutdoors 0 = .ok (.aload_n 0, 1) := by decide +kernel
theorem dX1_changesOutdoors_1 : decode cX1_changesOutdoors 1 = .ok (.getfield 20, 3) := by decide +kernel
theorem dX1_changesOutdoors_4 : decode cX1_changesOutdoors 4 = .ok (.iconst 1, 1) := by decide +kernel
theorem dX1_changesOutdoors_5 : decode cX1_changesOutdoors 5 = .ok (.if_icmp .ne 8, 3) := by decide +kernel
theorem dX1_changesOutdoors_8 : decode cX1_changesOutdoors 8 = .ok (.iload_n 2, 1) := by decide +kernel
theorem dX1_changesOutdoors_9 : decode cX1_changesOutdoors 9 = .ok (.ineg, 1) := by decide +kernel
theorem dX1_changesOutdoors_10 : decode cX1_changesOutdoors 10 = .ok (.goto 4, 3) := by decide +kernel
theorem dX1_changesOutdoors_13 : decode cX1_changesOutdoors 13 = .ok (.iload_n 2, 1) := by decide +kernel
theorem dX1_changesOutdoors_14 : decode cX1_changesOutdoors 14 = .ok (.istore_n 3, 1) := by decide +kernel
theorem dX1_changesOutdoors_15 : decode cX1_changesOutdoors 15 = .ok (.iload_n 3, 1) := by decide +kernel
theorem dX1_changesOutdoors_16 : decode cX1_changesOutdoors 16 = .ok (.bipush (-20), 2) := by decide +kernel
theorem dX1_changesOutdoors_18 : decode cX1_changesOutdoors 18 = .ok (.if_icmp .lt 9, 3) := by decide +kernel
theorem dX1_changesOutdoors_21 : decode cX1_changesOutdoors 21 = .ok (.iload_n 3, 1) := by decide +kernel
theorem dX1_changesOutdoors_22 : decode cX1_changesOutdoors 22 = .ok (.bipush 25, 2) := by decide +kernel
theorem dX1_changesOutdoors_24 : decode cX1_changesOutdoors 24 = .ok (.if_icmp .le 5, 3) := by decide +kernel
theorem dX1_changesOutdoors_27 : decode cX1_changesOutdoors 27 = .ok (.iconst 0, 1) := by decide +kernel
theorem dX1_changesOutdoors_28 : decode cX1_changesOutdoors 28 = .ok (.ireturn, 1) := by decide +kernel
theorem dX1_changesOutdoors_29 : decode cX1_changesOutdoors 29 = .ok (.aload_n 1, 1) := by decide +kernel
theorem dX1_changesOutdoors_30 : decode cX1_changesOutdoors 30 = .ok (.iload_n 3, 1) := by decide +kernel
theorem dX1_changesOutdoors_31 : decode cX1_changesOutdoors 31 = .ok (.putfield 76, 3) := by decide +kernel
theorem dX1_changesOutdoors_34 : decode cX1_changesOutdoors 34 = .ok (.iconst 1, 1) := by decide +kernel
theorem dX1_changesOutdoors_35 : decode cX1_changesOutdoors 35 = .ok (.ireturn, 1) := by decide +kernel
theorem dX1_proves_0 : decode cX1_proves 0 = .ok (.aload_n 1, 1) := by decide +kernel
theorem dX1_proves_1 : decode cX1_proves 1 = .ok (.aload_n 0, 1) := by decide +kernel
theorem dX1_proves_2 : decode cX1_proves 2 = .ok (.getfield 17, 3) := by decide +kernel
theorem dX1_proves_5 : decode cX1_proves 5 = .ok (.invokevirtual 46, 3) := by decide +kernel
theorem dX1_proves_8 : decode cX1_proves 8 = .ok (.ifnull 16, 3) := by decide +kernel
theorem dX1_proves_11 : decode cX1_proves 11 = .ok (.aload_n 1, 1) := by decide +kernel
theorem dX1_proves_12 : decode cX1_proves 12 = .ok (.aload_n 0, 1) := by decide +kernel
theorem dX1_proves_13 : decode cX1_proves 13 = .ok (.getfield 17, 3) := by decide +kernel
theorem dX1_proves_16 : decode cX1_proves 16 = .ok (.invokevirtual 79, 3) := by decide +kernel
theorem dX1_proves_19 : decode cX1_proves 19 = .ok (.bipush (-99), 2) := by decide +kernel
theorem dX1_proves_21 : decode cX1_proves 21 = .ok (.if_icmp .ne 5, 3) := by decide +kernel
theorem dX1_proves_24 : decode cX1_proves 24 = .ok (.iconst 0, 1) := by decide +kernel
theorem dX1_proves_25 : decode cX1_proves 25 = .ok (.ireturn, 1) := by decide +kernel
theorem dX1_proves_26 : decode cX1_proves 26 = .ok (.aload_n 1, 1) := by decide +kernel
theorem dX1_proves_27 : decode cX1_proves 27 = .ok (.aload_n 0, 1) := by decide +kernel
theorem dX1_proves_28 : decode cX1_proves 28 = .ok (.getfield 17, 3) := by decide +kernel
theorem dX1_proves_31 : decode cX1_proves 31 = .ok (.aload_n 0, 1) := by decide +kernel
theorem dX1_proves_32 : decode cX1_proves 32 = .ok (.getfield 20, 3) := by decide +kernel
theorem dX1_proves_35 : decode cX1_proves 35 = .ok (.iconst 1, 1) := by decide +kernel
theorem dX1_proves_36 : decode cX1_proves 36 = .ok (.if_icmp .ne 7, 3) := by decide +kernel
theorem dX1_proves_39 : decode cX1_proves 39 = .ok (.iconst 1, 1) := by decide +kernel
theorem dX1_proves_40 : decode cX1_proves 40 = .ok (.goto 4, 3) := by decide +kernel
theorem dX1_proves_43 : decode cX1_proves 43 = .ok (.iconst 0, 1) := by decide +kernel
theorem dX1_proves_44 : decode cX1_proves 44 = .ok (.invokevirtual 82, 3) := by decide +kernel
theorem dX1_proves_47 : decode cX1_proves 47 = .ok (.iconst 1, 1) := by decide +kernel
theorem dX1_proves_48 : decode cX1_proves 48 = .ok (.ireturn, 1) := by decide +kernel
theorem dX1_pays_0 : decode cX1_pays 0 = .ok (.aload_n 1, 1) := by decide +kernel
theorem dX1_pays_1 : decode cX1_pays 1 = .ok (.aload_n 0, 1) := by decide +kernel
theorem dX1_pays_2 : decode cX1_pays 2 = .ok (.getfield 17, 3) := by decide +kernel
theorem dX1_pays_5 : decode cX1_pays 5 = .ok (.invokevirtual 56, 3) := by decide +kernel
theorem dX1_pays_8 : decode cX1_pays 8 = .ok (.ifCond .ne 5, 3) := by decide +kernel
theorem dX1_pays_11 : decode cX1_pays 11 = .ok (.iconst 0, 1) := by decide +kernel
theorem dX1_pays_12 : decode cX1_pays 12 = .ok (.ireturn, 1) := by decide +kernel
theorem dX1_pays_13 : decode cX1_pays 13 = .ok (.aload_n 1, 1) := by decide +kernel
theorem dX1_pays_14 : decode cX1_pays 14 = .ok (.aload_n 0, 1) := by decide +kernel
theorem dX1_pays_15 : decode cX1_pays 15 = .ok (.getfield 17, 3) := by decide +kernel
theorem dX1_pays_18 : decode cX1_pays 18 = .ok (.invokevirtual 86, 3) := by decide +kernel
theorem dX1_pays_21 : decode cX1_pays 21 = .ok (.pop, 1) := by decide +kernel
theorem dX1_pays_22 : decode cX1_pays 22 = .ok (.iconst 1, 1) := by decide +kernel
theorem dX1_pays_23 : decode cX1_pays 23 = .ok (.ireturn, 1) := by decide +kernel
theorem dX1_cancels_0 : decode cX1_cancels 0 = .ok (.bipush 10, 2) := by decide +kernel
theorem dX1_cancels_2 : decode cX1_cancels 2 = .ok (.aload_n 0, 1) := by decide +kernel
theorem dX1_cancels_3 : decode cX1_cancels 3 = .ok (.getfield 17, 3) := by decide +kernel
theorem dX1_cancels_6 : decode cX1_cancels 6 = .ok (.imul, 1) := by decide +kernel
theorem dX1_cancels_7 : decode cX1_cancels 7 = .ok (.aload_n 0, 1) := by decide +kernel
theorem dX1_cancels_8 : decode cX1_cancels 8 = .ok (.getfield 20, 3) := by decide +kernel
theorem dX1_cancels_11 : decode cX1_cancels 11 = .ok (.iadd, 1) := by decide +kernel
theorem dX1_cancels_12 : decode cX1_cancels 12 = .ok (.istore_n 2, 1) := by decide +kernel
theorem dX1_cancels_13 : decode cX1_cancels 13 = .ok (.aload_n 1, 1) := by decide +kernel
theorem dX1_cancels_14 : decode cX1_cancels 14 = .ok (.iload_n 2, 1) := by decide +kernel
theorem dX1_cancels_15 : decode cX1_cancels 15 = .ok (.invokevirtual 89, 3) := by decide +kernel
theorem dX1_cancels_18 : decode cX1_cancels 18 = .ok (.astore_n 3, 1) := by decide +kernel
theorem dX1_cancels_19 : decode cX1_cancels 19 = .ok (.aload_n 3, 1) := by decide +kernel
theorem dX1_cancels_20 : decode cX1_cancels 20 = .ok (.ifnull 14, 3) := by decide +kernel
theorem dX1_cancels_23 : decode cX1_cancels 23 = .ok (.aload_n 3, 1) := by decide +kernel
theorem dX1_cancels_24 : decode cX1_cancels 24 = .ok (.aload_n 1, 1) := by decide +kernel
theorem dX1_cancels_25 : decode cX1_cancels 25 = .ok (.getfield 70, 3) := by decide +kernel
theorem dX1_cancels_28 : decode cX1_cancels 28 = .ok (.invokevirtual 93, 3) := by decide +kernel
theorem dX1_cancels_31 : decode cX1_cancels 31 = .ok (.ifCond .ne 5, 3) := by decide +kernel
theorem dX1_cancels_34 : decode cX1_cancels 34 = .ok (.iconst 0, 1) := by decide +kernel
theorem dX1_cancels_35 : decode cX1_cancels 35 = .ok (.ireturn, 1) := by decide +kernel
theorem dX1_cancels_36 : decode cX1_cancels 36 = .ok (.aload_n 1, 1) := by decide +kernel
theorem dX1_cancels_37 : decode cX1_cancels 37 = .ok (.iload_n 2, 1) := by decide +kernel
theorem dX1_cancels_38 : decode cX1_cancels 38 = .ok (.invokevirtual 98, 3) := by decide +kernel
theorem dX1_cancels_41 : decode cX1_cancels 41 = .ok (.iconst 1, 1) := by decide +kernel
theorem dX1_cancels_42 : decode cX1_cancels 42 = .ok (.ireturn, 1) := by decide +kernel
theorem dX1_isAsWarm_0 : decode cX1_isAsWarm 0 = .ok (.aload_n 1, 1) := by decide +kernel
theorem dX1_isAsWarm_1 : decode cX1_isAsWarm 1 = .ok (.ifnull 15, 3) := by decide +kernel
theorem dX1_isAsWarm_4 : decode cX1_isAsWarm 4 = .ok (.aload_n 1, 1) := by decide +kernel
theorem dX1_isAsWarm_5 : decode cX1_isAsWarm 5 = .ok (.getfield 102, 3) := by decide +kernel
theorem dX1_isAsWarm_8 : decode cX1_isAsWarm 8 = .ok (.iload_n 2, 1) := by decide +kernel
theorem dX1_isAsWarm_9 : decode cX1_isAsWarm 9 = .ok (.if_icmp .lt 7, 3) := by decide +kernel
theorem dX1_isAsWarm_12 : decode cX1_isAsWarm 12 = .ok (.iconst 1, 1) := by decide +kernel
theorem dX1_isAsWarm_13 : decode cX1_isAsWarm 13 = .ok (.goto 4, 3) := by decide +kernel
theorem dX1_isAsWarm_16 : decode cX1_isAsWarm 16 = .ok (.iconst 0, 1) := by decide +kernel
theorem dX1_isAsWarm_17 : decode cX1_isAsWarm 17 = .ok (.ireturn, 1) := by decide +kernel
theorem dX1_isOverOrNot_0 : decode cX1_isOverOrNot 0 = .ok (.aload_n 1, 1) := by decide +kernel
theorem dX1_isOverOrNot_1 : decode cX1_isOverOrNot 1 = .ok (.bipush 10, 2) := by decide +kernel
theorem dX1_isOverOrNot_3 : decode cX1_isOverOrNot 3 = .ok (.aload_n 0, 1) := by decide +kernel
theorem dX1_isOverOrNot_4 : decode cX1_isOverOrNot 4 = .ok (.getfield 17, 3) := by decide +kernel
theorem dX1_isOverOrNot_7 : decode cX1_isOverOrNot 7 = .ok (.imul, 1) := by decide +kernel
theorem dX1_isOverOrNot_8 : decode cX1_isOverOrNot 8 = .ok (.aload_n 0, 1) := by decide +kernel
theorem dX1_isOverOrNot_9 : decode cX1_isOverOrNot 9 = .ok (.getfield 20, 3) := by decide +kernel
theorem dX1_isOverOrNot_12 : decode cX1_isOverOrNot 12 = .ok (.iadd, 1) := by decide +kernel
theorem dX1_isOverOrNot_13 : decode cX1_isOverOrNot 13 = .ok (.invokevirtual 89, 3) := by decide +kernel
theorem dX1_isOverOrNot_16 : decode cX1_isOverOrNot 16 = .ok (.astore_n 2, 1) := by decide +kernel
theorem dX1_isOverOrNot_17 : decode cX1_isOverOrNot 17 = .ok (.aload_n 2, 1) := by decide +kernel
theorem dX1_isOverOrNot_18 : decode cX1_isOverOrNot 18 = .ok (.ifnull 31, 3) := by decide +kernel
theorem dX1_isOverOrNot_21 : decode cX1_isOverOrNot 21 = .ok (.aload_n 2, 1) := by decide +kernel
theorem dX1_isOverOrNot_22 : decode cX1_isOverOrNot 22 = .ok (.aload_n 1, 1) := by decide +kernel
theorem dX1_isOverOrNot_23 : decode cX1_isOverOrNot 23 = .ok (.getfield 70, 3) := by decide +kernel
theorem dX1_isOverOrNot_26 : decode cX1_isOverOrNot 26 = .ok (.invokevirtual 107, 3) := by decide +kernel
theorem dX1_isOverOrNot_29 : decode cX1_isOverOrNot 29 = .ok (.aload_n 0, 1) := by decide +kernel
theorem dX1_isOverOrNot_30 : decode cX1_isOverOrNot 30 = .ok (.getfield 26, 3) := by decide +kernel
theorem dX1_isOverOrNot_33 : decode cX1_isOverOrNot 33 = .ok (.iconst 1, 1) := by decide +kernel
theorem dX1_isOverOrNot_34 : decode cX1_isOverOrNot 34 = .ok (.if_icmp .ne 7, 3) := by decide +kernel
theorem dX1_isOverOrNot_37 : decode cX1_isOverOrNot 37 = .ok (.iconst 1, 1) := by decide +kernel
theorem dX1_isOverOrNot_38 : decode cX1_isOverOrNot 38 = .ok (.goto 4, 3) := by decide +kernel
theorem dX1_isOverOrNot_41 : decode cX1_isOverOrNot 41 = .ok (.iconst 0, 1) := by decide +kernel
theorem dX1_isOverOrNot_42 : decode cX1_isOverOrNot 42 = .ok (.if_icmp .ne 7, 3) := by decide +kernel
theorem dX1_isOverOrNot_45 : decode cX1_isOverOrNot 45 = .ok (.iconst 1, 1) := by decide +kernel
theorem dX1_isOverOrNot_46 : decode cX1_isOverOrNot 46 = .ok (.goto 4, 3) := by decide +kernel
theorem dX1_isOverOrNot_49 : decode cX1_isOverOrNot 49 = .ok (.iconst 0, 1) := by decide +kernel
theorem dX1_isOverOrNot_50 : decode cX1_isOverOrNot 50 = .ok (.ireturn, 1) := by decide +kernel
theorem dX2_init_0 : decode cX2_init 0 = .ok (.aload_n 0, 1) := by decide +kernel
theorem dX2_init_1 : decode cX2_init 1 = .ok (.invokespecial 3, 3) := by decide +kernel
theorem dX2_init_4 : decode cX2_init 4 = .ok (.aload_n 0, 1) := by decide +kernel
theorem dX2_init_5 : decode cX2_init 5 = .ok (.iconst 5, 1) := by decide +kernel
theorem dX2_init_6 : decode cX2_init 6 = .ok (.putfield 9, 3) := by decide +kernel
theorem dX2_init_9 : decode cX2_init 9 = .ok (.aload_n 0, 1) := by decide +kernel
theorem dX2_init_10 : decode cX2_init 10 = .ok (.iconst 4, 1) := by decide +kernel
theorem dX2_init_11 : decode cX2_init 11 = .ok (.anewarray 15, 3) := by decide +kernel
theorem dX2_init_14 : decode cX2_init 14 = .ok (.putfield 17, 3) := by decide +kernel
theorem dX2_init_17 : decode cX2_init 17 = .ok (.aload_n 0, 1) := by decide +kernel
theorem dX2_init_18 : decode cX2_init 18 = .ok (.bipush 6, 2) := by decide +kernel
theorem dX2_init_20 : decode cX2_init 20 = .ok (.newarray .int, 2) := by decide +kernel
theorem dX2_init_22 : decode cX2_init 22 = .ok (.putfield 21, 3) := by decide +kernel
theorem dX2_init_25 : decode cX2_init 25 = .ok (.aload_n 0, 1) := by decide +kernel
theorem dX2_init_26 : decode cX2_init 26 = .ok (.bipush 12, 2) := by decide +kernel
theorem dX2_init_28 : decode cX2_init 28 = .ok (.anewarray 25, 3) := by decide +kernel
theorem dX2_init_31 : decode cX2_init 31 = .ok (.putfield 27, 3) := by decide +kernel
theorem dX2_init_34 : decode cX2_init 34 = .ok (.iconst 0, 1) := by decide +kernel
theorem dX2_init_35 : decode cX2_init 35 = .ok (.istore_n 1, 1) := by decide +kernel
theorem dX2_init_36 : decode cX2_init 36 = .ok (.iload_n 1, 1) := by decide +kernel
theorem dX2_init_37 : decode cX2_init 37 = .ok (.aload_n 0, 1) := by decide +kernel
theorem dX2_init_38 : decode cX2_init 38 = .ok (.getfield 17, 3) := by decide +kernel
theorem dX2_init_41 : decode cX2_init 41 = .ok (.arraylength, 1) := by decide +kernel
theorem dX2_init_42 : decode cX2_init 42 = .ok (.if_icmp .ge 22, 3) := by decide +kernel
theorem dX2_init_45 : decode cX2_init 45 = .ok (.aload_n 0, 1) := by decide +kernel
theorem dX2_init_46 : decode cX2_init 46 = .ok (.getfield 17, 3) := by decide +kernel
theorem dX2_init_49 : decode cX2_init 49 = .ok (.iload_n 1, 1) := by decide +kernel
theorem dX2_init_50 : decode cX2_init 50 = .ok (.new 15, 3) := by decide +kernel
theorem dX2_init_53 : decode cX2_init 53 = .ok (.dup, 1) := by decide +kernel
theorem dX2_init_54 : decode cX2_init 54 = .ok (.invokespecial 31, 3) := by decide +kernel
theorem dX2_init_57 : decode cX2_init 57 = .ok (.aastore, 1) := by decide +kernel
theorem dX2_init_58 : decode cX2_init 58 = .ok (.iinc 1 1, 3) := by decide +kernel
theorem dX2_init_61 : decode cX2_init 61 = .ok (.goto (-25), 3) := by decide +kernel
theorem dX2_init_64 : decode cX2_init 64 = .ok (.iconst 0, 1) := by decide +kernel
theorem dX2_init_65 : decode cX2_init 65 = .ok (.istore_n 1, 1) := by decide +kernel
theorem dX2_init_66 : decode cX2_init 66 = .ok (.iload_n 1, 1) := by decide +kernel
theorem dX2_init_67 : decode cX2_init 67 = .ok (.aload_n 0, 1) := by decide +kernel
theorem dX2_init_68 : decode cX2_init 68 = .ok (.getfield 27, 3) := by decide +kernel
theorem dX2_init_71 : decode cX2_init 71 = .ok (.arraylength, 1) := by decide +kernel
theorem dX2_init_72 : decode cX2_init 72 = .ok (.if_icmp .ge 22, 3) := by decide +kernel
theorem dX2_init_75 : decode cX2_init 75 = .ok (.aload_n 0, 1) := by decide +kernel
theorem dX2_init_76 : decode cX2_init 76 = .ok (.getfield 27, 3) := by decide +kernel
theorem dX2_init_79 : decode cX2_init 79 = .ok (.iload_n 1, 1) := by decide +kernel
theorem dX2_init_80 : decode cX2_init 80 = .ok (.new 25, 3) := by decide +kernel
theorem dX2_init_83 : decode cX2_init 83 = .ok (.dup, 1) := by decide +kernel
theorem dX2_init_84 : decode cX2_init 84 = .ok (.invokespecial 32, 3) := by decide +kernel
theorem dX2_init_87 : decode cX2_init 87 = .ok (.aastore, 1) := by decide +kernel
theorem dX2_init_88 : decode cX2_init 88 = .ok (.iinc 1 1, 3) := by decide +kernel
theorem dX2_init_91 : decode cX2_init 91 = .ok (.goto (-25), 3) := by decide +kernel
theorem dX2_init_94 : decode cX2_init 94 = .ok (.return_, 1) := by decide +kernel
theorem dX2_clear_0 : decode cX2_clear 0 = .ok (.aload_n 0, 1) := by decide +kernel
theorem dX2_clear_1 : decode cX2_clear 1 = .ok (.iconst 0, 1) := by decide +kernel
theorem dX2_clear_2 : decode cX2_clear 2 = .ok (.putfield 33, 3) := by decide +kernel
theorem dX2_clear_5 : decode cX2_clear 5 = .ok (.aload_n 0, 1) := by decide +kernel
theorem dX2_clear_6 : decode cX2_clear 6 = .ok (.iconst 5, 1) := by decide +kernel
theorem dX2_clear_7 : decode cX2_clear 7 = .ok (.putfield 9, 3) := by decide +kernel
theorem dX2_clear_10 : decode cX2_clear 10 = .ok (.aload_n 0, 1) := by decide +kernel
theorem dX2_clear_11 : decode cX2_clear 11 = .ok (.iconst 0, 1) := by decide +kernel
theorem dX2_clear_12 : decode cX2_clear 12 = .ok (.putfield 36, 3) := by decide +kernel
theorem dX2_clear_15 : decode cX2_clear 15 = .ok (.aload_n 0, 1) := by decide +kernel
theorem dX2_clear_16 : decode cX2_clear 16 = .ok (.iconst 0, 1) := by decide +kernel
theorem dX2_clear_17 : decode cX2_clear 17 = .ok (.putfield 39, 3) := by decide +kernel
theorem dX2_clear_20 : decode cX2_clear 20 = .ok (.aload_n 0, 1) := by decide +kernel
theorem dX2_clear_21 : decode cX2_clear 21 = .ok (.iconst 0, 1) := by decide +kernel
theorem dX2_clear_22 : decode cX2_clear 22 = .ok (.putfield 42, 3) := by decide +kernel
theorem dX2_clear_25 : decode cX2_clear 25 = .ok (.aload_n 0, 1) := by decide +kernel
theorem dX2_clear_26 : decode cX2_clear 26 = .ok (.iconst 0, 1) := by decide +kernel
theorem dX2_clear_27 : decode cX2_clear 27 = .ok (.putfield 45, 3) := by decide +kernel
theorem dX2_clear_30 : decode cX2_clear 30 = .ok (.aload_n 0, 1) := by decide +kernel
theorem dX2_clear_31 : decode cX2_clear 31 = .ok (.iconst 0, 1) := by decide +kernel
theorem dX2_clear_32 : decode cX2_clear 32 = .ok (.putfield 48, 3) := by decide +kernel
theorem dX2_clear_35 : decode cX2_clear 35 = .ok (.aload_n 0, 1) := by decide +kernel
theorem dX2_clear_36 : decode cX2_clear 36 = .ok (.iconst 0, 1) := by decide +kernel
theorem dX2_clear_37 : decode cX2_clear 37 = .ok (.putfield 51, 3) := by decide +kernel
theorem dX2_clear_40 : decode cX2_clear 40 = .ok (.aload_n 0, 1) := by decide +kernel
theorem dX2_clear_41 : decode cX2_clear 41 = .ok (.iconst 0, 1) := by decide +kernel
theorem dX2_clear_42 : decode cX2_clear 42 = .ok (.putfield 54, 3) := by decide +kernel
theorem dX2_clear_45 : decode cX2_clear 45 = .ok (.return_, 1) := by decide +kernel
theorem dX2_copyFrom_0 : decode cX2_copyFrom 0 = .ok (.aload_n 0, 1) := by decide +kernel
theorem dX2_copyFrom_1 : decode cX2_copyFrom 1 = .ok (.aload_n 1, 1) := by decide +kernel
theorem dX2_copyFrom_2 : decode cX2_copyFrom 2 = .ok (.getfield 33, 3) := by decide +kernel
theorem dX2_copyFrom_5 : decode cX2_copyFrom 5 = .ok (.putfield 33, 3) := by decide +kernel
theorem dX2_copyFrom_8 : decode cX2_copyFrom 8 = .ok (.aload_n 0, 1) := by decide +kernel
theorem dX2_copyFrom_9 : decode cX2_copyFrom 9 = .ok (.aload_n 1, 1) := by decide +kernel
theorem dX2_copyFrom_10 : decode cX2_copyFrom 10 = .ok (.getfield 9, 3) := by decide +kernel
theorem dX2_copyFrom_13 : decode cX2_copyFrom 13 = .ok (.putfield 9, 3) := by decide +kernel
theorem dX2_copyFrom_16 : decode cX2_copyFrom 16 = .ok (.aload_n 0, 1) := by decide +kernel
theorem dX2_copyFrom_17 : decode cX2_copyFrom 17 = .ok (.aload_n 1, 1) := by decide +kernel
theorem dX2_copyFrom_18 : decode cX2_copyFrom 18 = .ok (.getfield 36, 3) := by decide +kernel
theorem dX2_copyFrom_21 : decode cX2_copyFrom 21 = .ok (.putfield 36, 3) := by decide +kernel
theorem dX2_copyFrom_24 : decode cX2_copyFrom 24 = .ok (.iconst 0, 1) := by decide +kernel
theorem dX2_copyFrom_25 : decode cX2_copyFrom 25 = .ok (.istore_n 2, 1) := by decide +kernel
theorem dX2_copyFrom_26 : decode cX2_copyFrom 26 = .ok (.iload_n 2, 1) := by decide +kernel
theorem dX2_copyFrom_27 : decode cX2_copyFrom 27 = .ok (.aload_n 0, 1) := by decide +kernel
theorem dX2_copyFrom_28 : decode cX2_copyFrom 28 = .ok (.getfield 36, 3) := by decide +kernel
theorem dX2_copyFrom_31 : decode cX2_copyFrom 31 = .ok (.if_icmp .ge 24, 3) := by decide +kernel
theorem dX2_copyFrom_34 : decode cX2_copyFrom 34 = .ok (.aload_n 0, 1) := by decide +kernel
theorem dX2_copyFrom_35 : decode cX2_copyFrom 35 = .ok (.getfield 17, 3) := by decide +kernel
theorem dX2_copyFrom_38 : decode cX2_copyFrom 38 = .ok (.iload_n 2, 1) := by decide +kernel
theorem dX2_copyFrom_39 : decode cX2_copyFrom 39 = .ok (.aaload, 1) := by decide +kernel
theorem dX2_copyFrom_40 : decode cX2_copyFrom 40 = .ok (.aload_n 1, 1) := by decide +kernel
theorem dX2_copyFrom_41 : decode cX2_copyFrom 41 = .ok (.getfield 17, 3) := by decide +kernel
theorem dX2_copyFrom_44 : decode cX2_copyFrom 44 = .ok (.iload_n 2, 1) := by decide +kernel
theorem dX2_copyFrom_45 : decode cX2_copyFrom 45 = .ok (.aaload, 1) := by decide +kernel
theorem dX2_copyFrom_46 : decode cX2_copyFrom 46 = .ok (.invokevirtual 57, 3) := by decide +kernel
theorem dX2_copyFrom_49 : decode cX2_copyFrom 49 = .ok (.iinc 2 1, 3) := by decide +kernel
theorem dX2_copyFrom_52 : decode cX2_copyFrom 52 = .ok (.goto (-26), 3) := by decide +kernel
theorem dX2_copyFrom_55 : decode cX2_copyFrom 55 = .ok (.aload_n 0, 1) := by decide +kernel
theorem dX2_copyFrom_56 : decode cX2_copyFrom 56 = .ok (.aload_n 1, 1) := by decide +kernel
theorem dX2_copyFrom_57 : decode cX2_copyFrom 57 = .ok (.getfield 39, 3) := by decide +kernel
theorem dX2_copyFrom_60 : decode cX2_copyFrom 60 = .ok (.putfield 39, 3) := by decide +kernel
theorem dX2_copyFrom_63 : decode cX2_copyFrom 63 = .ok (.aload_n 1, 1) := by decide +kernel
theorem dX2_copyFrom_64 : decode cX2_copyFrom 64 = .ok (.getfield 21, 3) := by decide +kernel
theorem dX2_copyFrom_67 : decode cX2_copyFrom 67 = .ok (.iconst 0, 1) := by decide +kernel
theorem dX2_copyFrom_68 : decode cX2_copyFrom 68 = .ok (.aload_n 0, 1) := by decide +kernel
theorem dX2_copyFrom_69 : decode cX2_copyFrom 69 = .ok (.getfield 21, 3) := by decide +kernel
theorem dX2_copyFrom_72 : decode cX2_copyFrom 72 = .ok (.iconst 0, 1) := by decide +kernel
theorem dX2_copyFrom_73 : decode cX2_copyFrom 73 = .ok (.bipush 6, 2) := by decide +kernel
theorem dX2_copyFrom_75 : decode cX2_copyFrom 75 = .ok (.invokestatic 61, 3) := by decide +kernel
theorem dX2_copyFrom_78 : decode cX2_copyFrom 78 = .ok (.aload_n 0, 1) := by decide +kernel
theorem dX2_copyFrom_79 : decode cX2_copyFrom 79 = .ok (.aload_n 1, 1) := by decide +kernel
theorem dX2_copyFrom_80 : decode cX2_copyFrom 80 = .ok (.getfield 42, 3) := by decide +kernel
theorem dX2_copyFrom_83 : decode cX2_copyFrom 83 = .ok (.putfield 42, 3) := by decide +kernel
theorem dX2_copyFrom_86 : decode cX2_copyFrom 86 = .ok (.iconst 0, 1) := by decide +kernel
theorem dX2_copyFrom_87 : decode cX2_copyFrom 87 = .ok (.istore_n 2, 1) := by decide +kernel
theorem dX2_copyFrom_88 : decode cX2_copyFrom 88 = .ok (.iload_n 2, 1) := by decide +kernel
theorem dX2_copyFrom_89 : decode cX2_copyFrom 89 = .ok (.aload_n 0, 1) := by decide +kernel
theorem dX2_copyFrom_90 : decode cX2_copyFrom 90 = .ok (.getfield 42, 3) := by decide +kernel
theorem dX2_copyFrom_93 : decode cX2_copyFrom 93 = .ok (.if_icmp .ge 24, 3) := by decide +kernel
theorem dX2_copyFrom_96 : decode cX2_copyFrom 96 = .ok (.aload_n 0, 1) := by decide +kernel
theorem dX2_copyFrom_97 : decode cX2_copyFrom 97 = .ok (.getfield 27, 3) := by decide +kernel
theorem dX2_copyFrom_100 : decode cX2_copyFrom 100 = .ok (.iload_n 2, 1) := by decide +kernel
theorem dX2_copyFrom_101 : decode cX2_copyFrom 101 = .ok (.aaload, 1) := by decide +kernel
theorem dX2_copyFrom_102 : decode cX2_copyFrom 102 = .ok (.aload_n 1, 1) := by decide +kernel
theorem dX2_copyFrom_103 : decode cX2_copyFrom 103 = .ok (.getfield 27, 3) := by decide +kernel
theorem dX2_copyFrom_106 : decode cX2_copyFrom 106 = .ok (.iload_n 2, 1) := by decide +kernel
theorem dX2_copyFrom_107 : decode cX2_copyFrom 107 = .ok (.aaload, 1) := by decide +kernel
theorem dX2_copyFrom_108 : decode cX2_copyFrom 108 = .ok (.invokevirtual 67, 3) := by decide +kernel
theorem dX2_copyFrom_111 : decode cX2_copyFrom 111 = .ok (.iinc 2 1, 3) := by decide +kernel
theorem dX2_copyFrom_114 : decode cX2_copyFrom 114 = .ok (.goto (-26), 3) := by decide +kernel
theorem dX2_copyFrom_117 : decode cX2_copyFrom 117 = .ok (.aload_n 0, 1) := by decide +kernel
theorem dX2_copyFrom_118 : decode cX2_copyFrom 118 = .ok (.aload_n 1, 1) := by decide +kernel
theorem dX2_copyFrom_119 : decode cX2_copyFrom 119 = .ok (.getfield 45, 3) := by decide +kernel
theorem dX2_copyFrom_122 : decode cX2_copyFrom 122 = .ok (.putfield 45, 3) := by decide +kernel
theorem dX2_copyFrom_125 : decode cX2_copyFrom 125 = .ok (.aload_n 0, 1) := by decide +kernel
theorem dX2_copyFrom_126 : decode cX2_copyFrom 126 = .ok (.aload_n 1, 1) := by decide +kernel
theorem dX2_copyFrom_127 : decode cX2_copyFrom 127 = .ok (.getfield 48, 3) := by decide +kernel
theorem dX2_copyFrom_130 : decode cX2_copyFrom 130 = .ok (.putfield 48, 3) := by decide +kernel
theorem dX2_copyFrom_133 : decode cX2_copyFrom 133 = .ok (.aload_n 0, 1) := by decide +kernel
theorem dX2_copyFrom_134 : decode cX2_copyFrom 134 = .ok (.aload_n 1, 1) := by decide +kernel
theorem dX2_copyFrom_135 : decode cX2_copyFrom 135 = .ok (.getfield 51, 3) := by decide +kernel
theorem dX2_copyFrom_138 : decode cX2_copyFrom 138 = .ok (.putfield 51, 3) := by decide +kernel
theorem dX2_copyFrom_141 : decode cX2_copyFrom 141 = .ok (.aload_n 0, 1) := by decide +kernel
theorem dX2_copyFrom_142 : decode cX2_copyFrom 142 = .ok (.aload_n 1, 1) := by decide +kernel
theorem dX2_copyFrom_143 : decode cX2_copyFrom 143 = .ok (.getfield 54, 3) := by decide +kernel
theorem dX2_copyFrom_146 : decode cX2_copyFrom 146 = .ok (.putfield 54, 3) := by decide +kernel
theorem dX2_copyFrom_149 : decode cX2_copyFrom 149 = .ok (.return_, 1) := by decide +kernel
theorem dX2_numberAbout_0 : decode cX2_numberAbout 0 = .ok (.iload_n 1, 1) := by decide +kernel
theorem dX2_numberAbout_1 : decode cX2_numberAbout 1 = .ok (.tableswitch 106 0 8 #[51, 56, 61, 66, 71, 76, 81, 86, 91], 51) := by decide +kernel
theorem dX2_numberAbout_52 : decode cX2_numberAbout 52 = .ok (.aload_n 0, 1) := by decide +kernel
theorem dX2_numberAbout_53 : decode cX2_numberAbout 53 = .ok (.getfield 33, 3) := by decide +kernel
theorem dX2_numberAbout_56 : decode cX2_numberAbout 56 = .ok (.ireturn, 1) := by decide +kernel
theorem dX2_numberAbout_57 : decode cX2_numberAbout 57 = .ok (.aload_n 0, 1) := by decide +kernel
theorem dX2_numberAbout_58 : decode cX2_numberAbout 58 = .ok (.getfield 36, 3) := by decide +kernel
theorem dX2_numberAbout_61 : decode cX2_numberAbout 61 = .ok (.ireturn, 1) := by decide +kernel
theorem dX2_numberAbout_62 : decode cX2_numberAbout 62 = .ok (.aload_n 0, 1) := by decide +kernel
theorem dX2_numberAbout_63 : decode cX2_numberAbout 63 = .ok (.getfield 39, 3) := by decide +kernel
theorem dX2_numberAbout_66 : decode cX2_numberAbout 66 = .ok (.ireturn, 1) := by decide +kernel
theorem dX2_numberAbout_67 : decode cX2_numberAbout 67 = .ok (.aload_n 0, 1) := by decide +kernel
theorem dX2_numberAbout_68 : decode cX2_numberAbout 68 = .ok (.getfield 42, 3) := by decide +kernel
theorem dX2_numberAbout_71 : decode cX2_numberAbout 71 = .ok (.ireturn, 1) := by decide +kernel
theorem dX2_numberAbout_72 : decode cX2_numberAbout 72 = .ok (.aload_n 0, 1) := by decide +kernel
theorem dX2_numberAbout_73 : decode cX2_numberAbout 73 = .ok (.getfield 9, 3) := by decide +kernel
theorem dX2_numberAbout_76 : decode cX2_numberAbout 76 = .ok (.ireturn, 1) := by decide +kernel
theorem dX2_numberAbout_77 : decode cX2_numberAbout 77 = .ok (.aload_n 0, 1) := by decide +kernel
theorem dX2_numberAbout_78 : decode cX2_numberAbout 78 = .ok (.getfield 45, 3) := by decide +kernel
theorem dX2_numberAbout_81 : decode cX2_numberAbout 81 = .ok (.ireturn, 1) := by decide +kernel
theorem dX2_numberAbout_82 : decode cX2_numberAbout 82 = .ok (.aload_n 0, 1) := by decide +kernel
theorem dX2_numberAbout_83 : decode cX2_numberAbout 83 = .ok (.getfield 48, 3) := by decide +kernel
theorem dX2_numberAbout_86 : decode cX2_numberAbout 86 = .ok (.ireturn, 1) := by decide +kernel
theorem dX2_numberAbout_87 : decode cX2_numberAbout 87 = .ok (.aload_n 0, 1) := by decide +kernel
theorem dX2_numberAbout_88 : decode cX2_numberAbout 88 = .ok (.getfield 51, 3) := by decide +kernel
theorem dX2_numberAbout_91 : decode cX2_numberAbout 91 = .ok (.ireturn, 1) := by decide +kernel
theorem dX2_numberAbout_92 : decode cX2_numberAbout 92 = .ok (.aload_n 0, 1) := by decide +kernel
theorem dX2_numberAbout_93 : decode cX2_numberAbout 93 = .ok (.getfield 45, 3) := by decide +kernel
theorem dX2_numberAbout_96 : decode cX2_numberAbout 96 = .ok (.aload_n 0, 1) := by decide +kernel
theorem dX2_numberAbout_97 : decode cX2_numberAbout 97 = .ok (.getfield 48, 3) := by decide +kernel
theorem dX2_numberAbout_100 : decode cX2_numberAbout 100 = .ok (.isub, 1) := by decide +kernel
theorem dX2_numberAbout_101 : decode cX2_numberAbout 101 = .ok (.aload_n 0, 1) := by decide +kernel
theorem dX2_numberAbout_102 : decode cX2_numberAbout 102 = .ok (.getfield 51, 3) := by decide +kernel
theorem dX2_numberAbout_105 : decode cX2_numberAbout 105 = .ok (.isub, 1) := by decide +kernel
theorem dX2_numberAbout_106 : decode cX2_numberAbout 106 = .ok (.ireturn, 1) := by decide +kernel
theorem dX2_numberAbout_107 : decode cX2_numberAbout 107 = .ok (.aload_n 0, 1) := by decide +kernel
theorem dX2_numberAbout_108 : decode cX2_numberAbout 108 = .ok (.getfield 54, 3) := by decide +kernel
theorem dX2_numberAbout_111 : decode cX2_numberAbout 111 = .ok (.ireturn, 1) := by decide +kernel
theorem dX2_findRoom_0 : decode cX2_findRoom 0 = .ok (.iload_n 1, 1) := by decide +kernel
theorem dX2_findRoom_1 : decode cX2_findRoom 1 = .ok (.ifCond .lt 20, 3) := by decide +kernel
theorem dX2_findRoom_4 : decode cX2_findRoom 4 = .ok (.iload_n 1, 1) := by decide +kernel
theorem dX2_findRoom_5 : decode cX2_findRoom 5 = .ok (.aload_n 0, 1) := by decide +kernel
theorem dX2_findRoom_6 : decode cX2_findRoom 6 = .ok (.getfield 36, 3) := by decide +kernel
theorem dX2_findRoom_9 : decode cX2_findRoom 9 = .ok (.if_icmp .ge 12, 3) := by decide +kernel
theorem dX2_findRoom_12 : decode cX2_findRoom 12 = .ok (.aload_n 0, 1) := by decide +kernel
theorem dX2_findRoom_13 : decode cX2_findRoom 13 = .ok (.getfield 17, 3) := by decide +kernel
theorem dX2_findRoom_16 : decode cX2_findRoom 16 = .ok (.iload_n 1, 1) := by decide +kernel
theorem dX2_findRoom_17 : decode cX2_findRoom 17 = .ok (.aaload, 1) := by decide +kernel
theorem dX2_findRoom_18 : decode cX2_findRoom 18 = .ok (.goto 4, 3) := by decide +kernel
theorem dX2_findRoom_21 : decode cX2_findRoom 21 = .ok (.aconst_null, 1) := by decide +kernel
theorem dX2_findRoom_22 : decode cX2_findRoom 22 = .ok (.areturn, 1) := by decide +kernel
theorem dX2_hasGroup_0 : decode cX2_hasGroup 0 = .ok (.iload_n 1, 1) := by decide +kernel
theorem dX2_hasGroup_1 : decode cX2_hasGroup 1 = .ok (.ifCond .lt 15, 3) := by decide +kernel
theorem dX2_hasGroup_4 : decode cX2_hasGroup 4 = .ok (.iload_n 1, 1) := by decide +kernel
theorem dX2_hasGroup_5 : decode cX2_hasGroup 5 = .ok (.aload_n 0, 1) := by decide +kernel
theorem dX2_hasGroup_6 : decode cX2_hasGroup 6 = .ok (.getfield 39, 3) := by decide +kernel
theorem dX2_hasGroup_9 : decode cX2_hasGroup 9 = .ok (.if_icmp .ge 7, 3) := by decide +kernel
theorem dX2_hasGroup_12 : decode cX2_hasGroup 12 = .ok (.iconst 1, 1) := by decide +kernel
theorem dX2_hasGroup_13 : decode cX2_hasGroup 13 = .ok (.goto 4, 3) := by decide +kernel
theorem dX2_hasGroup_16 : decode cX2_hasGroup 16 = .ok (.iconst 0, 1) := by decide +kernel
theorem dX2_hasGroup_17 : decode cX2_hasGroup 17 = .ok (.ireturn, 1) := by decide +kernel
theorem dX2_findBooking_0 : decode cX2_findBooking 0 = .ok (.iload_n 1, 1) := by decide +kernel
theorem dX2_findBooking_1 : decode cX2_findBooking 1 = .ok (.ifCond .lt 20, 3) := by decide +kernel
theorem dX2_findBooking_4 : decode cX2_findBooking 4 = .ok (.iload_n 1, 1) := by decide +kernel
theorem dX2_findBooking_5 : decode cX2_findBooking 5 = .ok (.aload_n 0, 1) := by decide +kernel
theorem dX2_findBooking_6 : decode cX2_findBooking 6 = .ok (.getfield 42, 3) := by decide +kernel
theorem dX2_findBooking_9 : decode cX2_findBooking 9 = .ok (.if_icmp .ge 12, 3) := by decide +kernel
theorem dX2_findBooking_12 : decode cX2_findBooking 12 = .ok (.aload_n 0, 1) := by decide +kernel
theorem dX2_findBooking_13 : decode cX2_findBooking 13 = .ok (.getfield 27, 3) := by decide +kernel
theorem dX2_findBooking_16 : decode cX2_findBooking 16 = .ok (.iload_n 1, 1) := by decide +kernel
theorem dX2_findBooking_17 : decode cX2_findBooking 17 = .ok (.aaload, 1) := by decide +kernel
theorem dX2_findBooking_18 : decode cX2_findBooking 18 = .ok (.goto 4, 3) := by decide +kernel
theorem dX2_findBooking_21 : decode cX2_findBooking 21 = .ok (.aconst_null, 1) := by decide +kernel
theorem dX2_findBooking_22 : decode cX2_findBooking 22 = .ok (.areturn, 1) := by decide +kernel
theorem dX2_newRoom_0 : decode cX2_newRoom 0 = .ok (.aload_n 0, 1) := by decide +kernel
theorem dX2_newRoom_1 : decode cX2_newRoom 1 = .ok (.getfield 36, 3) := by decide +kernel
theorem dX2_newRoom_4 : decode cX2_newRoom 4 = .ok (.aload_n 0, 1) := by decide +kernel
theorem dX2_newRoom_5 : decode cX2_newRoom 5 = .ok (.getfield 17, 3) := by decide +kernel
theorem dX2_newRoom_8 : decode cX2_newRoom 8 = .ok (.arraylength, 1) := by decide +kernel
theorem dX2_newRoom_9 : decode cX2_newRoom 9 = .ok (.if_icmp .lt 6, 3) := by decide +kernel
theorem dX2_newRoom_12 : decode cX2_newRoom 12 = .ok (.bipush (-99), 2) := by decide +kernel
theorem dX2_newRoom_14 : decode cX2_newRoom 14 = .ok (.ireturn, 1) := by decide +kernel
theorem dX2_newRoom_15 : decode cX2_newRoom 15 = .ok (.aload_n 0, 1) := by decide +kernel
theorem dX2_newRoom_16 : decode cX2_newRoom 16 = .ok (.getfield 17, 3) := by decide +kernel
theorem dX2_newRoom_19 : decode cX2_newRoom 19 = .ok (.aload_n 0, 1) := by decide +kernel
theorem dX2_newRoom_20 : decode cX2_newRoom 20 = .ok (.getfield 36, 3) := by decide +kernel
theorem dX2_newRoom_23 : decode cX2_newRoom 23 = .ok (.aaload, 1) := by decide +kernel
theorem dX2_newRoom_24 : decode cX2_newRoom 24 = .ok (.iload_n 1, 1) := by decide +kernel
theorem dX2_newRoom_25 : decode cX2_newRoom 25 = .ok (.iload_n 2, 1) := by decide +kernel
theorem dX2_newRoom_26 : decode cX2_newRoom 26 = .ok (.iload_n 3, 1) := by decide +kernel
theorem dX2_newRoom_27 : decode cX2_newRoom 27 = .ok (.iload 4, 2) := by decide +kernel
theorem dX2_newRoom_29 : decode cX2_newRoom 29 = .ok (.invokevirtual 70, 3) := by decide +kernel
theorem dX2_newRoom_32 : decode cX2_newRoom 32 = .ok (.aload_n 0, 1) := by decide +kernel
theorem dX2_newRoom_33 : decode cX2_newRoom 33 = .ok (.dup, 1) := by decide +kernel
theorem dX2_newRoom_34 : decode cX2_newRoom 34 = .ok (.getfield 36, 3) := by decide +kernel
theorem dX2_newRoom_37 : decode cX2_newRoom 37 = .ok (.iconst 1, 1) := by decide +kernel
theorem dX2_newRoom_38 : decode cX2_newRoom 38 = .ok (.iadd, 1) := by decide +kernel
theorem dX2_newRoom_39 : decode cX2_newRoom 39 = .ok (.putfield 36, 3) := by decide +kernel
theorem dX2_newRoom_42 : decode cX2_newRoom 42 = .ok (.aload_n 0, 1) := by decide +kernel
theorem dX2_newRoom_43 : decode cX2_newRoom 43 = .ok (.getfield 36, 3) := by decide +kernel
theorem dX2_newRoom_46 : decode cX2_newRoom 46 = .ok (.iconst 1, 1) := by decide +kernel
theorem dX2_newRoom_47 : decode cX2_newRoom 47 = .ok (.isub, 1) := by decide +kernel
theorem dX2_newRoom_48 : decode cX2_newRoom 48 = .ok (.ireturn, 1) := by decide +kernel
theorem dX2_newGroup_0 : decode cX2_newGroup 0 = .ok (.aload_n 0, 1) := by decide +kernel
theorem dX2_newGroup_1 : decode cX2_newGroup 1 = .ok (.getfield 39, 3) := by decide +kernel
theorem dX2_newGroup_4 : decode cX2_newGroup 4 = .ok (.aload_n 0, 1) := by decide +kernel
theorem dX2_newGroup_5 : decode cX2_newGroup 5 = .ok (.getfield 21, 3) := by decide +kernel
theorem dX2_newGroup_8 : decode cX2_newGroup 8 = .ok (.arraylength, 1) := by decide +kernel
theorem dX2_newGroup_9 : decode cX2_newGroup 9 = .ok (.if_icmp .lt 6, 3) := by decide +kernel
theorem dX2_newGroup_12 : decode cX2_newGroup 12 = .ok (.bipush (-99), 2) := by decide +kernel
theorem dX2_newGroup_14 : decode cX2_newGroup 14 = .ok (.ireturn, 1) := by decide +kernel
theorem dX2_newGroup_15 : decode cX2_newGroup 15 = .ok (.aload_n 0, 1) := by decide +kernel
theorem dX2_newGroup_16 : decode cX2_newGroup 16 = .ok (.getfield 21, 3) := by decide +kernel
theorem dX2_newGroup_19 : decode cX2_newGroup 19 = .ok (.aload_n 0, 1) := by decide +kernel
theorem dX2_newGroup_20 : decode cX2_newGroup 20 = .ok (.getfield 39, 3) := by decide +kernel
theorem dX2_newGroup_23 : decode cX2_newGroup 23 = .ok (.iconst 0, 1) := by decide +kernel
theorem dX2_newGroup_24 : decode cX2_newGroup 24 = .ok (.iastore, 1) := by decide +kernel
theorem dX2_newGroup_25 : decode cX2_newGroup 25 = .ok (.aload_n 0, 1) := by decide +kernel
theorem dX2_newGroup_26 : decode cX2_newGroup 26 = .ok (.dup, 1) := by decide +kernel
theorem dX2_newGroup_27 : decode cX2_newGroup 27 = .ok (.getfield 39, 3) := by decide +kernel
theorem dX2_newGroup_30 : decode cX2_newGroup 30 = .ok (.iconst 1, 1) := by decide +kernel
theorem dX2_newGroup_31 : decode cX2_newGroup 31 = .ok (.iadd, 1) := by decide +kernel
theorem dX2_newGroup_32 : decode cX2_newGroup 32 = .ok (.putfield 39, 3) := by decide +kernel
theorem dX2_newGroup_35 : decode cX2_newGroup 35 = .ok (.aload_n 0, 1) := by decide +kernel
theorem dX2_newGroup_36 : decode cX2_newGroup 36 = .ok (.getfield 39, 3) := by decide +kernel
theorem dX2_newGroup_39 : decode cX2_newGroup 39 = .ok (.iconst 1, 1) := by decide +kernel
theorem dX2_newGroup_40 : decode cX2_newGroup 40 = .ok (.isub, 1) := by decide +kernel
theorem dX2_newGroup_41 : decode cX2_newGroup 41 = .ok (.ireturn, 1) := by decide +kernel
theorem dX2_hasPlaceFor_0 : decode cX2_hasPlaceFor 0 = .ok (.iconst 0, 1) := by decide +kernel
theorem dX2_hasPlaceFor_1 : decode cX2_hasPlaceFor 1 = .ok (.istore 4, 2) := by decide +kernel
theorem dX2_hasPlaceFor_3 : decode cX2_hasPlaceFor 3 = .ok (.iload 4, 2) := by decide +kernel
theorem dX2_hasPlaceFor_5 : decode cX2_hasPlaceFor 5 = .ok (.aload_n 0, 1) := by decide +kernel
theorem dX2_hasPlaceFor_6 : decode cX2_hasPlaceFor 6 = .ok (.getfield 42, 3) := by decide +kernel
theorem dX2_hasPlaceFor_9 : decode cX2_hasPlaceFor 9 = .ok (.if_icmp .ge 40, 3) := by decide +kernel
theorem dX2_hasPlaceFor_12 : decode cX2_hasPlaceFor 12 = .ok (.aload_n 0, 1) := by decide +kernel
theorem dX2_hasPlaceFor_13 : decode cX2_hasPlaceFor 13 = .ok (.getfield 27, 3) := by decide +kernel
theorem dX2_hasPlaceFor_16 : decode cX2_hasPlaceFor 16 = .ok (.iload 4, 2) := by decide +kernel
theorem dX2_hasPlaceFor_18 : decode cX2_hasPlaceFor 18 = .ok (.aaload, 1) := by decide +kernel
theorem dX2_hasPlaceFor_19 : decode cX2_hasPlaceFor 19 = .ok (.getfield 74, 3) := by decide +kernel
theorem dX2_hasPlaceFor_22 : decode cX2_hasPlaceFor 22 = .ok (.iload_n 1, 1) := by decide +kernel
theorem dX2_hasPlaceFor_23 : decode cX2_hasPlaceFor 23 = .ok (.if_icmp .ne 20, 3) := by decide +kernel
theorem dX2_hasPlaceFor_26 : decode cX2_hasPlaceFor 26 = .ok (.aload_n 0, 1) := by decide +kernel
theorem dX2_hasPlaceFor_27 : decode cX2_hasPlaceFor 27 = .ok (.getfield 27, 3) := by decide +kernel
theorem dX2_hasPlaceFor_30 : decode cX2_hasPlaceFor 30 = .ok (.iload 4, 2) := by decide +kernel
theorem dX2_hasPlaceFor_32 : decode cX2_hasPlaceFor 32 = .ok (.aaload, 1) := by decide +kernel
theorem dX2_hasPlaceFor_33 : decode cX2_hasPlaceFor 33 = .ok (.iload_n 2, 1) := by decide +kernel
theorem dX2_hasPlaceFor_34 : decode cX2_hasPlaceFor 34 = .ok (.iload_n 3, 1) := by decide +kernel
theorem dX2_hasPlaceFor_35 : decode cX2_hasPlaceFor 35 = .ok (.invokevirtual 77, 3) := by decide +kernel
theorem dX2_hasPlaceFor_38 : decode cX2_hasPlaceFor 38 = .ok (.ifCond .eq 5, 3) := by decide +kernel
theorem dX2_hasPlaceFor_41 : decode cX2_hasPlaceFor 41 = .ok (.iconst 0, 1) := by decide +kernel
theorem dX2_hasPlaceFor_42 : decode cX2_hasPlaceFor 42 = .ok (.ireturn, 1) := by decide +kernel
theorem dX2_hasPlaceFor_43 : decode cX2_hasPlaceFor 43 = .ok (.iinc 4 1, 3) := by decide +kernel
theorem dX2_hasPlaceFor_46 : decode cX2_hasPlaceFor 46 = .ok (.goto (-43), 3) := by decide +kernel
theorem dX2_hasPlaceFor_49 : decode cX2_hasPlaceFor 49 = .ok (.aload_n 0, 1) := by decide +kernel
theorem dX2_hasPlaceFor_50 : decode cX2_hasPlaceFor 50 = .ok (.getfield 42, 3) := by decide +kernel
theorem dX2_hasPlaceFor_53 : decode cX2_hasPlaceFor 53 = .ok (.aload_n 0, 1) := by decide +kernel
theorem dX2_hasPlaceFor_54 : decode cX2_hasPlaceFor 54 = .ok (.getfield 27, 3) := by decide +kernel
theorem dX2_hasPlaceFor_57 : decode cX2_hasPlaceFor 57 = .ok (.arraylength, 1) := by decide +kernel
theorem dX2_hasPlaceFor_58 : decode cX2_hasPlaceFor 58 = .ok (.if_icmp .ge 7, 3) := by decide +kernel
theorem dX2_hasPlaceFor_61 : decode cX2_hasPlaceFor 61 = .ok (.iconst 1, 1) := by decide +kernel
theorem dX2_hasPlaceFor_62 : decode cX2_hasPlaceFor 62 = .ok (.goto 4, 3) := by decide +kernel
theorem dX2_hasPlaceFor_65 : decode cX2_hasPlaceFor 65 = .ok (.iconst 0, 1) := by decide +kernel
theorem dX2_hasPlaceFor_66 : decode cX2_hasPlaceFor 66 = .ok (.ireturn, 1) := by decide +kernel
theorem dX2_newBooking_0 : decode cX2_newBooking 0 = .ok (.aload_n 0, 1) := by decide +kernel
theorem dX2_newBooking_1 : decode cX2_newBooking 1 = .ok (.getfield 42, 3) := by decide +kernel
theorem dX2_newBooking_4 : decode cX2_newBooking 4 = .ok (.aload_n 0, 1) := by decide +kernel
theorem dX2_newBooking_5 : decode cX2_newBooking 5 = .ok (.getfield 27, 3) := by decide +kernel
theorem dX2_newBooking_8 : decode cX2_newBooking 8 = .ok (.arraylength, 1) := by decide +kernel
theorem dX2_newBooking_9 : decode cX2_newBooking 9 = .ok (.if_icmp .lt 6, 3) := by decide +kernel
theorem dX2_newBooking_12 : decode cX2_newBooking 12 = .ok (.bipush (-99), 2) := by decide +kernel
theorem dX2_newBooking_14 : decode cX2_newBooking 14 = .ok (.ireturn, 1) := by decide +kernel
theorem dX2_newBooking_15 : decode cX2_newBooking 15 = .ok (.aload_n 0, 1) := by decide +kernel
theorem dX2_newBooking_16 : decode cX2_newBooking 16 = .ok (.getfield 27, 3) := by decide +kernel
theorem dX2_newBooking_19 : decode cX2_newBooking 19 = .ok (.aload_n 0, 1) := by decide +kernel
theorem dX2_newBooking_20 : decode cX2_newBooking 20 = .ok (.getfield 42, 3) := by decide +kernel
theorem dX2_newBooking_23 : decode cX2_newBooking 23 = .ok (.aaload, 1) := by decide +kernel
theorem dX2_newBooking_24 : decode cX2_newBooking 24 = .ok (.iload_n 1, 1) := by decide +kernel
theorem dX2_newBooking_25 : decode cX2_newBooking 25 = .ok (.iload_n 2, 1) := by decide +kernel
theorem dX2_newBooking_26 : decode cX2_newBooking 26 = .ok (.iload_n 3, 1) := by decide +kernel
theorem dX2_newBooking_27 : decode cX2_newBooking 27 = .ok (.iload 4, 2) := by decide +kernel
theorem dX2_newBooking_29 : decode cX2_newBooking 29 = .ok (.iload 5, 2) := by decide +kernel
theorem dX2_newBooking_31 : decode cX2_newBooking 31 = .ok (.invokevirtual 81, 3) := by decide +kernel
theorem dX2_newBooking_34 : decode cX2_newBooking 34 = .ok (.aload_n 0, 1) := by decide +kernel
theorem dX2_newBooking_35 : decode cX2_newBooking 35 = .ok (.dup, 1) := by decide +kernel
theorem dX2_newBooking_36 : decode cX2_newBooking 36 = .ok (.getfield 42, 3) := by decide +kernel
theorem dX2_newBooking_39 : decode cX2_newBooking 39 = .ok (.iconst 1, 1) := by decide +kernel
theorem dX2_newBooking_40 : decode cX2_newBooking 40 = .ok (.iadd, 1) := by decide +kernel
theorem dX2_newBooking_41 : decode cX2_newBooking 41 = .ok (.putfield 42, 3) := by decide +kernel
theorem dX2_newBooking_44 : decode cX2_newBooking 44 = .ok (.aload_n 0, 1) := by decide +kernel
theorem dX2_newBooking_45 : decode cX2_newBooking 45 = .ok (.getfield 42, 3) := by decide +kernel
theorem dX2_newBooking_48 : decode cX2_newBooking 48 = .ok (.iconst 1, 1) := by decide +kernel
theorem dX2_newBooking_49 : decode cX2_newBooking 49 = .ok (.isub, 1) := by decide +kernel
theorem dX2_newBooking_50 : decode cX2_newBooking 50 = .ok (.ireturn, 1) := by decide +kernel
theorem dX2_removeBooking_0 : decode cX2_removeBooking 0 = .ok (.aload_n 0, 1) := by decide +kernel
theorem dX2_removeBooking_1 : decode cX2_removeBooking 1 = .ok (.iload_n 1, 1) := by decide +kernel
theorem dX2_removeBooking_2 : decode cX2_removeBooking 2 = .ok (.invokevirtual 84, 3) := by decide +kernel
theorem dX2_removeBooking_5 : decode cX2_removeBooking 5 = .ok (.astore_n 2, 1) := by decide +kernel
theorem dX2_removeBooking_6 : decode cX2_removeBooking 6 = .ok (.aload_n 2, 1) := by decide +kernel
theorem dX2_removeBooking_7 : decode cX2_removeBooking 7 = .ok (.ifnonnull 4, 3) := by decide +kernel
theorem dX2_removeBooking_10 : decode cX2_removeBooking 10 = .ok (.return_, 1) := by decide +kernel
theorem dX2_removeBooking_11 : decode cX2_removeBooking 11 = .ok (.iload_n 1, 1) := by decide +kernel
theorem dX2_removeBooking_12 : decode cX2_removeBooking 12 = .ok (.iconst 1, 1) := by decide +kernel
theorem dX2_removeBooking_13 : decode cX2_removeBooking 13 = .ok (.iadd, 1) := by decide +kernel
theorem dX2_removeBooking_14 : decode cX2_removeBooking 14 = .ok (.istore_n 3, 1) := by decide +kernel
theorem dX2_removeBooking_15 : decode cX2_removeBooking 15 = .ok (.iload_n 3, 1) := by decide +kernel
theorem dX2_removeBooking_16 : decode cX2_removeBooking 16 = .ok (.aload_n 0, 1) := by decide +kernel
theorem dX2_removeBooking_17 : decode cX2_removeBooking 17 = .ok (.getfield 42, 3) := by decide +kernel
theorem dX2_removeBooking_20 : decode cX2_removeBooking 20 = .ok (.if_icmp .ge 23, 3) := by decide +kernel
theorem dX2_removeBooking_23 : decode cX2_removeBooking 23 = .ok (.aload_n 0, 1) := by decide +kernel
theorem dX2_removeBooking_24 : decode cX2_removeBooking 24 = .ok (.getfield 27, 3) := by decide +kernel
theorem dX2_removeBooking_27 : decode cX2_removeBooking 27 = .ok (.iload_n 3, 1) := by decide +kernel
theorem dX2_removeBooking_28 : decode cX2_removeBooking 28 = .ok (.iconst 1, 1) := by decide +kernel
theorem dX2_removeBooking_29 : decode cX2_removeBooking 29 = .ok (.isub, 1) := by decide +kernel
theorem dX2_removeBooking_30 : decode cX2_removeBooking 30 = .ok (.aload_n 0, 1) := by decide +kernel
theorem dX2_removeBooking_31 : decode cX2_removeBooking 31 = .ok (.getfield 27, 3) := by decide +kernel
theorem dX2_removeBooking_34 : decode cX2_removeBooking 34 = .ok (.iload_n 3, 1) := by decide +kernel
theorem dX2_removeBooking_35 : decode cX2_removeBooking 35 = .ok (.aaload, 1) := by decide +kernel
theorem dX2_removeBooking_36 : decode cX2_removeBooking 36 = .ok (.aastore, 1) := by decide +kernel
theorem dX2_removeBooking_37 : decode cX2_removeBooking 37 = .ok (.iinc 3 1, 3) := by decide +kernel
theorem dX2_removeBooking_40 : decode cX2_removeBooking 40 = .ok (.goto (-25), 3) := by decide +kernel
theorem dX2_removeBooking_43 : decode cX2_removeBooking 43 = .ok (.aload_n 0, 1) := by decide +kernel
theorem dX2_removeBooking_44 : decode cX2_removeBooking 44 = .ok (.dup, 1) := by decide +kernel
theorem dX2_removeBooking_45 : decode cX2_removeBooking 45 = .ok (.getfield 42, 3) := by decide +kernel
theorem dX2_removeBooking_48 : decode cX2_removeBooking 48 = .ok (.iconst 1, 1) := by decide +kernel
theorem dX2_removeBooking_49 : decode cX2_removeBooking 49 = .ok (.isub, 1) := by decide +kernel
theorem dX2_removeBooking_50 : decode cX2_removeBooking 50 = .ok (.putfield 42, 3) := by decide +kernel
theorem dX2_removeBooking_53 : decode cX2_removeBooking 53 = .ok (.aload_n 0, 1) := by decide +kernel
theorem dX2_removeBooking_54 : decode cX2_removeBooking 54 = .ok (.getfield 27, 3) := by decide +kernel
theorem dX2_removeBooking_57 : decode cX2_removeBooking 57 = .ok (.aload_n 0, 1) := by decide +kernel
theorem dX2_removeBooking_58 : decode cX2_removeBooking 58 = .ok (.getfield 42, 3) := by decide +kernel
theorem dX2_removeBooking_61 : decode cX2_removeBooking 61 = .ok (.aload_n 2, 1) := by decide +kernel
theorem dX2_removeBooking_62 : decode cX2_removeBooking 62 = .ok (.aastore, 1) := by decide +kernel
theorem dX2_removeBooking_63 : decode cX2_removeBooking 63 = .ok (.return_, 1) := by decide +kernel
theorem dX2_bookingOfNow_0 : decode cX2_bookingOfNow 0 = .ok (.iconst 0, 1) := by decide +kernel
theorem dX2_bookingOfNow_1 : decode cX2_bookingOfNow 1 = .ok (.istore_n 2, 1) := by decide +kernel
theorem dX2_bookingOfNow_2 : decode cX2_bookingOfNow 2 = .ok (.iload_n 2, 1) := by decide +kernel
theorem dX2_bookingOfNow_3 : decode cX2_bookingOfNow 3 = .ok (.aload_n 0, 1) := by decide +kernel
theorem dX2_bookingOfNow_4 : decode cX2_bookingOfNow 4 = .ok (.getfield 42, 3) := by decide +kernel
theorem dX2_bookingOfNow_7 : decode cX2_bookingOfNow 7 = .ok (.if_icmp .ge 40, 3) := by decide +kernel
theorem dX2_bookingOfNow_10 : decode cX2_bookingOfNow 10 = .ok (.aload_n 0, 1) := by decide +kernel
theorem dX2_bookingOfNow_11 : decode cX2_bookingOfNow 11 = .ok (.getfield 27, 3) := by decide +kernel
theorem dX2_bookingOfNow_14 : decode cX2_bookingOfNow 14 = .ok (.iload_n 2, 1) := by decide +kernel
theorem dX2_bookingOfNow_15 : decode cX2_bookingOfNow 15 = .ok (.aaload, 1) := by decide +kernel
theorem dX2_bookingOfNow_16 : decode cX2_bookingOfNow 16 = .ok (.getfield 74, 3) := by decide +kernel
theorem dX2_bookingOfNow_19 : decode cX2_bookingOfNow 19 = .ok (.iload_n 1, 1) := by decide +kernel
theorem dX2_bookingOfNow_20 : decode cX2_bookingOfNow 20 = .ok (.if_icmp .ne 21, 3) := by decide +kernel
theorem dX2_bookingOfNow_23 : decode cX2_bookingOfNow 23 = .ok (.aload_n 0, 1) := by decide +kernel
theorem dX2_bookingOfNow_24 : decode cX2_bookingOfNow 24 = .ok (.getfield 27, 3) := by decide +kernel
theorem dX2_bookingOfNow_27 : decode cX2_bookingOfNow 27 = .ok (.iload_n 2, 1) := by decide +kernel
theorem dX2_bookingOfNow_28 : decode cX2_bookingOfNow 28 = .ok (.aaload, 1) := by decide +kernel
theorem dX2_bookingOfNow_29 : decode cX2_bookingOfNow 29 = .ok (.aload_n 0, 1) := by decide +kernel
theorem dX2_bookingOfNow_30 : decode cX2_bookingOfNow 30 = .ok (.getfield 33, 3) := by decide +kernel
theorem dX2_bookingOfNow_33 : decode cX2_bookingOfNow 33 = .ok (.invokevirtual 88, 3) := by decide +kernel
theorem dX2_bookingOfNow_36 : decode cX2_bookingOfNow 36 = .ok (.ifCond .eq 5, 3) := by decide +kernel
theorem dX2_bookingOfNow_39 : decode cX2_bookingOfNow 39 = .ok (.iload_n 2, 1) := by decide +kernel
theorem dX2_bookingOfNow_40 : decode cX2_bookingOfNow 40 = .ok (.ireturn, 1) := by decide +kernel
theorem dX2_bookingOfNow_41 : decode cX2_bookingOfNow 41 = .ok (.iinc 2 1, 3) := by decide +kernel
theorem dX2_bookingOfNow_44 : decode cX2_bookingOfNow 44 = .ok (.goto (-42), 3) := by decide +kernel
theorem dX2_bookingOfNow_47 : decode cX2_bookingOfNow 47 = .ok (.bipush (-99), 2) := by decide +kernel
theorem dX2_bookingOfNow_49 : decode cX2_bookingOfNow 49 = .ok (.ireturn, 1) := by decide +kernel
theorem dX2_nextBooking_0 : decode cX2_nextBooking 0 = .ok (.bipush (-99), 2) := by decide +kernel
theorem dX2_nextBooking_2 : decode cX2_nextBooking 2 = .ok (.istore_n 2, 1) := by decide +kernel
theorem dX2_nextBooking_3 : decode cX2_nextBooking 3 = .ok (.sipush 200, 3) := by decide +kernel
theorem dX2_nextBooking_6 : decode cX2_nextBooking 6 = .ok (.istore_n 3, 1) := by decide +kernel
theorem dX2_nextBooking_7 : decode cX2_nextBooking 7 = .ok (.iconst 0, 1) := by decide +kernel
theorem dX2_nextBooking_8 : decode cX2_nextBooking 8 = .ok (.istore 4, 2) := by decide +kernel
theorem dX2_nextBooking_10 : decode cX2_nextBooking 10 = .ok (.iload 4, 2) := by decide +kernel
theorem dX2_nextBooking_12 : decode cX2_nextBooking 12 = .ok (.aload_n 0, 1) := by decide +kernel
theorem dX2_nextBooking_13 : decode cX2_nextBooking 13 = .ok (.getfield 42, 3) := by decide +kernel
theorem dX2_nextBooking_16 : decode cX2_nextBooking 16 = .ok (.if_icmp .ge 56, 3) := by decide +kernel
theorem dX2_nextBooking_19 : decode cX2_nextBooking 19 = .ok (.aload_n 0, 1) := by decide +kernel
theorem dX2_nextBooking_20 : decode cX2_nextBooking 20 = .ok (.getfield 27, 3) := by decide +kernel
theorem dX2_nextBooking_23 : decode cX2_nextBooking 23 = .ok (.iload 4, 2) := by decide +kernel
theorem dX2_nextBooking_25 : decode cX2_nextBooking 25 = .ok (.aaload, 1) := by decide +kernel
theorem dX2_nextBooking_26 : decode cX2_nextBooking 26 = .ok (.getfield 92, 3) := by decide +kernel
theorem dX2_nextBooking_29 : decode cX2_nextBooking 29 = .ok (.istore 5, 2) := by decide +kernel
theorem dX2_nextBooking_31 : decode cX2_nextBooking 31 = .ok (.aload_n 0, 1) := by decide +kernel
theorem dX2_nextBooking_32 : decode cX2_nextBooking 32 = .ok (.getfield 27, 3) := by decide +kernel
theorem dX2_nextBooking_35 : decode cX2_nextBooking 35 = .ok (.iload 4, 2) := by decide +kernel
theorem dX2_nextBooking_37 : decode cX2_nextBooking 37 = .ok (.aaload, 1) := by decide +kernel
theorem dX2_nextBooking_38 : decode cX2_nextBooking 38 = .ok (.getfield 74, 3) := by decide +kernel
theorem dX2_nextBooking_41 : decode cX2_nextBooking 41 = .ok (.iload_n 1, 1) := by decide +kernel
theorem dX2_nextBooking_42 : decode cX2_nextBooking 42 = .ok (.if_icmp .ne 24, 3) := by decide +kernel
theorem dX2_nextBooking_45 : decode cX2_nextBooking 45 = .ok (.iload 5, 2) := by decide +kernel
theorem dX2_nextBooking_47 : decode cX2_nextBooking 47 = .ok (.aload_n 0, 1) := by decide +kernel
theorem dX2_nextBooking_48 : decode cX2_nextBooking 48 = .ok (.getfield 33, 3) := by decide +kernel
theorem dX2_nextBooking_51 : decode cX2_nextBooking 51 = .ok (.if_icmp .le 15, 3) := by decide +kernel
theorem dX2_nextBooking_54 : decode cX2_nextBooking 54 = .ok (.iload 5, 2) := by decide +kernel
theorem dX2_nextBooking_56 : decode cX2_nextBooking 56 = .ok (.iload_n 3, 1) := by decide +kernel
theorem dX2_nextBooking_57 : decode cX2_nextBooking 57 = .ok (.if_icmp .ge 9, 3) := by decide +kernel
theorem dX2_nextBooking_60 : decode cX2_nextBooking 60 = .ok (.iload 4, 2) := by decide +kernel
theorem dX2_nextBooking_62 : decode cX2_nextBooking 62 = .ok (.istore_n 2, 1) := by decide +kernel
theorem dX2_nextBooking_63 : decode cX2_nextBooking 63 = .ok (.iload 5, 2) := by decide +kernel
theorem dX2_nextBooking_65 : decode cX2_nextBooking 65 = .ok (.istore_n 3, 1) := by decide +kernel
theorem dX2_nextBooking_66 : decode cX2_nextBooking 66 = .ok (.iinc 4 1, 3) := by decide +kernel
theorem dX2_nextBooking_69 : decode cX2_nextBooking 69 = .ok (.goto (-59), 3) := by decide +kernel
theorem dX2_nextBooking_72 : decode cX2_nextBooking 72 = .ok (.iload_n 2, 1) := by decide +kernel
theorem dX2_nextBooking_73 : decode cX2_nextBooking 73 = .ok (.ireturn, 1) := by decide +kernel
theorem dX2_heatingBooking_0 : decode cX2_heatingBooking 0 = .ok (.aload_n 0, 1) := by decide +kernel
theorem dX2_heatingBooking_1 : decode cX2_heatingBooking 1 = .ok (.iload_n 1, 1) := by decide +kernel
theorem dX2_heatingBooking_2 : decode cX2_heatingBooking 2 = .ok (.invokevirtual 95, 3) := by decide +kernel
theorem dX2_heatingBooking_5 : decode cX2_heatingBooking 5 = .ok (.istore_n 2, 1) := by decide +kernel
theorem dX2_heatingBooking_6 : decode cX2_heatingBooking 6 = .ok (.iload_n 2, 1) := by decide +kernel
theorem dX2_heatingBooking_7 : decode cX2_heatingBooking 7 = .ok (.bipush (-99), 2) := by decide +kernel
theorem dX2_heatingBooking_9 : decode cX2_heatingBooking 9 = .ok (.if_icmp .eq 5, 3) := by decide +kernel
theorem dX2_heatingBooking_12 : decode cX2_heatingBooking 12 = .ok (.iload_n 2, 1) := by decide +kernel
theorem dX2_heatingBooking_13 : decode cX2_heatingBooking 13 = .ok (.ireturn, 1) := by decide +kernel
theorem dX2_heatingBooking_14 : decode cX2_heatingBooking 14 = .ok (.aload_n 0, 1) := by decide +kernel
theorem dX2_heatingBooking_15 : decode cX2_heatingBooking 15 = .ok (.iload_n 1, 1) := by decide +kernel
theorem dX2_heatingBooking_16 : decode cX2_heatingBooking 16 = .ok (.invokevirtual 99, 3) := by decide +kernel
theorem dX2_heatingBooking_19 : decode cX2_heatingBooking 19 = .ok (.istore_n 3, 1) := by decide +kernel
theorem dX2_heatingBooking_20 : decode cX2_heatingBooking 20 = .ok (.aload_n 0, 1) := by decide +kernel
theorem dX2_heatingBooking_21 : decode cX2_heatingBooking 21 = .ok (.aload_n 0, 1) := by decide +kernel
theorem dX2_heatingBooking_22 : decode cX2_heatingBooking 22 = .ok (.iload_n 1, 1) := by decide +kernel
theorem dX2_heatingBooking_23 : decode cX2_heatingBooking 23 = .ok (.invokevirtual 102, 3) := by decide +kernel
theorem dX2_heatingBooking_26 : decode cX2_heatingBooking 26 = .ok (.aload_n 0, 1) := by decide +kernel
theorem dX2_heatingBooking_27 : decode cX2_heatingBooking 27 = .ok (.iload_n 3, 1) := by decide +kernel
theorem dX2_heatingBooking_28 : decode cX2_heatingBooking 28 = .ok (.invokevirtual 84, 3) := by decide +kernel
theorem dX2_heatingBooking_31 : decode cX2_heatingBooking 31 = .ok (.invokevirtual 106, 3) := by decide +kernel
theorem dX2_heatingBooking_34 : decode cX2_heatingBooking 34 = .ok (.ifCond .eq 7, 3) := by decide +kernel
theorem dX2_heatingBooking_37 : decode cX2_heatingBooking 37 = .ok (.iload_n 3, 1) := by decide +kernel
theorem dX2_heatingBooking_38 : decode cX2_heatingBooking 38 = .ok (.goto 5, 3) := by decide +kernel
theorem dX2_heatingBooking_41 : decode cX2_heatingBooking 41 = .ok (.bipush (-99), 2) := by decide +kernel
theorem dX2_heatingBooking_43 : decode cX2_heatingBooking 43 = .ok (.ireturn, 1) := by decide +kernel
theorem dX2_mustPreheat_0 : decode cX2_mustPreheat 0 = .ok (.aload_n 1, 1) := by decide +kernel
theorem dX2_mustPreheat_1 : decode cX2_mustPreheat 1 = .ok (.ifnull 7, 3) := by decide +kernel
theorem dX2_mustPreheat_4 : decode cX2_mustPreheat 4 = .ok (.aload_n 2, 1) := by decide +kernel
theorem dX2_mustPreheat_5 : decode cX2_mustPreheat 5 = .ok (.ifnonnull 5, 3) := by decide +kernel
theorem dX2_mustPreheat_8 : decode cX2_mustPreheat 8 = .ok (.iconst 0, 1) := by decide +kernel
theorem dX2_mustPreheat_9 : decode cX2_mustPreheat 9 = .ok (.ireturn, 1) := by decide +kernel
theorem dX2_mustPreheat_10 : decode cX2_mustPreheat 10 = .ok (.aload_n 2, 1) := by decide +kernel
theorem dX2_mustPreheat_11 : decode cX2_mustPreheat 11 = .ok (.getfield 92, 3) := by decide +kernel
theorem dX2_mustPreheat_14 : decode cX2_mustPreheat 14 = .ok (.iconst 1, 1) := by decide +kernel
theorem dX2_mustPreheat_15 : decode cX2_mustPreheat 15 = .ok (.isub, 1) := by decide +kernel
theorem dX2_mustPreheat_16 : decode cX2_mustPreheat 16 = .ok (.aload_n 0, 1) := by decide +kernel
theorem dX2_mustPreheat_17 : decode cX2_mustPreheat 17 = .ok (.getfield 33, 3) := by decide +kernel
theorem dX2_mustPreheat_20 : decode cX2_mustPreheat 20 = .ok (.isub, 1) := by decide +kernel
theorem dX2_mustPreheat_21 : decode cX2_mustPreheat 21 = .ok (.istore_n 3, 1) := by decide +kernel
theorem dX2_mustPreheat_22 : decode cX2_mustPreheat 22 = .ok (.aload_n 2, 1) := by decide +kernel
theorem dX2_mustPreheat_23 : decode cX2_mustPreheat 23 = .ok (.getfield 110, 3) := by decide +kernel
theorem dX2_mustPreheat_26 : decode cX2_mustPreheat 26 = .ok (.ifCond .ne 25, 3) := by decide +kernel
theorem dX2_mustPreheat_29 : decode cX2_mustPreheat 29 = .ok (.aload_n 1, 1) := by decide +kernel
theorem dX2_mustPreheat_30 : decode cX2_mustPreheat 30 = .ok (.aload_n 0, 1) := by decide +kernel
theorem dX2_mustPreheat_31 : decode cX2_mustPreheat 31 = .ok (.getfield 9, 3) := by decide +kernel
theorem dX2_mustPreheat_34 : decode cX2_mustPreheat 34 = .ok (.invokevirtual 114, 3) := by decide +kernel
theorem dX2_mustPreheat_37 : decode cX2_mustPreheat 37 = .ok (.aload_n 1, 1) := by decide +kernel
theorem dX2_mustPreheat_38 : decode cX2_mustPreheat 38 = .ok (.getfield 117, 3) := by decide +kernel
theorem dX2_mustPreheat_41 : decode cX2_mustPreheat 41 = .ok (.iload_n 3, 1) := by decide +kernel
theorem dX2_mustPreheat_42 : decode cX2_mustPreheat 42 = .ok (.imul, 1) := by decide +kernel
theorem dX2_mustPreheat_43 : decode cX2_mustPreheat 43 = .ok (.iadd, 1) := by decide +kernel
theorem dX2_mustPreheat_44 : decode cX2_mustPreheat 44 = .ok (.aload_n 2, 1) := by decide +kernel
theorem dX2_mustPreheat_45 : decode cX2_mustPreheat 45 = .ok (.getfield 120, 3) := by decide +kernel
theorem dX2_mustPreheat_48 : decode cX2_mustPreheat 48 = .ok (.if_icmp .ge 7, 3) := by decide +kernel
theorem dX2_mustPreheat_51 : decode cX2_mustPreheat 51 = .ok (.iconst 1, 1) := by decide +kernel
theorem dX2_mustPreheat_52 : decode cX2_mustPreheat 52 = .ok (.goto 4, 3) := by decide +kernel
theorem dX2_mustPreheat_55 : decode cX2_mustPreheat 55 = .ok (.iconst 0, 1) := by decide +kernel
theorem dX2_mustPreheat_56 : decode cX2_mustPreheat 56 = .ok (.ireturn, 1) := by decide +kernel
theorem dX2_mark_0 : decode cX2_mark 0 = .ok (.aload_n 0, 1) := by decide +kernel
theorem dX2_mark_1 : decode cX2_mark 1 = .ok (.aload_n 0, 1) := by decide +kernel
theorem dX2_mark_2 : decode cX2_mark 2 = .ok (.iload_n 1, 1) := by decide +kernel
theorem dX2_mark_3 : decode cX2_mark 3 = .ok (.invokevirtual 95, 3) := by decide +kernel
theorem dX2_mark_6 : decode cX2_mark 6 = .ok (.invokevirtual 84, 3) := by decide +kernel
theorem dX2_mark_9 : decode cX2_mark 9 = .ok (.astore_n 3, 1) := by decide +kernel
theorem dX2_mark_10 : decode cX2_mark 10 = .ok (.aload_n 3, 1) := by decide +kernel
theorem dX2_mark_11 : decode cX2_mark 11 = .ok (.ifnull 8, 3) := by decide +kernel
theorem dX2_mark_14 : decode cX2_mark 14 = .ok (.aload_n 3, 1) := by decide +kernel
theorem dX2_mark_15 : decode cX2_mark 15 = .ok (.iload_n 2, 1) := by decide +kernel
theorem dX2_mark_16 : decode cX2_mark 16 = .ok (.putfield 123, 3) := by decide +kernel
theorem dX2_mark_19 : decode cX2_mark 19 = .ok (.return_, 1) := by decide +kernel
theorem dX2_markAll_0 : decode cX2_markAll 0 = .ok (.iconst 0, 1) := by decide +kernel
theorem dX2_markAll_1 : decode cX2_markAll 1 = .ok (.istore_n 1, 1) := by decide +kernel
theorem dX2_markAll_2 : decode cX2_markAll 2 = .ok (.iload_n 1, 1) := by decide +kernel
theorem dX2_markAll_3 : decode cX2_markAll 3 = .ok (.aload_n 0, 1) := by decide +kernel
theorem dX2_markAll_4 : decode cX2_markAll 4 = .ok (.getfield 36, 3) := by decide +kernel
theorem dX2_markAll_7 : decode cX2_markAll 7 = .ok (.if_icmp .ge 15, 3) := by decide +kernel
theorem dX2_markAll_10 : decode cX2_markAll 10 = .ok (.aload_n 0, 1) := by decide +kernel
theorem dX2_markAll_11 : decode cX2_markAll 11 = .ok (.iload_n 1, 1) := by decide +kernel
theorem dX2_markAll_12 : decode cX2_markAll 12 = .ok (.iconst 1, 1) := by decide +kernel
theorem dX2_markAll_13 : decode cX2_markAll 13 = .ok (.invokevirtual 126, 3) := by decide +kernel
theorem dX2_markAll_16 : decode cX2_markAll 16 = .ok (.iinc 1 1, 3) := by decide +kernel
theorem dX2_markAll_19 : decode cX2_markAll 19 = .ok (.goto (-17), 3) := by decide +kernel
theorem dX2_markAll_22 : decode cX2_markAll 22 = .ok (.return_, 1) := by decide +kernel
theorem dX2_owedBy_0 : decode cX2_owedBy 0 = .ok (.aload_n 0, 1) := by decide +kernel
theorem dX2_owedBy_1 : decode cX2_owedBy 1 = .ok (.iload_n 1, 1) := by decide +kernel
theorem dX2_owedBy_2 : decode cX2_owedBy 2 = .ok (.invokevirtual 130, 3) := by decide +kernel
theorem dX2_owedBy_5 : decode cX2_owedBy 5 = .ok (.ifCond .eq 12, 3) := by decide +kernel
theorem dX2_owedBy_8 : decode cX2_owedBy 8 = .ok (.aload_n 0, 1) := by decide +kernel
theorem dX2_owedBy_9 : decode cX2_owedBy 9 = .ok (.getfield 21, 3) := by decide +kernel
theorem dX2_owedBy_12 : decode cX2_owedBy 12 = .ok (.iload_n 1, 1) := by decide +kernel
theorem dX2_owedBy_13 : decode cX2_owedBy 13 = .ok (.iaload, 1) := by decide +kernel
theorem dX2_owedBy_14 : decode cX2_owedBy 14 = .ok (.goto 4, 3) := by decide +kernel
theorem dX2_owedBy_17 : decode cX2_owedBy 17 = .ok (.iconst 0, 1) := by decide +kernel
theorem dX2_owedBy_18 : decode cX2_owedBy 18 = .ok (.ireturn, 1) := by decide +kernel
theorem dX2_settle_0 : decode cX2_settle 0 = .ok (.aload_n 0, 1) := by decide +kernel
theorem dX2_settle_1 : decode cX2_settle 1 = .ok (.iload_n 1, 1) := by decide +kernel
theorem dX2_settle_2 : decode cX2_settle 2 = .ok (.invokevirtual 130, 3) := by decide +kernel
theorem dX2_settle_5 : decode cX2_settle 5 = .ok (.ifCond .ne 5, 3) := by decide +kernel
theorem dX2_settle_8 : decode cX2_settle 8 = .ok (.iconst 0, 1) := by decide +kernel
theorem dX2_settle_9 : decode cX2_settle 9 = .ok (.ireturn, 1) := by decide +kernel
theorem dX2_settle_10 : decode cX2_settle 10 = .ok (.aload_n 0, 1) := by decide +kernel
theorem dX2_settle_11 : decode cX2_settle 11 = .ok (.getfield 21, 3) := by decide +kernel
theorem dX2_settle_14 : decode cX2_settle 14 = .ok (.iload_n 1, 1) := by decide +kernel
theorem dX2_settle_15 : decode cX2_settle 15 = .ok (.iaload, 1) := by decide +kernel
theorem dX2_settle_16 : decode cX2_settle 16 = .ok (.istore_n 2, 1) := by decide +kernel
theorem dX2_settle_17 : decode cX2_settle 17 = .ok (.aload_n 0, 1) := by decide +kernel
theorem dX2_settle_18 : decode cX2_settle 18 = .ok (.getfield 21, 3) := by decide +kernel
theorem dX2_settle_21 : decode cX2_settle 21 = .ok (.iload_n 1, 1) := by decide +kernel
theorem dX2_settle_22 : decode cX2_settle 22 = .ok (.iconst 0, 1) := by decide +kernel
theorem dX2_settle_23 : decode cX2_settle 23 = .ok (.iastore, 1) := by decide +kernel
theorem dX2_settle_24 : decode cX2_settle 24 = .ok (.iload_n 2, 1) := by decide +kernel
theorem dX2_settle_25 : decode cX2_settle 25 = .ok (.ireturn, 1) := by decide +kernel
theorem dX2_letHoursPass_0 : decode cX2_letHoursPass 0 = .ok (.iconst 0, 1) := by decide +kernel
theorem dX2_letHoursPass_1 : decode cX2_letHoursPass 1 = .ok (.istore_n 2, 1) := by decide +kernel
theorem dX2_letHoursPass_2 : decode cX2_letHoursPass 2 = .ok (.iload_n 2, 1) := by decide +kernel
theorem dX2_letHoursPass_3 : decode cX2_letHoursPass 3 = .ok (.iload_n 1, 1) := by decide +kernel
theorem dX2_letHoursPass_4 : decode cX2_letHoursPass 4 = .ok (.if_icmp .ge 13, 3) := by decide +kernel
theorem dX2_letHoursPass_7 : decode cX2_letHoursPass 7 = .ok (.aload_n 0, 1) := by decide +kernel
theorem dX2_letHoursPass_8 : decode cX2_letHoursPass 8 = .ok (.invokevirtual 133, 3) := by decide +kernel
theorem dX2_letHoursPass_11 : decode cX2_letHoursPass 11 = .ok (.iinc 2 1, 3) := by decide +kernel
theorem dX2_letHoursPass_14 : decode cX2_letHoursPass 14 = .ok (.goto (-12), 3) := by decide +kernel
theorem dX2_letHoursPass_17 : decode cX2_letHoursPass 17 = .ok (.return_, 1) := by decide +kernel
theorem dX2_letHourPass_0 : decode cX2_letHourPass 0 = .ok (.iconst 0, 1) := by decide +kernel
theorem dX2_letHourPass_1 : decode cX2_letHourPass 1 = .ok (.istore_n 1, 1) := by decide +kernel
theorem dX2_letHourPass_2 : decode cX2_letHourPass 2 = .ok (.iconst 0, 1) := by decide +kernel
theorem dX2_letHourPass_3 : decode cX2_letHourPass 3 = .ok (.istore_n 2, 1) := by decide +kernel
theorem dX2_letHourPass_4 : decode cX2_letHourPass 4 = .ok (.iload_n 2, 1) := by decide +kernel
theorem dX2_letHourPass_5 : decode cX2_letHourPass 5 = .ok (.aload_n 0, 1) := by decide +kernel
theorem dX2_letHourPass_6 : decode cX2_letHourPass 6 = .ok (.getfield 36, 3) := by decide +kernel
theorem dX2_letHourPass_9 : decode cX2_letHourPass 9 = .ok (.if_icmp .ge 31, 3) := by decide +kernel
theorem dX2_letHourPass_12 : decode cX2_letHourPass 12 = .ok (.iload_n 1, 1) := by decide +kernel
theorem dX2_letHourPass_13 : decode cX2_letHourPass 13 = .ok (.aload_n 0, 1) := by decide +kernel
theorem dX2_letHourPass_14 : decode cX2_letHourPass 14 = .ok (.aload_n 0, 1) := by decide +kernel
theorem dX2_letHourPass_15 : decode cX2_letHourPass 15 = .ok (.getfield 17, 3) := by decide +kernel
theorem dX2_letHourPass_18 : decode cX2_letHourPass 18 = .ok (.iload_n 2, 1) := by decide +kernel
theorem dX2_letHourPass_19 : decode cX2_letHourPass 19 = .ok (.aaload, 1) := by decide +kernel
theorem dX2_letHourPass_20 : decode cX2_letHourPass 20 = .ok (.aload_n 0, 1) := by decide +kernel
theorem dX2_letHourPass_21 : decode cX2_letHourPass 21 = .ok (.aload_n 0, 1) := by decide +kernel
theorem dX2_letHourPass_22 : decode cX2_letHourPass 22 = .ok (.iload_n 2, 1) := by decide +kernel
theorem dX2_letHourPass_23 : decode cX2_letHourPass 23 = .ok (.invokevirtual 136, 3) := by decide +kernel
theorem dX2_letHourPass_26 : decode cX2_letHourPass 26 = .ok (.invokevirtual 84, 3) := by decide +kernel
theorem dX2_letHourPass_29 : decode cX2_letHourPass 29 = .ok (.invokevirtual 139, 3) := by decide +kernel
theorem dX2_letHourPass_32 : decode cX2_letHourPass 32 = .ok (.iadd, 1) := by decide +kernel
theorem dX2_letHourPass_33 : decode cX2_letHourPass 33 = .ok (.istore_n 1, 1) := by decide +kernel
theorem dX2_letHourPass_34 : decode cX2_letHourPass 34 = .ok (.iinc 2 1, 3) := by decide +kernel
theorem dX2_letHourPass_37 : decode cX2_letHourPass 37 = .ok (.goto (-33), 3) := by decide +kernel
theorem dX2_letHourPass_40 : decode cX2_letHourPass 40 = .ok (.aload_n 0, 1) := by decide +kernel
theorem dX2_letHourPass_41 : decode cX2_letHourPass 41 = .ok (.dup, 1) := by decide +kernel
theorem dX2_letHourPass_42 : decode cX2_letHourPass 42 = .ok (.getfield 45, 3) := by decide +kernel
theorem dX2_letHourPass_45 : decode cX2_letHourPass 45 = .ok (.iload_n 1, 1) := by decide +kernel
theorem dX2_letHourPass_46 : decode cX2_letHourPass 46 = .ok (.ifCond .le 9, 3) := by decide +kernel
theorem dX2_letHourPass_49 : decode cX2_letHourPass 49 = .ok (.iload_n 1, 1) := by decide +kernel
theorem dX2_letHourPass_50 : decode cX2_letHourPass 50 = .ok (.iconst 1, 1) := by decide +kernel
theorem dX2_letHourPass_51 : decode cX2_letHourPass 51 = .ok (.iadd, 1) := by decide +kernel
theorem dX2_letHourPass_52 : decode cX2_letHourPass 52 = .ok (.goto 4, 3) := by decide +kernel
theorem dX2_letHourPass_55 : decode cX2_letHourPass 55 = .ok (.iconst 0, 1) := by decide +kernel
theorem dX2_letHourPass_56 : decode cX2_letHourPass 56 = .ok (.iadd, 1) := by decide +kernel
theorem dX2_letHourPass_57 : decode cX2_letHourPass 57 = .ok (.putfield 45, 3) := by decide +kernel
theorem dX2_letHourPass_60 : decode cX2_letHourPass 60 = .ok (.aload_n 0, 1) := by decide +kernel
theorem dX2_letHourPass_61 : decode cX2_letHourPass 61 = .ok (.dup, 1) := by decide +kernel
theorem dX2_letHourPass_62 : decode cX2_letHourPass 62 = .ok (.getfield 33, 3) := by decide +kernel
theorem dX2_letHourPass_65 : decode cX2_letHourPass 65 = .ok (.iconst 1, 1) := by decide +kernel
theorem dX2_letHourPass_66 : decode cX2_letHourPass 66 = .ok (.iadd, 1) := by decide +kernel
theorem dX2_letHourPass_67 : decode cX2_letHourPass 67 = .ok (.putfield 33, 3) := by decide +kernel
theorem dX2_letHourPass_70 : decode cX2_letHourPass 70 = .ok (.iconst 0, 1) := by decide +kernel
theorem dX2_letHourPass_71 : decode cX2_letHourPass 71 = .ok (.istore_n 2, 1) := by decide +kernel
theorem dX2_letHourPass_72 : decode cX2_letHourPass 72 = .ok (.iload_n 2, 1) := by decide +kernel
theorem dX2_letHourPass_73 : decode cX2_letHourPass 73 = .ok (.aload_n 0, 1) := by decide +kernel
theorem dX2_letHourPass_74 : decode cX2_letHourPass 74 = .ok (.getfield 42, 3) := by decide +kernel
theorem dX2_letHourPass_77 : decode cX2_letHourPass 77 = .ok (.if_icmp .ge 45, 3) := by decide +kernel
theorem dX2_letHourPass_80 : decode cX2_letHourPass 80 = .ok (.aload_n 0, 1) := by decide +kernel
theorem dX2_letHourPass_81 : decode cX2_letHourPass 81 = .ok (.getfield 27, 3) := by decide +kernel
theorem dX2_letHourPass_84 : decode cX2_letHourPass 84 = .ok (.iload_n 2, 1) := by decide +kernel
theorem dX2_letHourPass_85 : decode cX2_letHourPass 85 = .ok (.aaload, 1) := by decide +kernel
theorem dX2_letHourPass_86 : decode cX2_letHourPass 86 = .ok (.iconst 0, 1) := by decide +kernel
theorem dX2_letHourPass_87 : decode cX2_letHourPass 87 = .ok (.putfield 123, 3) := by decide +kernel
theorem dX2_letHourPass_90 : decode cX2_letHourPass 90 = .ok (.aload_n 0, 1) := by decide +kernel
theorem dX2_letHourPass_91 : decode cX2_letHourPass 91 = .ok (.getfield 27, 3) := by decide +kernel
theorem dX2_letHourPass_94 : decode cX2_letHourPass 94 = .ok (.iload_n 2, 1) := by decide +kernel
theorem dX2_letHourPass_95 : decode cX2_letHourPass 95 = .ok (.aaload, 1) := by decide +kernel
theorem dX2_letHourPass_96 : decode cX2_letHourPass 96 = .ok (.invokevirtual 143, 3) := by decide +kernel
theorem dX2_letHourPass_99 : decode cX2_letHourPass 99 = .ok (.aload_n 0, 1) := by decide +kernel
theorem dX2_letHourPass_100 : decode cX2_letHourPass 100 = .ok (.getfield 33, 3) := by decide +kernel
theorem dX2_letHourPass_103 : decode cX2_letHourPass 103 = .ok (.if_icmp .ne 13, 3) := by decide +kernel
theorem dX2_letHourPass_106 : decode cX2_letHourPass 106 = .ok (.aload_n 0, 1) := by decide +kernel
theorem dX2_letHourPass_107 : decode cX2_letHourPass 107 = .ok (.aload_n 0, 1) := by decide +kernel
theorem dX2_letHourPass_108 : decode cX2_letHourPass 108 = .ok (.getfield 27, 3) := by decide +kernel
theorem dX2_letHourPass_111 : decode cX2_letHourPass 111 = .ok (.iload_n 2, 1) := by decide +kernel
theorem dX2_letHourPass_112 : decode cX2_letHourPass 112 = .ok (.aaload, 1) := by decide +kernel
theorem dX2_letHourPass_113 : decode cX2_letHourPass 113 = .ok (.invokevirtual 147, 3) := by decide +kernel
theorem dX2_letHourPass_116 : decode cX2_letHourPass 116 = .ok (.iinc 2 1, 3) := by decide +kernel
theorem dX2_letHourPass_119 : decode cX2_letHourPass 119 = .ok (.goto (-47), 3) := by decide +kernel
theorem dX2_letHourPass_122 : decode cX2_letHourPass 122 = .ok (.return_, 1) := by decide +kernel
theorem dX2_heatRoom_0 : decode cX2_heatRoom 0 = .ok (.aload_n 1, 1) := by decide +kernel
theorem dX2_heatRoom_1 : decode cX2_heatRoom 1 = .ok (.getfield 150, 3) := by decide +kernel
theorem dX2_heatRoom_4 : decode cX2_heatRoom 4 = .ok (.istore_n 3, 1) := by decide +kernel
theorem dX2_heatRoom_5 : decode cX2_heatRoom 5 = .ok (.aload_n 1, 1) := by decide +kernel
theorem dX2_heatRoom_6 : decode cX2_heatRoom 6 = .ok (.aload_n 1, 1) := by decide +kernel
theorem dX2_heatRoom_7 : decode cX2_heatRoom 7 = .ok (.aload_n 0, 1) := by decide +kernel
theorem dX2_heatRoom_8 : decode cX2_heatRoom 8 = .ok (.getfield 9, 3) := by decide +kernel
theorem dX2_heatRoom_11 : decode cX2_heatRoom 11 = .ok (.invokevirtual 114, 3) := by decide +kernel
theorem dX2_heatRoom_14 : decode cX2_heatRoom 14 = .ok (.putfield 150, 3) := by decide +kernel
theorem dX2_heatRoom_17 : decode cX2_heatRoom 17 = .ok (.aload_n 2, 1) := by decide +kernel
theorem dX2_heatRoom_18 : decode cX2_heatRoom 18 = .ok (.ifnonnull 5, 3) := by decide +kernel
theorem dX2_heatRoom_21 : decode cX2_heatRoom 21 = .ok (.iconst 0, 1) := by decide +kernel
theorem dX2_heatRoom_22 : decode cX2_heatRoom 22 = .ok (.ireturn, 1) := by decide +kernel
theorem dX2_heatRoom_23 : decode cX2_heatRoom 23 = .ok (.aload_n 1, 1) := by decide +kernel
theorem dX2_heatRoom_24 : decode cX2_heatRoom 24 = .ok (.aload_n 2, 1) := by decide +kernel
theorem dX2_heatRoom_25 : decode cX2_heatRoom 25 = .ok (.getfield 120, 3) := by decide +kernel
theorem dX2_heatRoom_28 : decode cX2_heatRoom 28 = .ok (.invokevirtual 153, 3) := by decide +kernel
theorem dX2_heatRoom_31 : decode cX2_heatRoom 31 = .ok (.istore 4, 2) := by decide +kernel
theorem dX2_heatRoom_33 : decode cX2_heatRoom 33 = .ok (.iload 4, 2) := by decide +kernel
theorem dX2_heatRoom_35 : decode cX2_heatRoom 35 = .ok (.ifCond .le 13, 3) := by decide +kernel
theorem dX2_heatRoom_38 : decode cX2_heatRoom 38 = .ok (.aload_n 0, 1) := by decide +kernel
theorem dX2_heatRoom_39 : decode cX2_heatRoom 39 = .ok (.dup, 1) := by decide +kernel
theorem dX2_heatRoom_40 : decode cX2_heatRoom 40 = .ok (.getfield 54, 3) := by decide +kernel
theorem dX2_heatRoom_43 : decode cX2_heatRoom 43 = .ok (.iconst 1, 1) := by decide +kernel
theorem dX2_heatRoom_44 : decode cX2_heatRoom 44 = .ok (.iadd, 1) := by decide +kernel
theorem dX2_heatRoom_45 : decode cX2_heatRoom 45 = .ok (.putfield 54, 3) := by decide +kernel
theorem dX2_heatRoom_48 : decode cX2_heatRoom 48 = .ok (.aload_n 2, 1) := by decide +kernel
theorem dX2_heatRoom_49 : decode cX2_heatRoom 49 = .ok (.aload_n 0, 1) := by decide +kernel
theorem dX2_heatRoom_50 : decode cX2_heatRoom 50 = .ok (.getfield 33, 3) := by decide +kernel
theorem dX2_heatRoom_53 : decode cX2_heatRoom 53 = .ok (.invokevirtual 88, 3) := by decide +kernel
theorem dX2_heatRoom_56 : decode cX2_heatRoom 56 = .ok (.ifCond .eq 14, 3) := by decide +kernel
theorem dX2_heatRoom_59 : decode cX2_heatRoom 59 = .ok (.aload_n 0, 1) := by decide +kernel
theorem dX2_heatRoom_60 : decode cX2_heatRoom 60 = .ok (.aload_n 2, 1) := by decide +kernel
theorem dX2_heatRoom_61 : decode cX2_heatRoom 61 = .ok (.iload 4, 2) := by decide +kernel
theorem dX2_heatRoom_63 : decode cX2_heatRoom 63 = .ok (.iload_n 3, 1) := by decide +kernel
theorem dX2_heatRoom_64 : decode cX2_heatRoom 64 = .ok (.invokevirtual 156, 3) := by decide +kernel
theorem dX2_heatRoom_67 : decode cX2_heatRoom 67 = .ok (.goto 10, 3) := by decide +kernel
theorem dX2_heatRoom_70 : decode cX2_heatRoom 70 = .ok (.aload_n 0, 1) := by decide +kernel
theorem dX2_heatRoom_71 : decode cX2_heatRoom 71 = .ok (.aload_n 2, 1) := by decide +kernel
theorem dX2_heatRoom_72 : decode cX2_heatRoom 72 = .ok (.iload 4, 2) := by decide +kernel
theorem dX2_heatRoom_74 : decode cX2_heatRoom 74 = .ok (.invokevirtual 160, 3) := by decide +kernel
theorem dX2_heatRoom_77 : decode cX2_heatRoom 77 = .ok (.iload 4, 2) := by decide +kernel
theorem dX2_heatRoom_79 : decode cX2_heatRoom 79 = .ok (.ireturn, 1) := by decide +kernel
theorem dX2_chargePreheat_0 : decode cX2_chargePreheat 0 = .ok (.aload_n 1, 1) := by decide +kernel
theorem dX2_chargePreheat_1 : decode cX2_chargePreheat 1 = .ok (.iconst 1, 1) := by decide +kernel
theorem dX2_chargePreheat_2 : decode cX2_chargePreheat 2 = .ok (.putfield 110, 3) := by decide +kernel
theorem dX2_chargePreheat_5 : decode cX2_chargePreheat 5 = .ok (.aload_n 1, 1) := by decide +kernel
theorem dX2_chargePreheat_6 : decode cX2_chargePreheat 6 = .ok (.dup, 1) := by decide +kernel
theorem dX2_chargePreheat_7 : decode cX2_chargePreheat 7 = .ok (.getfield 164, 3) := by decide +kernel
theorem dX2_chargePreheat_10 : decode cX2_chargePreheat 10 = .ok (.iload_n 2, 1) := by decide +kernel
theorem dX2_chargePreheat_11 : decode cX2_chargePreheat 11 = .ok (.iadd, 1) := by decide +kernel
theorem dX2_chargePreheat_12 : decode cX2_chargePreheat 12 = .ok (.putfield 164, 3) := by decide +kernel
theorem dX2_chargePreheat_15 : decode cX2_chargePreheat 15 = .ok (.aload_n 0, 1) := by decide +kernel
theorem dX2_chargePreheat_16 : decode cX2_chargePreheat 16 = .ok (.aload_n 1, 1) := by decide +kernel
theorem dX2_chargePreheat_17 : decode cX2_chargePreheat 17 = .ok (.getfield 167, 3) := by decide +kernel
theorem dX2_chargePreheat_20 : decode cX2_chargePreheat 20 = .ok (.iload_n 2, 1) := by decide +kernel
theorem dX2_chargePreheat_21 : decode cX2_chargePreheat 21 = .ok (.invokevirtual 170, 3) := by decide +kernel
theorem dX2_chargePreheat_24 : decode cX2_chargePreheat 24 = .ok (.return_, 1) := by decide +kernel
theorem dX2_chargeOwnHour_0 : decode cX2_chargeOwnHour 0 = .ok (.aload_n 1, 1) := by decide +kernel
theorem dX2_chargeOwnHour_1 : decode cX2_chargeOwnHour 1 = .ok (.dup, 1) := by decide +kernel
theorem dX2_chargeOwnHour_2 : decode cX2_chargeOwnHour 2 = .ok (.getfield 174, 3) := by decide +kernel
theorem dX2_chargeOwnHour_5 : decode cX2_chargeOwnHour 5 = .ok (.iload_n 2, 1) := by decide +kernel
theorem dX2_chargeOwnHour_6 : decode cX2_chargeOwnHour 6 = .ok (.iadd, 1) := by decide +kernel
theorem dX2_chargeOwnHour_7 : decode cX2_chargeOwnHour 7 = .ok (.putfield 174, 3) := by decide +kernel
theorem dX2_chargeOwnHour_10 : decode cX2_chargeOwnHour 10 = .ok (.iload_n 3, 1) := by decide +kernel
theorem dX2_chargeOwnHour_11 : decode cX2_chargeOwnHour 11 = .ok (.aload_n 1, 1) := by decide +kernel
theorem dX2_chargeOwnHour_12 : decode cX2_chargeOwnHour 12 = .ok (.getfield 120, 3) := by decide +kernel
theorem dX2_chargeOwnHour_15 : decode cX2_chargeOwnHour 15 = .ok (.iconst 1, 1) := by decide +kernel
theorem dX2_chargeOwnHour_16 : decode cX2_chargeOwnHour 16 = .ok (.isub, 1) := by decide +kernel
theorem dX2_chargeOwnHour_17 : decode cX2_chargeOwnHour 17 = .ok (.if_icmp .ge 13, 3) := by decide +kernel
theorem dX2_chargeOwnHour_20 : decode cX2_chargeOwnHour 20 = .ok (.aload_n 1, 1) := by decide +kernel
theorem dX2_chargeOwnHour_21 : decode cX2_chargeOwnHour 21 = .ok (.dup, 1) := by decide +kernel
theorem dX2_chargeOwnHour_22 : decode cX2_chargeOwnHour 22 = .ok (.getfield 177, 3) := by decide +kernel
theorem dX2_chargeOwnHour_25 : decode cX2_chargeOwnHour 25 = .ok (.iconst 1, 1) := by decide +kernel
theorem dX2_chargeOwnHour_26 : decode cX2_chargeOwnHour 26 = .ok (.iadd, 1) := by decide +kernel
theorem dX2_chargeOwnHour_27 : decode cX2_chargeOwnHour 27 = .ok (.putfield 177, 3) := by decide +kernel
theorem dX2_chargeOwnHour_30 : decode cX2_chargeOwnHour 30 = .ok (.aload_n 1, 1) := by decide +kernel
theorem dX2_chargeOwnHour_31 : decode cX2_chargeOwnHour 31 = .ok (.getfield 123, 3) := by decide +kernel
theorem dX2_chargeOwnHour_34 : decode cX2_chargeOwnHour 34 = .ok (.ifCond .eq 16, 3) := by decide +kernel
theorem dX2_chargeOwnHour_37 : decode cX2_chargeOwnHour 37 = .ok (.aload_n 0, 1) := by decide +kernel
theorem dX2_chargeOwnHour_38 : decode cX2_chargeOwnHour 38 = .ok (.dup, 1) := by decide +kernel
theorem dX2_chargeOwnHour_39 : decode cX2_chargeOwnHour 39 = .ok (.getfield 51, 3) := by decide +kernel
theorem dX2_chargeOwnHour_42 : decode cX2_chargeOwnHour 42 = .ok (.iload_n 2, 1) := by decide +kernel
theorem dX2_chargeOwnHour_43 : decode cX2_chargeOwnHour 43 = .ok (.iadd, 1) := by decide +kernel
theorem dX2_chargeOwnHour_44 : decode cX2_chargeOwnHour 44 = .ok (.putfield 51, 3) := by decide +kernel
theorem dX2_chargeOwnHour_47 : decode cX2_chargeOwnHour 47 = .ok (.goto 12, 3) := by decide +kernel
theorem dX2_chargeOwnHour_50 : decode cX2_chargeOwnHour 50 = .ok (.aload_n 0, 1) := by decide +kernel
theorem dX2_chargeOwnHour_51 : decode cX2_chargeOwnHour 51 = .ok (.aload_n 1, 1) := by decide +kernel
theorem dX2_chargeOwnHour_52 : decode cX2_chargeOwnHour 52 = .ok (.getfield 167, 3) := by decide +kernel
theorem dX2_chargeOwnHour_55 : decode cX2_chargeOwnHour 55 = .ok (.iload_n 2, 1) := by decide +kernel
theorem dX2_chargeOwnHour_56 : decode cX2_chargeOwnHour 56 = .ok (.invokevirtual 170, 3) := by decide +kernel
theorem dX2_chargeOwnHour_59 : decode cX2_chargeOwnHour 59 = .ok (.return_, 1) := by decide +kernel
theorem dX2_chargeGroup_0 : decode cX2_chargeGroup 0 = .ok (.iload_n 1, 1) := by decide +kernel
theorem dX2_chargeGroup_1 : decode cX2_chargeGroup 1 = .ok (.ifCond .lt 31, 3) := by decide +kernel
theorem dX2_chargeGroup_4 : decode cX2_chargeGroup 4 = .ok (.iload_n 1, 1) := by decide +kernel
theorem dX2_chargeGroup_5 : decode cX2_chargeGroup 5 = .ok (.aload_n 0, 1) := by decide +kernel
theorem dX2_chargeGroup_6 : decode cX2_chargeGroup 6 = .ok (.getfield 39, 3) := by decide +kernel
theorem dX2_chargeGroup_9 : decode cX2_chargeGroup 9 = .ok (.if_icmp .ge 23, 3) := by decide +kernel
theorem dX2_chargeGroup_12 : decode cX2_chargeGroup 12 = .ok (.aload_n 0, 1) := by decide +kernel
theorem dX2_chargeGroup_13 : decode cX2_chargeGroup 13 = .ok (.getfield 21, 3) := by decide +kernel
theorem dX2_chargeGroup_16 : decode cX2_chargeGroup 16 = .ok (.iload_n 1, 1) := by decide +kernel
theorem dX2_chargeGroup_17 : decode cX2_chargeGroup 17 = .ok (.dup2, 1) := by decide +kernel
theorem dX2_chargeGroup_18 : decode cX2_chargeGroup 18 = .ok (.iaload, 1) := by decide +kernel
theorem dX2_chargeGroup_19 : decode cX2_chargeGroup 19 = .ok (.iload_n 2, 1) := by decide +kernel
theorem dX2_chargeGroup_20 : decode cX2_chargeGroup 20 = .ok (.iadd, 1) := by decide +kernel
theorem dX2_chargeGroup_21 : decode cX2_chargeGroup 21 = .ok (.iastore, 1) := by decide +kernel
theorem dX2_chargeGroup_22 : decode cX2_chargeGroup 22 = .ok (.aload_n 0, 1) := by decide +kernel
theorem dX2_chargeGroup_23 : decode cX2_chargeGroup 23 = .ok (.dup, 1) := by decide +kernel
theorem dX2_chargeGroup_24 : decode cX2_chargeGroup 24 = .ok (.getfield 48, 3) := by decide +kernel
theorem dX2_chargeGroup_27 : decode cX2_chargeGroup 27 = .ok (.iload_n 2, 1) := by decide +kernel
theorem dX2_chargeGroup_28 : decode cX2_chargeGroup 28 = .ok (.iadd, 1) := by decide +kernel
theorem dX2_chargeGroup_29 : decode cX2_chargeGroup 29 = .ok (.putfield 48, 3) := by decide +kernel
theorem dX2_chargeGroup_32 : decode cX2_chargeGroup 32 = .ok (.return_, 1) := by decide +kernel
theorem dX2_leaveHeat_0 : decode cX2_leaveHeat 0 = .ok (.aload_n 1, 1) := by decide +kernel
theorem dX2_leaveHeat_1 : decode cX2_leaveHeat 1 = .ok (.getfield 164, 3) := by decide +kernel
theorem dX2_leaveHeat_4 : decode cX2_leaveHeat 4 = .ok (.iconst 2, 1) := by decide +kernel
theorem dX2_leaveHeat_5 : decode cX2_leaveHeat 5 = .ok (.idiv, 1) := by decide +kernel
theorem dX2_leaveHeat_6 : decode cX2_leaveHeat 6 = .ok (.istore_n 2, 1) := by decide +kernel
theorem dX2_leaveHeat_7 : decode cX2_leaveHeat 7 = .ok (.iconst 0, 1) := by decide +kernel
theorem dX2_leaveHeat_8 : decode cX2_leaveHeat 8 = .ok (.istore_n 3, 1) := by decide +kernel
theorem dX2_leaveHeat_9 : decode cX2_leaveHeat 9 = .ok (.iload_n 3, 1) := by decide +kernel
theorem dX2_leaveHeat_10 : decode cX2_leaveHeat 10 = .ok (.aload_n 0, 1) := by decide +kernel
theorem dX2_leaveHeat_11 : decode cX2_leaveHeat 11 = .ok (.getfield 42, 3) := by decide +kernel
theorem dX2_leaveHeat_14 : decode cX2_leaveHeat 14 = .ok (.if_icmp .ge 73, 3) := by decide +kernel
theorem dX2_leaveHeat_17 : decode cX2_leaveHeat 17 = .ok (.aload_n 0, 1) := by decide +kernel
theorem dX2_leaveHeat_18 : decode cX2_leaveHeat 18 = .ok (.getfield 27, 3) := by decide +kernel
theorem dX2_leaveHeat_21 : decode cX2_leaveHeat 21 = .ok (.iload_n 3, 1) := by decide +kernel
theorem dX2_leaveHeat_22 : decode cX2_leaveHeat 22 = .ok (.aaload, 1) := by decide +kernel
theorem dX2_leaveHeat_23 : decode cX2_leaveHeat 23 = .ok (.astore 4, 2) := by decide +kernel
theorem dX2_leaveHeat_25 : decode cX2_leaveHeat 25 = .ok (.aload 4, 2) := by decide +kernel
theorem dX2_leaveHeat_27 : decode cX2_leaveHeat 27 = .ok (.getfield 74, 3) := by decide +kernel
theorem dX2_leaveHeat_30 : decode cX2_leaveHeat 30 = .ok (.aload_n 1, 1) := by decide +kernel
theorem dX2_leaveHeat_31 : decode cX2_leaveHeat 31 = .ok (.getfield 74, 3) := by decide +kernel
theorem dX2_leaveHeat_34 : decode cX2_leaveHeat 34 = .ok (.if_icmp .ne 47, 3) := by decide +kernel
theorem dX2_leaveHeat_37 : decode cX2_leaveHeat 37 = .ok (.aload 4, 2) := by decide +kernel
theorem dX2_leaveHeat_39 : decode cX2_leaveHeat 39 = .ok (.getfield 92, 3) := by decide +kernel
theorem dX2_leaveHeat_42 : decode cX2_leaveHeat 42 = .ok (.aload_n 1, 1) := by decide +kernel
theorem dX2_leaveHeat_43 : decode cX2_leaveHeat 43 = .ok (.invokevirtual 143, 3) := by decide +kernel
theorem dX2_leaveHeat_46 : decode cX2_leaveHeat 46 = .ok (.if_icmp .ne 35, 3) := by decide +kernel
theorem dX2_leaveHeat_49 : decode cX2_leaveHeat 49 = .ok (.aload 4, 2) := by decide +kernel
theorem dX2_leaveHeat_51 : decode cX2_leaveHeat 51 = .ok (.getfield 167, 3) := by decide +kernel
theorem dX2_leaveHeat_54 : decode cX2_leaveHeat 54 = .ok (.aload_n 1, 1) := by decide +kernel
theorem dX2_leaveHeat_55 : decode cX2_leaveHeat 55 = .ok (.getfield 167, 3) := by decide +kernel
theorem dX2_leaveHeat_58 : decode cX2_leaveHeat 58 = .ok (.if_icmp .eq 23, 3) := by decide +kernel
theorem dX2_leaveHeat_61 : decode cX2_leaveHeat 61 = .ok (.aload_n 0, 1) := by decide +kernel
theorem dX2_leaveHeat_62 : decode cX2_leaveHeat 62 = .ok (.aload_n 1, 1) := by decide +kernel
theorem dX2_leaveHeat_63 : decode cX2_leaveHeat 63 = .ok (.getfield 167, 3) := by decide +kernel
theorem dX2_leaveHeat_66 : decode cX2_leaveHeat 66 = .ok (.iload_n 2, 1) := by decide +kernel
theorem dX2_leaveHeat_67 : decode cX2_leaveHeat 67 = .ok (.ineg, 1) := by decide +kernel
theorem dX2_leaveHeat_68 : decode cX2_leaveHeat 68 = .ok (.invokevirtual 170, 3) := by decide +kernel
theorem dX2_leaveHeat_71 : decode cX2_leaveHeat 71 = .ok (.aload_n 0, 1) := by decide +kernel
theorem dX2_leaveHeat_72 : decode cX2_leaveHeat 72 = .ok (.aload 4, 2) := by decide +kernel
theorem dX2_leaveHeat_74 : decode cX2_leaveHeat 74 = .ok (.getfield 167, 3) := by decide +kernel
theorem dX2_leaveHeat_77 : decode cX2_leaveHeat 77 = .ok (.iload_n 2, 1) := by decide +kernel
theorem dX2_leaveHeat_78 : decode cX2_leaveHeat 78 = .ok (.invokevirtual 170, 3) := by decide +kernel
theorem dX2_leaveHeat_81 : decode cX2_leaveHeat 81 = .ok (.iinc 3 1, 3) := by decide +kernel
theorem dX2_leaveHeat_84 : decode cX2_leaveHeat 84 = .ok (.goto (-75), 3) := by decide +kernel
theorem dX2_leaveHeat_87 : decode cX2_leaveHeat 87 = .ok (.return_, 1) := by decide +kernel
theorem dX2_endOfBookings_0 : decode cX2_endOfBookings 0 = .ok (.iconst 0, 1) := by decide +kernel
theorem dX2_endOfBookings_1 : decode cX2_endOfBookings 1 = .ok (.istore_n 1, 1) := by decide +kernel
theorem dX2_endOfBookings_2 : decode cX2_endOfBookings 2 = .ok (.iconst 0, 1) := by decide +kernel
theorem dX2_endOfBookings_3 : decode cX2_endOfBookings 3 = .ok (.istore_n 2, 1) := by decide +kernel
theorem dX2_endOfBookings_4 : decode cX2_endOfBookings 4 = .ok (.iload_n 2, 1) := by decide +kernel
theorem dX2_endOfBookings_5 : decode cX2_endOfBookings 5 = .ok (.aload_n 0, 1) := by decide +kernel
theorem dX2_endOfBookings_6 : decode cX2_endOfBookings 6 = .ok (.getfield 42, 3) := by decide +kernel
theorem dX2_endOfBookings_9 : decode cX2_endOfBookings 9 = .ok (.if_icmp .ge 23, 3) := by decide +kernel
theorem dX2_endOfBookings_12 : decode cX2_endOfBookings 12 = .ok (.iload_n 1, 1) := by decide +kernel
theorem dX2_endOfBookings_13 : decode cX2_endOfBookings 13 = .ok (.aload_n 0, 1) := by decide +kernel
theorem dX2_endOfBookings_14 : decode cX2_endOfBookings 14 = .ok (.getfield 27, 3) := by decide +kernel
theorem dX2_endOfBookings_17 : decode cX2_endOfBookings 17 = .ok (.iload_n 2, 1) := by decide +kernel
theorem dX2_endOfBookings_18 : decode cX2_endOfBookings 18 = .ok (.aaload, 1) := by decide +kernel
theorem dX2_endOfBookings_19 : decode cX2_endOfBookings 19 = .ok (.invokevirtual 143, 3) := by decide +kernel
theorem dX2_endOfBookings_22 : decode cX2_endOfBookings 22 = .ok (.invokestatic 180, 3) := by decide +kernel
theorem dX2_endOfBookings_25 : decode cX2_endOfBookings 25 = .ok (.istore_n 1, 1) := by decide +kernel
theorem dX2_endOfBookings_26 : decode cX2_endOfBookings 26 = .ok (.iinc 2 1, 3) := by decide +kernel
theorem dX2_endOfBookings_29 : decode cX2_endOfBookings 29 = .ok (.goto (-25), 3) := by decide +kernel
theorem dX2_endOfBookings_32 : decode cX2_endOfBookings 32 = .ok (.iload_n 1, 1) := by decide +kernel
theorem dX2_endOfBookings_33 : decode cX2_endOfBookings 33 = .ok (.ireturn, 1) := by decide +kernel
theorem dX2_coldestBooking_0 : decode cX2_coldestBooking 0 = .ok (.bipush (-99), 2) := by decide +kernel
theorem dX2_coldestBooking_2 : decode cX2_coldestBooking 2 = .ok (.istore_n 1, 1) := by decide +kernel
theorem dX2_coldestBooking_3 : decode cX2_coldestBooking 3 = .ok (.iconst (-1), 1) := by decide +kernel
theorem dX2_coldestBooking_4 : decode cX2_coldestBooking 4 = .ok (.istore_n 2, 1) := by decide +kernel
theorem dX2_coldestBooking_5 : decode cX2_coldestBooking 5 = .ok (.iconst 0, 1) := by decide +kernel
theorem dX2_coldestBooking_6 : decode cX2_coldestBooking 6 = .ok (.istore_n 3, 1) := by decide +kernel
theorem dX2_coldestBooking_7 : decode cX2_coldestBooking 7 = .ok (.iload_n 3, 1) := by decide +kernel
theorem dX2_coldestBooking_8 : decode cX2_coldestBooking 8 = .ok (.aload_n 0, 1) := by decide +kernel
theorem dX2_coldestBooking_9 : decode cX2_coldestBooking 9 = .ok (.getfield 42, 3) := by decide +kernel
theorem dX2_coldestBooking_12 : decode cX2_coldestBooking 12 = .ok (.if_icmp .ge 34, 3) := by decide +kernel
theorem dX2_coldestBooking_15 : decode cX2_coldestBooking 15 = .ok (.aload_n 0, 1) := by decide +kernel
theorem dX2_coldestBooking_16 : decode cX2_coldestBooking 16 = .ok (.getfield 27, 3) := by decide +kernel
theorem dX2_coldestBooking_19 : decode cX2_coldestBooking 19 = .ok (.iload_n 3, 1) := by decide +kernel
theorem dX2_coldestBooking_20 : decode cX2_coldestBooking 20 = .ok (.aaload, 1) := by decide +kernel
theorem dX2_coldestBooking_21 : decode cX2_coldestBooking 21 = .ok (.getfield 177, 3) := by decide +kernel
theorem dX2_coldestBooking_24 : decode cX2_coldestBooking 24 = .ok (.iload_n 2, 1) := by decide +kernel
theorem dX2_coldestBooking_25 : decode cX2_coldestBooking 25 = .ok (.if_icmp .le 15, 3) := by decide +kernel
theorem dX2_coldestBooking_28 : decode cX2_coldestBooking 28 = .ok (.iload_n 3, 1) := by decide +kernel
theorem dX2_coldestBooking_29 : decode cX2_coldestBooking 29 = .ok (.istore_n 1, 1) := by decide +kernel
theorem dX2_coldestBooking_30 : decode cX2_coldestBooking 30 = .ok (.aload_n 0, 1) := by decide +kernel
theorem dX2_coldestBooking_31 : decode cX2_coldestBooking 31 = .ok (.getfield 27, 3) := by decide +kernel
theorem dX2_coldestBooking_34 : decode cX2_coldestBooking 34 = .ok (.iload_n 3, 1) := by decide +kernel
theorem dX2_coldestBooking_35 : decode cX2_coldestBooking 35 = .ok (.aaload, 1) := by decide +kernel
theorem dX2_coldestBooking_36 : decode cX2_coldestBooking 36 = .ok (.getfield 177, 3) := by decide +kernel
theorem dX2_coldestBooking_39 : decode cX2_coldestBooking 39 = .ok (.istore_n 2, 1) := by decide +kernel
theorem dX2_coldestBooking_40 : decode cX2_coldestBooking 40 = .ok (.iinc 3 1, 3) := by decide +kernel
theorem dX2_coldestBooking_43 : decode cX2_coldestBooking 43 = .ok (.goto (-36), 3) := by decide +kernel
theorem dX2_coldestBooking_46 : decode cX2_coldestBooking 46 = .ok (.iload_n 1, 1) := by decide +kernel
theorem dX2_coldestBooking_47 : decode cX2_coldestBooking 47 = .ok (.ireturn, 1) := by decide +kernel
theorem dX3_init_0 : decode cX3_init 0 = .ok (.aload_n 0, 1) := by decide +kernel
theorem dX3_init_1 : decode cX3_init 1 = .ok (.invokespecial 3, 3) := by decide +kernel
theorem dX3_init_4 : decode cX3_init 4 = .ok (.aload_n 0, 1) := by decide +kernel
theorem dX3_init_5 : decode cX3_init 5 = .ok (.bipush 120, 2) := by decide +kernel
theorem dX3_init_7 : decode cX3_init 7 = .ok (.newarray .int, 2) := by decide +kernel
theorem dX3_init_9 : decode cX3_init 9 = .ok (.putfield 9, 3) := by decide +kernel
theorem dX3_init_12 : decode cX3_init 12 = .ok (.return_, 1) := by decide +kernel
theorem dX3_add_0 : decode cX3_add 0 = .ok (.aload_n 0, 1) := by decide +kernel
theorem dX3_add_1 : decode cX3_add 1 = .ok (.getfield 15, 3) := by decide +kernel
theorem dX3_add_4 : decode cX3_add 4 = .ok (.aload_n 0, 1) := by decide +kernel
theorem dX3_add_5 : decode cX3_add 5 = .ok (.getfield 9, 3) := by decide +kernel
theorem dX3_add_8 : decode cX3_add 8 = .ok (.arraylength, 1) := by decide +kernel
theorem dX3_add_9 : decode cX3_add 9 = .ok (.if_icmp .ge 23, 3) := by decide +kernel
theorem dX3_add_12 : decode cX3_add 12 = .ok (.aload_n 0, 1) := by decide +kernel
theorem dX3_add_13 : decode cX3_add 13 = .ok (.getfield 9, 3) := by decide +kernel
theorem dX3_add_16 : decode cX3_add 16 = .ok (.aload_n 0, 1) := by decide +kernel
theorem dX3_add_17 : decode cX3_add 17 = .ok (.getfield 15, 3) := by decide +kernel
theorem dX3_add_20 : decode cX3_add 20 = .ok (.iload_n 1, 1) := by decide +kernel
theorem dX3_add_21 : decode cX3_add 21 = .ok (.iastore, 1) := by decide +kernel
theorem dX3_add_22 : decode cX3_add 22 = .ok (.aload_n 0, 1) := by decide +kernel
theorem dX3_add_23 : decode cX3_add 23 = .ok (.dup, 1) := by decide +kernel
theorem dX3_add_24 : decode cX3_add 24 = .ok (.getfield 15, 3) := by decide +kernel
theorem dX3_add_27 : decode cX3_add 27 = .ok (.iconst 1, 1) := by decide +kernel
theorem dX3_add_28 : decode cX3_add 28 = .ok (.iadd, 1) := by decide +kernel
theorem dX3_add_29 : decode cX3_add 29 = .ok (.putfield 15, 3) := by decide +kernel
theorem dX3_add_32 : decode cX3_add 32 = .ok (.return_, 1) := by decide +kernel
theorem dX3_readInto_0 : decode cX3_readInto 0 = .ok (.aload_n 1, 1) := by decide +kernel
theorem dX3_readInto_1 : decode cX3_readInto 1 = .ok (.invokevirtual 19, 3) := by decide +kernel
theorem dX3_readInto_4 : decode cX3_readInto 4 = .ok (.aload_n 0, 1) := by decide +kernel
theorem dX3_readInto_5 : decode cX3_readInto 5 = .ok (.iconst 0, 1) := by decide +kernel
theorem dX3_readInto_6 : decode cX3_readInto 6 = .ok (.putfield 24, 3) := by decide +kernel
theorem dX3_readInto_9 : decode cX3_readInto 9 = .ok (.aload_n 0, 1) := by decide +kernel
theorem dX3_readInto_10 : decode cX3_readInto 10 = .ok (.bipush (-99), 2) := by decide +kernel
theorem dX3_readInto_12 : decode cX3_readInto 12 = .ok (.putfield 27, 3) := by decide +kernel
theorem dX3_readInto_15 : decode cX3_readInto 15 = .ok (.aload_n 0, 1) := by decide +kernel
theorem dX3_readInto_16 : decode cX3_readInto 16 = .ok (.aload_n 0, 1) := by decide +kernel
theorem dX3_readInto_17 : decode cX3_readInto 17 = .ok (.invokevirtual 30, 3) := by decide +kernel
theorem dX3_readInto_20 : decode cX3_readInto 20 = .ok (.bipush 72, 2) := by decide +kernel
theorem dX3_readInto_22 : decode cX3_readInto 22 = .ok (.if_icmp .ne 7, 3) := by decide +kernel
theorem dX3_readInto_25 : decode cX3_readInto 25 = .ok (.iconst 1, 1) := by decide +kernel
theorem dX3_readInto_26 : decode cX3_readInto 26 = .ok (.goto 4, 3) := by decide +kernel
theorem dX3_readInto_29 : decode cX3_readInto 29 = .ok (.iconst 0, 1) := by decide +kernel
theorem dX3_readInto_30 : decode cX3_readInto 30 = .ok (.invokevirtual 34, 3) := by decide +kernel
theorem dX3_readInto_33 : decode cX3_readInto 33 = .ok (.iconst 0, 1) := by decide +kernel
theorem dX3_readInto_34 : decode cX3_readInto 34 = .ok (.istore_n 2, 1) := by decide +kernel
theorem dX3_readInto_35 : decode cX3_readInto 35 = .ok (.iload_n 2, 1) := by decide +kernel
theorem dX3_readInto_36 : decode cX3_readInto 36 = .ok (.bipush 120, 2) := by decide +kernel
theorem dX3_readInto_38 : decode cX3_readInto 38 = .ok (.if_icmp .ge 34, 3) := by decide +kernel
theorem dX3_readInto_41 : decode cX3_readInto 41 = .ok (.aload_n 0, 1) := by decide +kernel
theorem dX3_readInto_42 : decode cX3_readInto 42 = .ok (.getfield 27, 3) := by decide +kernel
theorem dX3_readInto_45 : decode cX3_readInto 45 = .ok (.bipush (-99), 2) := by decide +kernel
theorem dX3_readInto_47 : decode cX3_readInto 47 = .ok (.if_icmp .ne 25, 3) := by decide +kernel
theorem dX3_readInto_50 : decode cX3_readInto 50 = .ok (.aload_n 0, 1) := by decide +kernel
theorem dX3_readInto_51 : decode cX3_readInto 51 = .ok (.getfield 24, 3) := by decide +kernel
theorem dX3_readInto_54 : decode cX3_readInto 54 = .ok (.aload_n 0, 1) := by decide +kernel
theorem dX3_readInto_55 : decode cX3_readInto 55 = .ok (.getfield 15, 3) := by decide +kernel
theorem dX3_readInto_58 : decode cX3_readInto 58 = .ok (.if_icmp .ge 14, 3) := by decide +kernel
theorem dX3_readInto_61 : decode cX3_readInto 61 = .ok (.aload_n 0, 1) := by decide +kernel
theorem dX3_readInto_62 : decode cX3_readInto 62 = .ok (.aload_n 1, 1) := by decide +kernel
theorem dX3_readInto_63 : decode cX3_readInto 63 = .ok (.invokevirtual 38, 3) := by decide +kernel
theorem dX3_readInto_66 : decode cX3_readInto 66 = .ok (.iinc 2 1, 3) := by decide +kernel
theorem dX3_readInto_69 : decode cX3_readInto 69 = .ok (.goto (-34), 3) := by decide +kernel
theorem dX3_readInto_72 : decode cX3_readInto 72 = .ok (.aload_n 0, 1) := by decide +kernel
theorem dX3_readInto_73 : decode cX3_readInto 73 = .ok (.getfield 27, 3) := by decide +kernel
theorem dX3_readInto_76 : decode cX3_readInto 76 = .ok (.ireturn, 1) := by decide +kernel
theorem dX3_readPart_0 : decode cX3_readPart 0 = .ok (.aload_n 0, 1) := by decide +kernel
theorem dX3_readPart_1 : decode cX3_readPart 1 = .ok (.invokevirtual 30, 3) := by decide +kernel
theorem dX3_readPart_4 : decode cX3_readPart 4 = .ok (.lookupswitch 76 #[(98, 68), (103, 52), (111, 60), (114, 44)], 44) := by decide +kernel
theorem dX3_readPart_48 : decode cX3_readPart 48 = .ok (.aload_n 0, 1) := by decide +kernel
theorem dX3_readPart_49 : decode cX3_readPart 49 = .ok (.aload_n 1, 1) := by decide +kernel
theorem dX3_readPart_50 : decode cX3_readPart 50 = .ok (.invokevirtual 42, 3) := by decide +kernel
theorem dX3_readPart_53 : decode cX3_readPart 53 = .ok (.goto 32, 3) := by decide +kernel
theorem dX3_readPart_56 : decode cX3_readPart 56 = .ok (.aload_n 0, 1) := by decide +kernel
theorem dX3_readPart_57 : decode cX3_readPart 57 = .ok (.aload_n 1, 1) := by decide +kernel
theorem dX3_readPart_58 : decode cX3_readPart 58 = .ok (.invokevirtual 45, 3) := by decide +kernel
theorem dX3_readPart_61 : decode cX3_readPart 61 = .ok (.goto 24, 3) := by decide +kernel
theorem dX3_readPart_64 : decode cX3_readPart 64 = .ok (.aload_n 0, 1) := by decide +kernel
theorem dX3_readPart_65 : decode cX3_readPart 65 = .ok (.aload_n 1, 1) := by decide +kernel
theorem dX3_readPart_66 : decode cX3_readPart 66 = .ok (.invokevirtual 48, 3) := by decide +kernel
theorem dX3_readPart_69 : decode cX3_readPart 69 = .ok (.goto 16, 3) := by decide +kernel
theorem dX3_readPart_72 : decode cX3_readPart 72 = .ok (.aload_n 0, 1) := by decide +kernel
theorem dX3_readPart_73 : decode cX3_readPart 73 = .ok (.aload_n 1, 1) := by decide +kernel
theorem dX3_readPart_74 : decode cX3_readPart 74 = .ok (.invokevirtual 51, 3) := by decide +kernel
theorem dX3_readPart_77 : decode cX3_readPart 77 = .ok (.goto 8, 3) := by decide +kernel
theorem dX3_readPart_80 : decode cX3_readPart 80 = .ok (.aload_n 0, 1) := by decide +kernel
theorem dX3_readPart_81 : decode cX3_readPart 81 = .ok (.iconst 0, 1) := by decide +kernel
theorem dX3_readPart_82 : decode cX3_readPart 82 = .ok (.invokevirtual 34, 3) := by decide +kernel
theorem dX3_readPart_85 : decode cX3_readPart 85 = .ok (.return_, 1) := by decide +kernel
theorem dX3_readRoom_0 : decode cX3_readRoom 0 = .ok (.aload_n 0, 1) := by decide +kernel
theorem dX3_readRoom_1 : decode cX3_readRoom 1 = .ok (.aload_n 1, 1) := by decide +kernel
theorem dX3_readRoom_2 : decode cX3_readRoom 2 = .ok (.getfield 54, 3) := by decide +kernel
theorem dX3_readRoom_5 : decode cX3_readRoom 5 = .ok (.iconst 4, 1) := by decide +kernel
theorem dX3_readRoom_6 : decode cX3_readRoom 6 = .ok (.if_icmp .ge 7, 3) := by decide +kernel
theorem dX3_readRoom_9 : decode cX3_readRoom 9 = .ok (.iconst 1, 1) := by decide +kernel
theorem dX3_readRoom_10 : decode cX3_readRoom 10 = .ok (.goto 4, 3) := by decide +kernel
theorem dX3_readRoom_13 : decode cX3_readRoom 13 = .ok (.iconst 0, 1) := by decide +kernel
theorem dX3_readRoom_14 : decode cX3_readRoom 14 = .ok (.invokevirtual 34, 3) := by decide +kernel
theorem dX3_readRoom_17 : decode cX3_readRoom 17 = .ok (.aload_n 0, 1) := by decide +kernel
theorem dX3_readRoom_18 : decode cX3_readRoom 18 = .ok (.iconst 1, 1) := by decide +kernel
theorem dX3_readRoom_19 : decode cX3_readRoom 19 = .ok (.iconst 1, 1) := by decide +kernel
theorem dX3_readRoom_20 : decode cX3_readRoom 20 = .ok (.bipush 9, 2) := by decide +kernel
theorem dX3_readRoom_22 : decode cX3_readRoom 22 = .ok (.invokevirtual 57, 3) := by decide +kernel
theorem dX3_readRoom_25 : decode cX3_readRoom 25 = .ok (.istore_n 2, 1) := by decide +kernel
theorem dX3_readRoom_26 : decode cX3_readRoom 26 = .ok (.aload_n 0, 1) := by decide +kernel
theorem dX3_readRoom_27 : decode cX3_readRoom 27 = .ok (.iconst 1, 1) := by decide +kernel
theorem dX3_readRoom_28 : decode cX3_readRoom 28 = .ok (.iconst 1, 1) := by decide +kernel
theorem dX3_readRoom_29 : decode cX3_readRoom 29 = .ok (.bipush 9, 2) := by decide +kernel
theorem dX3_readRoom_31 : decode cX3_readRoom 31 = .ok (.invokevirtual 57, 3) := by decide +kernel
theorem dX3_readRoom_34 : decode cX3_readRoom 34 = .ok (.istore_n 3, 1) := by decide +kernel
theorem dX3_readRoom_35 : decode cX3_readRoom 35 = .ok (.aload_n 0, 1) := by decide +kernel
theorem dX3_readRoom_36 : decode cX3_readRoom 36 = .ok (.iconst 1, 1) := by decide +kernel
theorem dX3_readRoom_37 : decode cX3_readRoom 37 = .ok (.iconst 1, 1) := by decide +kernel
theorem dX3_readRoom_38 : decode cX3_readRoom 38 = .ok (.bipush 9, 2) := by decide +kernel
theorem dX3_readRoom_40 : decode cX3_readRoom 40 = .ok (.invokevirtual 57, 3) := by decide +kernel
theorem dX3_readRoom_43 : decode cX3_readRoom 43 = .ok (.istore 4, 2) := by decide +kernel
theorem dX3_readRoom_45 : decode cX3_readRoom 45 = .ok (.aload_n 0, 1) := by decide +kernel
theorem dX3_readRoom_46 : decode cX3_readRoom 46 = .ok (.iconst 2, 1) := by decide +kernel
theorem dX3_readRoom_47 : decode cX3_readRoom 47 = .ok (.iconst 0, 1) := by decide +kernel
theorem dX3_readRoom_48 : decode cX3_readRoom 48 = .ok (.bipush 30, 2) := by decide +kernel
theorem dX3_readRoom_50 : decode cX3_readRoom 50 = .ok (.invokevirtual 57, 3) := by decide +kernel
theorem dX3_readRoom_53 : decode cX3_readRoom 53 = .ok (.istore 5, 2) := by decide +kernel
theorem dX3_readRoom_55 : decode cX3_readRoom 55 = .ok (.aload_n 0, 1) := by decide +kernel
theorem dX3_readRoom_56 : decode cX3_readRoom 56 = .ok (.getfield 27, 3) := by decide +kernel
theorem dX3_readRoom_59 : decode cX3_readRoom 59 = .ok (.bipush (-99), 2) := by decide +kernel
theorem dX3_readRoom_61 : decode cX3_readRoom 61 = .ok (.if_icmp .ne 14, 3) := by decide +kernel
theorem dX3_readRoom_64 : decode cX3_readRoom 64 = .ok (.aload_n 1, 1) := by decide +kernel
theorem dX3_readRoom_65 : decode cX3_readRoom 65 = .ok (.iload_n 2, 1) := by decide +kernel
theorem dX3_readRoom_66 : decode cX3_readRoom 66 = .ok (.iload_n 3, 1) := by decide +kernel
theorem dX3_readRoom_67 : decode cX3_readRoom 67 = .ok (.iload 4, 2) := by decide +kernel
theorem dX3_readRoom_69 : decode cX3_readRoom 69 = .ok (.iload 5, 2) := by decide +kernel
theorem dX3_readRoom_71 : decode cX3_readRoom 71 = .ok (.invokevirtual 61, 3) := by decide +kernel
theorem dX3_readRoom_74 : decode cX3_readRoom 74 = .ok (.pop, 1) := by decide +kernel
theorem dX3_readRoom_75 : decode cX3_readRoom 75 = .ok (.return_, 1) := by decide +kernel
theorem dX3_readGroup_0 : decode cX3_readGroup 0 = .ok (.aload_n 0, 1) := by decide +kernel
theorem dX3_readGroup_1 : decode cX3_readGroup 1 = .ok (.aload_n 1, 1) := by decide +kernel
theorem dX3_readGroup_2 : decode cX3_readGroup 2 = .ok (.getfield 65, 3) := by decide +kernel
theorem dX3_readGroup_5 : decode cX3_readGroup 5 = .ok (.bipush 6, 2) := by decide +kernel
theorem dX3_readGroup_7 : decode cX3_readGroup 7 = .ok (.if_icmp .ge 7, 3) := by decide +kernel
theorem dX3_readGroup_10 : decode cX3_readGroup 10 = .ok (.iconst 1, 1) := by decide +kernel
theorem dX3_readGroup_11 : decode cX3_readGroup 11 = .ok (.goto 4, 3) := by decide +kernel
theorem dX3_readGroup_14 : decode cX3_readGroup 14 = .ok (.iconst 0, 1) := by decide +kernel
theorem dX3_readGroup_15 : decode cX3_readGroup 15 = .ok (.invokevirtual 34, 3) := by decide +kernel
theorem dX3_readGroup_18 : decode cX3_readGroup 18 = .ok (.aload_n 0, 1) := by decide +kernel
theorem dX3_readGroup_19 : decode cX3_readGroup 19 = .ok (.getfield 27, 3) := by decide +kernel
theorem dX3_readGroup_22 : decode cX3_readGroup 22 = .ok (.bipush (-99), 2) := by decide +kernel
theorem dX3_readGroup_24 : decode cX3_readGroup 24 = .ok (.if_icmp .ne 8, 3) := by decide +kernel
theorem dX3_readGroup_27 : decode cX3_readGroup 27 = .ok (.aload_n 1, 1) := by decide +kernel
theorem dX3_readGroup_28 : decode cX3_readGroup 28 = .ok (.invokevirtual 68, 3) := by decide +kernel
theorem dX3_readGroup_31 : decode cX3_readGroup 31 = .ok (.pop, 1) := by decide +kernel
theorem dX3_readGroup_32 : decode cX3_readGroup 32 = .ok (.return_, 1) := by decide +kernel
theorem dX3_readOutdoors_0 : decode cX3_readOutdoors 0 = .ok (.aload_n 0, 1) := by decide +kernel
theorem dX3_readOutdoors_1 : decode cX3_readOutdoors 1 = .ok (.dup, 1) := by decide +kernel
theorem dX3_readOutdoors_2 : decode cX3_readOutdoors 2 = .ok (.getfield 24, 3) := by decide +kernel
theorem dX3_readOutdoors_5 : decode cX3_readOutdoors 5 = .ok (.iconst 1, 1) := by decide +kernel
theorem dX3_readOutdoors_6 : decode cX3_readOutdoors 6 = .ok (.iadd, 1) := by decide +kernel
theorem dX3_readOutdoors_7 : decode cX3_readOutdoors 7 = .ok (.putfield 24, 3) := by decide +kernel
theorem dX3_readOutdoors_10 : decode cX3_readOutdoors 10 = .ok (.aload_n 0, 1) := by decide +kernel
theorem dX3_readOutdoors_11 : decode cX3_readOutdoors 11 = .ok (.invokevirtual 30, 3) := by decide +kernel
theorem dX3_readOutdoors_14 : decode cX3_readOutdoors 14 = .ok (.bipush 45, 2) := by decide +kernel
theorem dX3_readOutdoors_16 : decode cX3_readOutdoors 16 = .ok (.if_icmp .ne 7, 3) := by decide +kernel
theorem dX3_readOutdoors_19 : decode cX3_readOutdoors 19 = .ok (.iconst 1, 1) := by decide +kernel
theorem dX3_readOutdoors_20 : decode cX3_readOutdoors 20 = .ok (.goto 4, 3) := by decide +kernel
theorem dX3_readOutdoors_23 : decode cX3_readOutdoors 23 = .ok (.iconst 0, 1) := by decide +kernel
theorem dX3_readOutdoors_24 : decode cX3_readOutdoors 24 = .ok (.istore_n 2, 1) := by decide +kernel
theorem dX3_readOutdoors_25 : decode cX3_readOutdoors 25 = .ok (.aload_n 0, 1) := by decide +kernel
theorem dX3_readOutdoors_26 : decode cX3_readOutdoors 26 = .ok (.iload_n 2, 1) := by decide +kernel
theorem dX3_readOutdoors_27 : decode cX3_readOutdoors 27 = .ok (.ifCond .ne 12, 3) := by decide +kernel
theorem dX3_readOutdoors_30 : decode cX3_readOutdoors 30 = .ok (.aload_n 0, 1) := by decide +kernel
theorem dX3_readOutdoors_31 : decode cX3_readOutdoors 31 = .ok (.invokevirtual 30, 3) := by decide +kernel
theorem dX3_readOutdoors_34 : decode cX3_readOutdoors 34 = .ok (.bipush 43, 2) := by decide +kernel
theorem dX3_readOutdoors_36 : decode cX3_readOutdoors 36 = .ok (.if_icmp .ne 7, 3) := by decide +kernel
theorem dX3_readOutdoors_39 : decode cX3_readOutdoors 39 = .ok (.iconst 1, 1) := by decide +kernel
theorem dX3_readOutdoors_40 : decode cX3_readOutdoors 40 = .ok (.goto 4, 3) := by decide +kernel
theorem dX3_readOutdoors_43 : decode cX3_readOutdoors 43 = .ok (.iconst 0, 1) := by decide +kernel
theorem dX3_readOutdoors_44 : decode cX3_readOutdoors 44 = .ok (.invokevirtual 34, 3) := by decide +kernel
theorem dX3_readOutdoors_47 : decode cX3_readOutdoors 47 = .ok (.iload_n 2, 1) := by decide +kernel
theorem dX3_readOutdoors_48 : decode cX3_readOutdoors 48 = .ok (.ifCond .eq 14, 3) := by decide +kernel
theorem dX3_readOutdoors_51 : decode cX3_readOutdoors 51 = .ok (.aload_n 0, 1) := by decide +kernel
theorem dX3_readOutdoors_52 : decode cX3_readOutdoors 52 = .ok (.iconst 2, 1) := by decide +kernel
theorem dX3_readOutdoors_53 : decode cX3_readOutdoors 53 = .ok (.iconst 1, 1) := by decide +kernel
theorem dX3_readOutdoors_54 : decode cX3_readOutdoors 54 = .ok (.bipush 20, 2) := by decide +kernel
theorem dX3_readOutdoors_56 : decode cX3_readOutdoors 56 = .ok (.invokevirtual 57, 3) := by decide +kernel
theorem dX3_readOutdoors_59 : decode cX3_readOutdoors 59 = .ok (.goto 11, 3) := by decide +kernel
theorem dX3_readOutdoors_62 : decode cX3_readOutdoors 62 = .ok (.aload_n 0, 1) := by decide +kernel
theorem dX3_readOutdoors_63 : decode cX3_readOutdoors 63 = .ok (.iconst 2, 1) := by decide +kernel
theorem dX3_readOutdoors_64 : decode cX3_readOutdoors 64 = .ok (.iconst 0, 1) := by decide +kernel
theorem dX3_readOutdoors_65 : decode cX3_readOutdoors 65 = .ok (.bipush 25, 2) := by decide +kernel
theorem dX3_readOutdoors_67 : decode cX3_readOutdoors 67 = .ok (.invokevirtual 57, 3) := by decide +kernel
theorem dX3_readOutdoors_70 : decode cX3_readOutdoors 70 = .ok (.istore_n 3, 1) := by decide +kernel
theorem dX3_readOutdoors_71 : decode cX3_readOutdoors 71 = .ok (.aload_n 0, 1) := by decide +kernel
theorem dX3_readOutdoors_72 : decode cX3_readOutdoors 72 = .ok (.getfield 27, 3) := by decide +kernel
theorem dX3_readOutdoors_75 : decode cX3_readOutdoors 75 = .ok (.bipush (-99), 2) := by decide +kernel
theorem dX3_readOutdoors_77 : decode cX3_readOutdoors 77 = .ok (.if_icmp .ne 17, 3) := by decide +kernel
theorem dX3_readOutdoors_80 : decode cX3_readOutdoors 80 = .ok (.aload_n 1, 1) := by decide +kernel
theorem dX3_readOutdoors_81 : decode cX3_readOutdoors 81 = .ok (.iload_n 2, 1) := by decide +kernel
theorem dX3_readOutdoors_82 : decode cX3_readOutdoors 82 = .ok (.ifCond .eq 8, 3) := by decide +kernel
theorem dX3_readOutdoors_85 : decode cX3_readOutdoors 85 = .ok (.iload_n 3, 1) := by decide +kernel
theorem dX3_readOutdoors_86 : decode cX3_readOutdoors 86 = .ok (.ineg, 1) := by decide +kernel
theorem dX3_readOutdoors_87 : decode cX3_readOutdoors 87 = .ok (.goto 4, 3) := by decide +kernel
theorem dX3_readOutdoors_90 : decode cX3_readOutdoors 90 = .ok (.iload_n 3, 1) := by decide +kernel
theorem dX3_readOutdoors_91 : decode cX3_readOutdoors 91 = .ok (.putfield 71, 3) := by decide +kernel
theorem dX3_readOutdoors_94 : decode cX3_readOutdoors 94 = .ok (.return_, 1) := by decide +kernel
theorem dX3_readBooking_0 : decode cX3_readBooking 0 = .ok (.aload_n 0, 1) := by decide +kernel
theorem dX3_readBooking_1 : decode cX3_readBooking 1 = .ok (.getfield 24, 3) := by decide +kernel
theorem dX3_readBooking_4 : decode cX3_readBooking 4 = .ok (.istore_n 2, 1) := by decide +kernel
theorem dX3_readBooking_5 : decode cX3_readBooking 5 = .ok (.aload_n 0, 1) := by decide +kernel
theorem dX3_readBooking_6 : decode cX3_readBooking 6 = .ok (.aload_n 1, 1) := by decide +kernel
theorem dX3_readBooking_7 : decode cX3_readBooking 7 = .ok (.getfield 54, 3) := by decide +kernel
theorem dX3_readBooking_10 : decode cX3_readBooking 10 = .ok (.ifCond .le 23, 3) := by decide +kernel
theorem dX3_readBooking_13 : decode cX3_readBooking 13 = .ok (.aload_n 1, 1) := by decide +kernel
theorem dX3_readBooking_14 : decode cX3_readBooking 14 = .ok (.getfield 65, 3) := by decide +kernel
theorem dX3_readBooking_17 : decode cX3_readBooking 17 = .ok (.ifCond .le 16, 3) := by decide +kernel
theorem dX3_readBooking_20 : decode cX3_readBooking 20 = .ok (.aload_n 1, 1) := by decide +kernel
theorem dX3_readBooking_21 : decode cX3_readBooking 21 = .ok (.getfield 74, 3) := by decide +kernel
theorem dX3_readBooking_24 : decode cX3_readBooking 24 = .ok (.bipush 12, 2) := by decide +kernel
theorem dX3_readBooking_26 : decode cX3_readBooking 26 = .ok (.if_icmp .ge 7, 3) := by decide +kernel
theorem dX3_readBooking_29 : decode cX3_readBooking 29 = .ok (.iconst 1, 1) := by decide +kernel
theorem dX3_readBooking_30 : decode cX3_readBooking 30 = .ok (.goto 4, 3) := by decide +kernel
theorem dX3_readBooking_33 : decode cX3_readBooking 33 = .ok (.iconst 0, 1) := by decide +kernel
theorem dX3_readBooking_34 : decode cX3_readBooking 34 = .ok (.invokevirtual 34, 3) := by decide +kernel
theorem dX3_readBooking_37 : decode cX3_readBooking 37 = .ok (.aload_n 0, 1) := by decide +kernel
theorem dX3_readBooking_38 : decode cX3_readBooking 38 = .ok (.iconst 1, 1) := by decide +kernel
theorem dX3_readBooking_39 : decode cX3_readBooking 39 = .ok (.iconst 0, 1) := by decide +kernel
theorem dX3_readBooking_40 : decode cX3_readBooking 40 = .ok (.aload_n 1, 1) := by decide +kernel
theorem dX3_readBooking_41 : decode cX3_readBooking 41 = .ok (.getfield 54, 3) := by decide +kernel
theorem dX3_readBooking_44 : decode cX3_readBooking 44 = .ok (.iconst 1, 1) := by decide +kernel
theorem dX3_readBooking_45 : decode cX3_readBooking 45 = .ok (.isub, 1) := by decide +kernel
theorem dX3_readBooking_46 : decode cX3_readBooking 46 = .ok (.invokevirtual 57, 3) := by decide +kernel
theorem dX3_readBooking_49 : decode cX3_readBooking 49 = .ok (.istore_n 3, 1) := by decide +kernel
theorem dX3_readBooking_50 : decode cX3_readBooking 50 = .ok (.aload_n 0, 1) := by decide +kernel
theorem dX3_readBooking_51 : decode cX3_readBooking 51 = .ok (.iconst 1, 1) := by decide +kernel
theorem dX3_readBooking_52 : decode cX3_readBooking 52 = .ok (.iconst 0, 1) := by decide +kernel
theorem dX3_readBooking_53 : decode cX3_readBooking 53 = .ok (.aload_n 1, 1) := by decide +kernel
theorem dX3_readBooking_54 : decode cX3_readBooking 54 = .ok (.getfield 65, 3) := by decide +kernel
theorem dX3_readBooking_57 : decode cX3_readBooking 57 = .ok (.iconst 1, 1) := by decide +kernel
theorem dX3_readBooking_58 : decode cX3_readBooking 58 = .ok (.isub, 1) := by decide +kernel
theorem dX3_readBooking_59 : decode cX3_readBooking 59 = .ok (.invokevirtual 57, 3) := by decide +kernel
theorem dX3_readBooking_62 : decode cX3_readBooking 62 = .ok (.istore 4, 2) := by decide +kernel
theorem dX3_readBooking_64 : decode cX3_readBooking 64 = .ok (.aload_n 0, 1) := by decide +kernel
theorem dX3_readBooking_65 : decode cX3_readBooking 65 = .ok (.iconst 3, 1) := by decide +kernel
theorem dX3_readBooking_66 : decode cX3_readBooking 66 = .ok (.iconst 0, 1) := by decide +kernel
theorem dX3_readBooking_67 : decode cX3_readBooking 67 = .ok (.sipush 199, 3) := by decide +kernel
theorem dX3_readBooking_70 : decode cX3_readBooking 70 = .ok (.invokevirtual 57, 3) := by decide +kernel
theorem dX3_readBooking_73 : decode cX3_readBooking 73 = .ok (.istore 5, 2) := by decide +kernel
theorem dX3_readBooking_75 : decode cX3_readBooking 75 = .ok (.aload_n 0, 1) := by decide +kernel
theorem dX3_readBooking_76 : decode cX3_readBooking 76 = .ok (.iconst 2, 1) := by decide +kernel
theorem dX3_readBooking_77 : decode cX3_readBooking 77 = .ok (.iconst 1, 1) := by decide +kernel
theorem dX3_readBooking_78 : decode cX3_readBooking 78 = .ok (.bipush 12, 2) := by decide +kernel
theorem dX3_readBooking_80 : decode cX3_readBooking 80 = .ok (.invokevirtual 57, 3) := by decide +kernel
theorem dX3_readBooking_83 : decode cX3_readBooking 83 = .ok (.istore 6, 2) := by decide +kernel
theorem dX3_readBooking_85 : decode cX3_readBooking 85 = .ok (.aload_n 0, 1) := by decide +kernel
theorem dX3_readBooking_86 : decode cX3_readBooking 86 = .ok (.iconst 2, 1) := by decide +kernel
theorem dX3_readBooking_87 : decode cX3_readBooking 87 = .ok (.bipush 12, 2) := by decide +kernel
theorem dX3_readBooking_89 : decode cX3_readBooking 89 = .ok (.bipush 25, 2) := by decide +kernel
theorem dX3_readBooking_91 : decode cX3_readBooking 91 = .ok (.invokevirtual 57, 3) := by decide +kernel
theorem dX3_readBooking_94 : decode cX3_readBooking 94 = .ok (.istore 7, 2) := by decide +kernel
theorem dX3_readBooking_96 : decode cX3_readBooking 96 = .ok (.aload_n 0, 1) := by decide +kernel
theorem dX3_readBooking_97 : decode cX3_readBooking 97 = .ok (.getfield 27, 3) := by decide +kernel
theorem dX3_readBooking_100 : decode cX3_readBooking 100 = .ok (.bipush (-99), 2) := by decide +kernel
theorem dX3_readBooking_102 : decode cX3_readBooking 102 = .ok (.if_icmp .eq 4, 3) := by decide +kernel
theorem dX3_readBooking_105 : decode cX3_readBooking 105 = .ok (.return_, 1) := by decide +kernel
theorem dX3_readBooking_106 : decode cX3_readBooking 106 = .ok (.aload_n 1, 1) := by decide +kernel
theorem dX3_readBooking_107 : decode cX3_readBooking 107 = .ok (.iload_n 3, 1) := by decide +kernel
theorem dX3_readBooking_108 : decode cX3_readBooking 108 = .ok (.iload 5, 2) := by decide +kernel
theorem dX3_readBooking_110 : decode cX3_readBooking 110 = .ok (.iload 6, 2) := by decide +kernel
theorem dX3_readBooking_112 : decode cX3_readBooking 112 = .ok (.invokevirtual 77, 3) := by decide +kernel
theorem dX3_readBooking_115 : decode cX3_readBooking 115 = .ok (.ifCond .eq 20, 3) := by decide +kernel
theorem dX3_readBooking_118 : decode cX3_readBooking 118 = .ok (.aload_n 1, 1) := by decide +kernel
theorem dX3_readBooking_119 : decode cX3_readBooking 119 = .ok (.iload_n 3, 1) := by decide +kernel
theorem dX3_readBooking_120 : decode cX3_readBooking 120 = .ok (.iload 4, 2) := by decide +kernel
theorem dX3_readBooking_122 : decode cX3_readBooking 122 = .ok (.iload 5, 2) := by decide +kernel
theorem dX3_readBooking_124 : decode cX3_readBooking 124 = .ok (.iload 6, 2) := by decide +kernel
theorem dX3_readBooking_126 : decode cX3_readBooking 126 = .ok (.iload 7, 2) := by decide +kernel
theorem dX3_readBooking_128 : decode cX3_readBooking 128 = .ok (.invokevirtual 81, 3) := by decide +kernel
theorem dX3_readBooking_131 : decode cX3_readBooking 131 = .ok (.pop, 1) := by decide +kernel
theorem dX3_readBooking_132 : decode cX3_readBooking 132 = .ok (.goto 8, 3) := by decide +kernel
theorem dX3_readBooking_135 : decode cX3_readBooking 135 = .ok (.aload_n 0, 1) := by decide +kernel
theorem dX3_readBooking_136 : decode cX3_readBooking 136 = .ok (.iload_n 2, 1) := by decide +kernel
theorem dX3_readBooking_137 : decode cX3_readBooking 137 = .ok (.putfield 27, 3) := by decide +kernel
theorem dX3_readBooking_140 : decode cX3_readBooking 140 = .ok (.return_, 1) := by decide +kernel
theorem dX3_sign_0 : decode cX3_sign 0 = .ok (.aload_n 0, 1) := by decide +kernel
theorem dX3_sign_1 : decode cX3_sign 1 = .ok (.getfield 24, 3) := by decide +kernel
theorem dX3_sign_4 : decode cX3_sign 4 = .ok (.ifCond .lt 38, 3) := by decide +kernel
theorem dX3_sign_7 : decode cX3_sign 7 = .ok (.aload_n 0, 1) := by decide +kernel
theorem dX3_sign_8 : decode cX3_sign 8 = .ok (.getfield 24, 3) := by decide +kernel
theorem dX3_sign_11 : decode cX3_sign 11 = .ok (.aload_n 0, 1) := by decide +kernel
theorem dX3_sign_12 : decode cX3_sign 12 = .ok (.getfield 15, 3) := by decide +kernel
theorem dX3_sign_15 : decode cX3_sign 15 = .ok (.if_icmp .ge 27, 3) := by decide +kernel
theorem dX3_sign_18 : decode cX3_sign 18 = .ok (.aload_n 0, 1) := by decide +kernel
theorem dX3_sign_19 : decode cX3_sign 19 = .ok (.getfield 24, 3) := by decide +kernel
theorem dX3_sign_22 : decode cX3_sign 22 = .ok (.aload_n 0, 1) := by decide +kernel
theorem dX3_sign_23 : decode cX3_sign 23 = .ok (.getfield 9, 3) := by decide +kernel
theorem dX3_sign_26 : decode cX3_sign 26 = .ok (.arraylength, 1) := by decide +kernel
theorem dX3_sign_27 : decode cX3_sign 27 = .ok (.if_icmp .ge 15, 3) := by decide +kernel
theorem dX3_sign_30 : decode cX3_sign 30 = .ok (.aload_n 0, 1) := by decide +kernel
theorem dX3_sign_31 : decode cX3_sign 31 = .ok (.getfield 9, 3) := by decide +kernel
theorem dX3_sign_34 : decode cX3_sign 34 = .ok (.aload_n 0, 1) := by decide +kernel
theorem dX3_sign_35 : decode cX3_sign 35 = .ok (.getfield 24, 3) := by decide +kernel
theorem dX3_sign_38 : decode cX3_sign 38 = .ok (.iaload, 1) := by decide +kernel
theorem dX3_sign_39 : decode cX3_sign 39 = .ok (.goto 4, 3) := by decide +kernel
theorem dX3_sign_42 : decode cX3_sign 42 = .ok (.iconst (-1), 1) := by decide +kernel
theorem dX3_sign_43 : decode cX3_sign 43 = .ok (.ireturn, 1) := by decide +kernel
theorem dX3_require_0 : decode cX3_require 0 = .ok (.aload_n 0, 1) := by decide +kernel
theorem dX3_require_1 : decode cX3_require 1 = .ok (.getfield 27, 3) := by decide +kernel
theorem dX3_require_4 : decode cX3_require 4 = .ok (.bipush (-99), 2) := by decide +kernel
theorem dX3_require_6 : decode cX3_require 6 = .ok (.if_icmp .eq 4, 3) := by decide +kernel
theorem dX3_require_9 : decode cX3_require 9 = .ok (.return_, 1) := by decide +kernel
theorem dX3_require_10 : decode cX3_require 10 = .ok (.iload_n 1, 1) := by decide +kernel
theorem dX3_require_11 : decode cX3_require 11 = .ok (.ifCond .eq 16, 3) := by decide +kernel
theorem dX3_require_14 : decode cX3_require 14 = .ok (.aload_n 0, 1) := by decide +kernel
theorem dX3_require_15 : decode cX3_require 15 = .ok (.dup, 1) := by decide +kernel
theorem dX3_require_16 : decode cX3_require 16 = .ok (.getfield 24, 3) := by decide +kernel
theorem dX3_require_19 : decode cX3_require 19 = .ok (.iconst 1, 1) := by decide +kernel
theorem dX3_require_20 : decode cX3_require 20 = .ok (.iadd, 1) := by decide +kernel
theorem dX3_require_21 : decode cX3_require 21 = .ok (.putfield 24, 3) := by decide +kernel
theorem dX3_require_24 : decode cX3_require 24 = .ok (.goto 11, 3) := by decide +kernel
theorem dX3_require_27 : decode cX3_require 27 = .ok (.aload_n 0, 1) := by decide +kernel
theorem dX3_require_28 : decode cX3_require 28 = .ok (.aload_n 0, 1) := by decide +kernel
theorem dX3_require_29 : decode cX3_require 29 = .ok (.getfield 24, 3) := by decide +kernel
theorem dX3_require_32 : decode cX3_require 32 = .ok (.putfield 27, 3) := by decide +kernel
theorem dX3_require_35 : decode cX3_require 35 = .ok (.return_, 1) := by decide +kernel
theorem dX3_readNumber_0 : decode cX3_readNumber 0 = .ok (.iconst 1, 1) := by decide +kernel
theorem dX3_readNumber_1 : decode cX3_readNumber 1 = .ok (.istore 4, 2) := by decide +kernel
theorem dX3_readNumber_3 : decode cX3_readNumber 3 = .ok (.iconst 1, 1) := by decide +kernel
theorem dX3_readNumber_4 : decode cX3_readNumber 4 = .ok (.istore 5, 2) := by decide +kernel
theorem dX3_readNumber_6 : decode cX3_readNumber 6 = .ok (.iload 5, 2) := by decide +kernel
theorem dX3_readNumber_8 : decode cX3_readNumber 8 = .ok (.iload_n 1, 1) := by decide +kernel
theorem dX3_readNumber_9 : decode cX3_readNumber 9 = .ok (.if_icmp .ge 16, 3) := by decide +kernel
theorem dX3_readNumber_12 : decode cX3_readNumber 12 = .ok (.iload 4, 2) := by decide +kernel
theorem dX3_readNumber_14 : decode cX3_readNumber 14 = .ok (.bipush 10, 2) := by decide +kernel
theorem dX3_readNumber_16 : decode cX3_readNumber 16 = .ok (.imul, 1) := by decide +kernel
theorem dX3_readNumber_17 : decode cX3_readNumber 17 = .ok (.istore 4, 2) := by decide +kernel
theorem dX3_readNumber_19 : decode cX3_readNumber 19 = .ok (.iinc 5 1, 3) := by decide +kernel
theorem dX3_readNumber_22 : decode cX3_readNumber 22 = .ok (.goto (-16), 3) := by decide +kernel
theorem dX3_readNumber_25 : decode cX3_readNumber 25 = .ok (.iconst 0, 1) := by decide +kernel
theorem dX3_readNumber_26 : decode cX3_readNumber 26 = .ok (.istore 5, 2) := by decide +kernel
theorem dX3_readNumber_28 : decode cX3_readNumber 28 = .ok (.iconst 0, 1) := by decide +kernel
theorem dX3_readNumber_29 : decode cX3_readNumber 29 = .ok (.istore 6, 2) := by decide +kernel
theorem dX3_readNumber_31 : decode cX3_readNumber 31 = .ok (.iload 6, 2) := by decide +kernel
theorem dX3_readNumber_33 : decode cX3_readNumber 33 = .ok (.iload_n 1, 1) := by decide +kernel
theorem dX3_readNumber_34 : decode cX3_readNumber 34 = .ok (.if_icmp .ge 73, 3) := by decide +kernel
theorem dX3_readNumber_37 : decode cX3_readNumber 37 = .ok (.aload_n 0, 1) := by decide +kernel
theorem dX3_readNumber_38 : decode cX3_readNumber 38 = .ok (.invokevirtual 30, 3) := by decide +kernel
theorem dX3_readNumber_41 : decode cX3_readNumber 41 = .ok (.bipush 48, 2) := by decide +kernel
theorem dX3_readNumber_43 : decode cX3_readNumber 43 = .ok (.isub, 1) := by decide +kernel
theorem dX3_readNumber_44 : decode cX3_readNumber 44 = .ok (.istore 7, 2) := by decide +kernel
theorem dX3_readNumber_46 : decode cX3_readNumber 46 = .ok (.iload 5, 2) := by decide +kernel
theorem dX3_readNumber_48 : decode cX3_readNumber 48 = .ok (.iload 7, 2) := by decide +kernel
theorem dX3_readNumber_50 : decode cX3_readNumber 50 = .ok (.iload 4, 2) := by decide +kernel
theorem dX3_readNumber_52 : decode cX3_readNumber 52 = .ok (.imul, 1) := by decide +kernel
theorem dX3_readNumber_53 : decode cX3_readNumber 53 = .ok (.iadd, 1) := by decide +kernel
theorem dX3_readNumber_54 : decode cX3_readNumber 54 = .ok (.istore 5, 2) := by decide +kernel
theorem dX3_readNumber_56 : decode cX3_readNumber 56 = .ok (.aload_n 0, 1) := by decide +kernel
theorem dX3_readNumber_57 : decode cX3_readNumber 57 = .ok (.iload 7, 2) := by decide +kernel
theorem dX3_readNumber_59 : decode cX3_readNumber 59 = .ok (.ifCond .lt 31, 3) := by decide +kernel
theorem dX3_readNumber_62 : decode cX3_readNumber 62 = .ok (.iload 7, 2) := by decide +kernel
theorem dX3_readNumber_64 : decode cX3_readNumber 64 = .ok (.bipush 9, 2) := by decide +kernel
theorem dX3_readNumber_66 : decode cX3_readNumber 66 = .ok (.if_icmp .gt 24, 3) := by decide +kernel
theorem dX3_readNumber_69 : decode cX3_readNumber 69 = .ok (.iload 5, 2) := by decide +kernel
theorem dX3_readNumber_71 : decode cX3_readNumber 71 = .ok (.iload_n 3, 1) := by decide +kernel
theorem dX3_readNumber_72 : decode cX3_readNumber 72 = .ok (.if_icmp .gt 18, 3) := by decide +kernel
theorem dX3_readNumber_75 : decode cX3_readNumber 75 = .ok (.iload 5, 2) := by decide +kernel
theorem dX3_readNumber_77 : decode cX3_readNumber 77 = .ok (.iload 4, 2) := by decide +kernel
theorem dX3_readNumber_79 : decode cX3_readNumber 79 = .ok (.iadd, 1) := by decide +kernel
theorem dX3_readNumber_80 : decode cX3_readNumber 80 = .ok (.iconst 1, 1) := by decide +kernel
theorem dX3_readNumber_81 : decode cX3_readNumber 81 = .ok (.isub, 1) := by decide +kernel
theorem dX3_readNumber_82 : decode cX3_readNumber 82 = .ok (.iload_n 2, 1) := by decide +kernel
theorem dX3_readNumber_83 : decode cX3_readNumber 83 = .ok (.if_icmp .lt 7, 3) := by decide +kernel
theorem dX3_readNumber_86 : decode cX3_readNumber 86 = .ok (.iconst 1, 1) := by decide +kernel
theorem dX3_readNumber_87 : decode cX3_readNumber 87 = .ok (.goto 4, 3) := by decide +kernel
theorem dX3_readNumber_90 : decode cX3_readNumber 90 = .ok (.iconst 0, 1) := by decide +kernel
theorem dX3_readNumber_91 : decode cX3_readNumber 91 = .ok (.invokevirtual 34, 3) := by decide +kernel
theorem dX3_readNumber_94 : decode cX3_readNumber 94 = .ok (.iload 4, 2) := by decide +kernel
theorem dX3_readNumber_96 : decode cX3_readNumber 96 = .ok (.bipush 10, 2) := by decide +kernel
theorem dX3_readNumber_98 : decode cX3_readNumber 98 = .ok (.idiv, 1) := by decide +kernel
theorem dX3_readNumber_99 : decode cX3_readNumber 99 = .ok (.istore 4, 2) := by decide +kernel
theorem dX3_readNumber_101 : decode cX3_readNumber 101 = .ok (.iinc 6 1, 3) := by decide +kernel
theorem dX3_readNumber_104 : decode cX3_readNumber 104 = .ok (.goto (-73), 3) := by decide +kernel
theorem dX3_readNumber_107 : decode cX3_readNumber 107 = .ok (.iload 5, 2) := by decide +kernel
theorem dX3_readNumber_109 : decode cX3_readNumber 109 = .ok (.ireturn, 1) := by decide +kernel
theorem dX4_init_0 : decode cX4_init 0 = .ok (.aload_n 0, 1) := by decide +kernel
theorem dX4_init_1 : decode cX4_init 1 = .ok (.invokespecial 3, 3) := by decide +kernel
theorem dX4_init_4 : decode cX4_init 4 = .ok (.aload_n 0, 1) := by decide +kernel
theorem dX4_init_5 : decode cX4_init 5 = .ok (.bipush 14, 2) := by decide +kernel
theorem dX4_init_7 : decode cX4_init 7 = .ok (.anewarray 9, 3) := by decide +kernel
theorem dX4_init_10 : decode cX4_init 10 = .ok (.putfield 11, 3) := by decide +kernel
theorem dX4_init_13 : decode cX4_init 13 = .ok (.iconst 0, 1) := by decide +kernel
theorem dX4_init_14 : decode cX4_init 14 = .ok (.istore_n 1, 1) := by decide +kernel
theorem dX4_init_15 : decode cX4_init 15 = .ok (.iload_n 1, 1) := by decide +kernel
theorem dX4_init_16 : decode cX4_init 16 = .ok (.aload_n 0, 1) := by decide +kernel
theorem dX4_init_17 : decode cX4_init 17 = .ok (.getfield 11, 3) := by decide +kernel
theorem dX4_init_20 : decode cX4_init 20 = .ok (.arraylength, 1) := by decide +kernel
theorem dX4_init_21 : decode cX4_init 21 = .ok (.if_icmp .ge 22, 3) := by decide +kernel
theorem dX4_init_24 : decode cX4_init 24 = .ok (.aload_n 0, 1) := by decide +kernel
theorem dX4_init_25 : decode cX4_init 25 = .ok (.getfield 11, 3) := by decide +kernel
theorem dX4_init_28 : decode cX4_init 28 = .ok (.iload_n 1, 1) := by decide +kernel
theorem dX4_init_29 : decode cX4_init 29 = .ok (.new 9, 3) := by decide +kernel
theorem dX4_init_32 : decode cX4_init 32 = .ok (.dup, 1) := by decide +kernel
theorem dX4_init_33 : decode cX4_init 33 = .ok (.invokespecial 17, 3) := by decide +kernel
theorem dX4_init_36 : decode cX4_init 36 = .ok (.aastore, 1) := by decide +kernel
theorem dX4_init_37 : decode cX4_init 37 = .ok (.iinc 1 1, 3) := by decide +kernel
theorem dX4_init_40 : decode cX4_init 40 = .ok (.goto (-25), 3) := by decide +kernel
theorem dX4_init_43 : decode cX4_init 43 = .ok (.return_, 1) := by decide +kernel
theorem dX4_remember_0 : decode cX4_remember 0 = .ok (.aload_n 0, 1) := by decide +kernel
theorem dX4_remember_1 : decode cX4_remember 1 = .ok (.getfield 11, 3) := by decide +kernel
theorem dX4_remember_4 : decode cX4_remember 4 = .ok (.aload_n 0, 1) := by decide +kernel
theorem dX4_remember_5 : decode cX4_remember 5 = .ok (.getfield 18, 3) := by decide +kernel
theorem dX4_remember_8 : decode cX4_remember 8 = .ok (.aaload, 1) := by decide +kernel
theorem dX4_remember_9 : decode cX4_remember 9 = .ok (.aload_n 1, 1) := by decide +kernel
theorem dX4_remember_10 : decode cX4_remember 10 = .ok (.invokevirtual 22, 3) := by decide +kernel
theorem dX4_remember_13 : decode cX4_remember 13 = .ok (.aload_n 0, 1) := by decide +kernel
theorem dX4_remember_14 : decode cX4_remember 14 = .ok (.aload_n 0, 1) := by decide +kernel
theorem dX4_remember_15 : decode cX4_remember 15 = .ok (.getfield 18, 3) := by decide +kernel
theorem dX4_remember_18 : decode cX4_remember 18 = .ok (.iconst 1, 1) := by decide +kernel
theorem dX4_remember_19 : decode cX4_remember 19 = .ok (.iadd, 1) := by decide +kernel
theorem dX4_remember_20 : decode cX4_remember 20 = .ok (.bipush 14, 2) := by decide +kernel
theorem dX4_remember_22 : decode cX4_remember 22 = .ok (.irem, 1) := by decide +kernel
theorem dX4_remember_23 : decode cX4_remember 23 = .ok (.putfield 18, 3) := by decide +kernel
theorem dX4_remember_26 : decode cX4_remember 26 = .ok (.aload_n 0, 1) := by decide +kernel
theorem dX4_remember_27 : decode cX4_remember 27 = .ok (.aload_n 0, 1) := by decide +kernel
theorem dX4_remember_28 : decode cX4_remember 28 = .ok (.getfield 26, 3) := by decide +kernel
theorem dX4_remember_31 : decode cX4_remember 31 = .ok (.iconst 1, 1) := by decide +kernel
theorem dX4_remember_32 : decode cX4_remember 32 = .ok (.iadd, 1) := by decide +kernel
theorem dX4_remember_33 : decode cX4_remember 33 = .ok (.bipush 14, 2) := by decide +kernel
theorem dX4_remember_35 : decode cX4_remember 35 = .ok (.invokestatic 29, 3) := by decide +kernel
theorem dX4_remember_38 : decode cX4_remember 38 = .ok (.putfield 26, 3) := by decide +kernel
theorem dX4_remember_41 : decode cX4_remember 41 = .ok (.return_, 1) := by decide +kernel
theorem dX4_takeBack_0 : decode cX4_takeBack 0 = .ok (.aload_n 0, 1) := by decide +kernel
theorem dX4_takeBack_1 : decode cX4_takeBack 1 = .ok (.getfield 26, 3) := by decide +kernel
theorem dX4_takeBack_4 : decode cX4_takeBack 4 = .ok (.ifCond .ne 4, 3) := by decide +kernel
theorem dX4_takeBack_7 : decode cX4_takeBack 7 = .ok (.return_, 1) := by decide +kernel
theorem dX4_takeBack_8 : decode cX4_takeBack 8 = .ok (.aload_n 0, 1) := by decide +kernel
theorem dX4_takeBack_9 : decode cX4_takeBack 9 = .ok (.aload_n 0, 1) := by decide +kernel
theorem dX4_takeBack_10 : decode cX4_takeBack 10 = .ok (.getfield 18, 3) := by decide +kernel
theorem dX4_takeBack_13 : decode cX4_takeBack 13 = .ok (.bipush 14, 2) := by decide +kernel
theorem dX4_takeBack_15 : decode cX4_takeBack 15 = .ok (.iadd, 1) := by decide +kernel
theorem dX4_takeBack_16 : decode cX4_takeBack 16 = .ok (.iconst 1, 1) := by decide +kernel
theorem dX4_takeBack_17 : decode cX4_takeBack 17 = .ok (.isub, 1) := by decide +kernel
theorem dX4_takeBack_18 : decode cX4_takeBack 18 = .ok (.bipush 14, 2) := by decide +kernel
theorem dX4_takeBack_20 : decode cX4_takeBack 20 = .ok (.irem, 1) := by decide +kernel
theorem dX4_takeBack_21 : decode cX4_takeBack 21 = .ok (.putfield 18, 3) := by decide +kernel
theorem dX4_takeBack_24 : decode cX4_takeBack 24 = .ok (.aload_n 0, 1) := by decide +kernel
theorem dX4_takeBack_25 : decode cX4_takeBack 25 = .ok (.dup, 1) := by decide +kernel
theorem dX4_takeBack_26 : decode cX4_takeBack 26 = .ok (.getfield 26, 3) := by decide +kernel
theorem dX4_takeBack_29 : decode cX4_takeBack 29 = .ok (.iconst 1, 1) := by decide +kernel
theorem dX4_takeBack_30 : decode cX4_takeBack 30 = .ok (.isub, 1) := by decide +kernel
theorem dX4_takeBack_31 : decode cX4_takeBack 31 = .ok (.putfield 26, 3) := by decide +kernel
theorem dX4_takeBack_34 : decode cX4_takeBack 34 = .ok (.aload_n 1, 1) := by decide +kernel
theorem dX4_takeBack_35 : decode cX4_takeBack 35 = .ok (.aload_n 0, 1) := by decide +kernel
theorem dX4_takeBack_36 : decode cX4_takeBack 36 = .ok (.getfield 11, 3) := by decide +kernel
theorem dX4_takeBack_39 : decode cX4_takeBack 39 = .ok (.aload_n 0, 1) := by decide +kernel
theorem dX4_takeBack_40 : decode cX4_takeBack 40 = .ok (.getfield 18, 3) := by decide +kernel
theorem dX4_takeBack_43 : decode cX4_takeBack 43 = .ok (.aaload, 1) := by decide +kernel
theorem dX4_takeBack_44 : decode cX4_takeBack 44 = .ok (.invokevirtual 22, 3) := by decide +kernel
theorem dX4_takeBack_47 : decode cX4_takeBack 47 = .ok (.return_, 1) := by decide +kernel
theorem dX4_forgetAll_0 : decode cX4_forgetAll 0 = .ok (.aload_n 0, 1) := by decide +kernel
theorem dX4_forgetAll_1 : decode cX4_forgetAll 1 = .ok (.iconst 0, 1) := by decide +kernel
theorem dX4_forgetAll_2 : decode cX4_forgetAll 2 = .ok (.putfield 26, 3) := by decide +kernel
theorem dX4_forgetAll_5 : decode cX4_forgetAll 5 = .ok (.return_, 1) := by decide +kernel
theorem dX5_init_0 : decode cX5_init 0 = .ok (.aload_n 0, 1) := by decide +kernel
theorem dX5_init_1 : decode cX5_init 1 = .ok (.invokespecial 1, 3) := by decide +kernel
theorem dX5_init_4 : decode cX5_init 4 = .ok (.return_, 1) := by decide +kernel
theorem dX5_become_0 : decode cX5_become 0 = .ok (.aload_n 0, 1) := by decide +kernel
theorem dX5_become_1 : decode cX5_become 1 = .ok (.iload_n 1, 1) := by decide +kernel
theorem dX5_become_2 : decode cX5_become 2 = .ok (.putfield 7, 3) := by decide +kernel
theorem dX5_become_5 : decode cX5_become 5 = .ok (.aload_n 0, 1) := by decide +kernel
theorem dX5_become_6 : decode cX5_become 6 = .ok (.iload_n 2, 1) := by decide +kernel
theorem dX5_become_7 : decode cX5_become 7 = .ok (.putfield 13, 3) := by decide +kernel
theorem dX5_become_10 : decode cX5_become 10 = .ok (.aload_n 0, 1) := by decide +kernel
theorem dX5_become_11 : decode cX5_become 11 = .ok (.iload_n 3, 1) := by decide +kernel
theorem dX5_become_12 : decode cX5_become 12 = .ok (.putfield 16, 3) := by decide +kernel
theorem dX5_become_15 : decode cX5_become 15 = .ok (.aload_n 0, 1) := by decide +kernel
theorem dX5_become_16 : decode cX5_become 16 = .ok (.iload 4, 2) := by decide +kernel
theorem dX5_become_18 : decode cX5_become 18 = .ok (.putfield 19, 3) := by decide +kernel
theorem dX5_become_21 : decode cX5_become 21 = .ok (.return_, 1) := by decide +kernel
theorem dX5_copyFrom_0 : decode cX5_copyFrom 0 = .ok (.aload_n 0, 1) := by decide +kernel
theorem dX5_copyFrom_1 : decode cX5_copyFrom 1 = .ok (.aload_n 1, 1) := by decide +kernel
theorem dX5_copyFrom_2 : decode cX5_copyFrom 2 = .ok (.getfield 7, 3) := by decide +kernel
theorem dX5_copyFrom_5 : decode cX5_copyFrom 5 = .ok (.aload_n 1, 1) := by decide +kernel
theorem dX5_copyFrom_6 : decode cX5_copyFrom 6 = .ok (.getfield 13, 3) := by decide +kernel
theorem dX5_copyFrom_9 : decode cX5_copyFrom 9 = .ok (.aload_n 1, 1) := by decide +kernel
theorem dX5_copyFrom_10 : decode cX5_copyFrom 10 = .ok (.getfield 16, 3) := by decide +kernel
theorem dX5_copyFrom_13 : decode cX5_copyFrom 13 = .ok (.aload_n 1, 1) := by decide +kernel
theorem dX5_copyFrom_14 : decode cX5_copyFrom 14 = .ok (.getfield 19, 3) := by decide +kernel
theorem dX5_copyFrom_17 : decode cX5_copyFrom 17 = .ok (.invokevirtual 22, 3) := by decide +kernel
theorem dX5_copyFrom_20 : decode cX5_copyFrom 20 = .ok (.return_, 1) := by decide +kernel
theorem dX5_numberAbout_0 : decode cX5_numberAbout 0 = .ok (.iload_n 1, 1) := by decide +kernel
theorem dX5_numberAbout_1 : decode cX5_numberAbout 1 = .ok (.tableswitch 42 0 2 #[27, 32, 37], 27) := by decide +kernel
theorem dX5_numberAbout_28 : decode cX5_numberAbout 28 = .ok (.aload_n 0, 1) := by decide +kernel
theorem dX5_numberAbout_29 : decode cX5_numberAbout 29 = .ok (.getfield 7, 3) := by decide +kernel
theorem dX5_numberAbout_32 : decode cX5_numberAbout 32 = .ok (.ireturn, 1) := by decide +kernel
theorem dX5_numberAbout_33 : decode cX5_numberAbout 33 = .ok (.aload_n 0, 1) := by decide +kernel
theorem dX5_numberAbout_34 : decode cX5_numberAbout 34 = .ok (.getfield 13, 3) := by decide +kernel
theorem dX5_numberAbout_37 : decode cX5_numberAbout 37 = .ok (.ireturn, 1) := by decide +kernel
theorem dX5_numberAbout_38 : decode cX5_numberAbout 38 = .ok (.aload_n 0, 1) := by decide +kernel
theorem dX5_numberAbout_39 : decode cX5_numberAbout 39 = .ok (.getfield 16, 3) := by decide +kernel
theorem dX5_numberAbout_42 : decode cX5_numberAbout 42 = .ok (.ireturn, 1) := by decide +kernel
theorem dX5_numberAbout_43 : decode cX5_numberAbout 43 = .ok (.aload_n 0, 1) := by decide +kernel
theorem dX5_numberAbout_44 : decode cX5_numberAbout 44 = .ok (.getfield 19, 3) := by decide +kernel
theorem dX5_numberAbout_47 : decode cX5_numberAbout 47 = .ok (.ireturn, 1) := by decide +kernel
theorem dX5_cooled_0 : decode cX5_cooled 0 = .ok (.aload_n 0, 1) := by decide +kernel
theorem dX5_cooled_1 : decode cX5_cooled 1 = .ok (.getfield 19, 3) := by decide +kernel
theorem dX5_cooled_4 : decode cX5_cooled 4 = .ok (.aload_n 0, 1) := by decide +kernel
theorem dX5_cooled_5 : decode cX5_cooled 5 = .ok (.getfield 13, 3) := by decide +kernel
theorem dX5_cooled_8 : decode cX5_cooled 8 = .ok (.aload_n 0, 1) := by decide +kernel
theorem dX5_cooled_9 : decode cX5_cooled 9 = .ok (.getfield 19, 3) := by decide +kernel
theorem dX5_cooled_12 : decode cX5_cooled 12 = .ok (.iload_n 1, 1) := by decide +kernel
theorem dX5_cooled_13 : decode cX5_cooled 13 = .ok (.isub, 1) := by decide +kernel
theorem dX5_cooled_14 : decode cX5_cooled 14 = .ok (.imul, 1) := by decide +kernel
theorem dX5_cooled_15 : decode cX5_cooled 15 = .ok (.bipush 100, 2) := by decide +kernel
theorem dX5_cooled_17 : decode cX5_cooled 17 = .ok (.idiv, 1) := by decide +kernel
theorem dX5_cooled_18 : decode cX5_cooled 18 = .ok (.isub, 1) := by decide +kernel
theorem dX5_cooled_19 : decode cX5_cooled 19 = .ok (.ireturn, 1) := by decide +kernel
theorem dX5_warmTowards_0 : decode cX5_warmTowards 0 = .ok (.iconst 0, 1) := by decide +kernel
theorem dX5_warmTowards_1 : decode cX5_warmTowards 1 = .ok (.iload_n 1, 1) := by decide +kernel
theorem dX5_warmTowards_2 : decode cX5_warmTowards 2 = .ok (.aload_n 0, 1) := by decide +kernel
theorem dX5_warmTowards_3 : decode cX5_warmTowards 3 = .ok (.getfield 19, 3) := by decide +kernel
theorem dX5_warmTowards_6 : decode cX5_warmTowards 6 = .ok (.isub, 1) := by decide +kernel
theorem dX5_warmTowards_7 : decode cX5_warmTowards 7 = .ok (.aload_n 0, 1) := by decide +kernel
theorem dX5_warmTowards_8 : decode cX5_warmTowards 8 = .ok (.getfield 16, 3) := by decide +kernel
theorem dX5_warmTowards_11 : decode cX5_warmTowards 11 = .ok (.invokestatic 26, 3) := by decide +kernel
theorem dX5_warmTowards_14 : decode cX5_warmTowards 14 = .ok (.invokestatic 32, 3) := by decide +kernel
theorem dX5_warmTowards_17 : decode cX5_warmTowards 17 = .ok (.istore_n 2, 1) := by decide +kernel
theorem dX5_warmTowards_18 : decode cX5_warmTowards 18 = .ok (.aload_n 0, 1) := by decide +kernel
theorem dX5_warmTowards_19 : decode cX5_warmTowards 19 = .ok (.dup, 1) := by decide +kernel
theorem dX5_warmTowards_20 : decode cX5_warmTowards 20 = .ok (.getfield 19, 3) := by decide +kernel
theorem dX5_warmTowards_23 : decode cX5_warmTowards 23 = .ok (.iload_n 2, 1) := by decide +kernel
theorem dX5_warmTowards_24 : decode cX5_warmTowards 24 = .ok (.iadd, 1) := by decide +kernel
theorem dX5_warmTowards_25 : decode cX5_warmTowards 25 = .ok (.putfield 19, 3) := by decide +kernel
theorem dX5_warmTowards_28 : decode cX5_warmTowards 28 = .ok (.iload_n 2, 1) := by decide +kernel
theorem dX5_warmTowards_29 : decode cX5_warmTowards 29 = .ok (.aload_n 0, 1) := by decide +kernel
theorem dX5_warmTowards_30 : decode cX5_warmTowards 30 = .ok (.getfield 7, 3) := by decide +kernel
theorem dX5_warmTowards_33 : decode cX5_warmTowards 33 = .ok (.imul, 1) := by decide +kernel
theorem dX5_warmTowards_34 : decode cX5_warmTowards 34 = .ok (.ireturn, 1) := by decide +kernel
theorem dX6_init_0 : decode cX6_init 0 = .ok (.aload_n 0, 1) := by decide +kernel
theorem dX6_init_1 : decode cX6_init 1 = .ok (.invokespecial 1, 3) := by decide +kernel
theorem dX6_init_4 : decode cX6_init 4 = .ok (.aload_n 0, 1) := by decide +kernel
theorem dX6_init_5 : decode cX6_init 5 = .ok (.new 7, 3) := by decide +kernel
theorem dX6_init_8 : decode cX6_init 8 = .ok (.dup, 1) := by decide +kernel
theorem dX6_init_9 : decode cX6_init 9 = .ok (.invokespecial 9, 3) := by decide +kernel
theorem dX6_init_12 : decode cX6_init 12 = .ok (.putfield 10, 3) := by decide +kernel
theorem dX6_init_15 : decode cX6_init 15 = .ok (.aload_n 0, 1) := by decide +kernel
theorem dX6_init_16 : decode cX6_init 16 = .ok (.new 16, 3) := by decide +kernel
theorem dX6_init_19 : decode cX6_init 19 = .ok (.dup, 1) := by decide +kernel
theorem dX6_init_20 : decode cX6_init 20 = .ok (.invokespecial 18, 3) := by decide +kernel
theorem dX6_init_23 : decode cX6_init 23 = .ok (.putfield 19, 3) := by decide +kernel
theorem dX6_init_26 : decode cX6_init 26 = .ok (.aload_n 0, 1) := by decide +kernel
theorem dX6_init_27 : decode cX6_init 27 = .ok (.new 23, 3) := by decide +kernel
theorem dX6_init_30 : decode cX6_init 30 = .ok (.dup, 1) := by decide +kernel
theorem dX6_init_31 : decode cX6_init 31 = .ok (.invokespecial 25, 3) := by decide +kernel
theorem dX6_init_34 : decode cX6_init 34 = .ok (.putfield 26, 3) := by decide +kernel
theorem dX6_init_37 : decode cX6_init 37 = .ok (.aload_n 0, 1) := by decide +kernel
theorem dX6_init_38 : decode cX6_init 38 = .ok (.iconst 2, 1) := by decide +kernel
theorem dX6_init_39 : decode cX6_init 39 = .ok (.anewarray 16, 3) := by decide +kernel
theorem dX6_init_42 : decode cX6_init 42 = .ok (.putfield 30, 3) := by decide +kernel
theorem dX6_init_45 : decode cX6_init 45 = .ok (.aload_n 0, 1) := by decide +kernel
theorem dX6_init_46 : decode cX6_init 46 = .ok (.iconst 2, 1) := by decide +kernel
theorem dX6_init_47 : decode cX6_init 47 = .ok (.newarray .boolean, 2) := by decide +kernel
theorem dX6_init_49 : decode cX6_init 49 = .ok (.putfield 34, 3) := by decide +kernel
theorem dX6_init_52 : decode cX6_init 52 = .ok (.aload_n 0, 1) := by decide +kernel
theorem dX6_init_53 : decode cX6_init 53 = .ok (.new 38, 3) := by decide +kernel
theorem dX6_init_56 : decode cX6_init 56 = .ok (.dup, 1) := by decide +kernel
theorem dX6_init_57 : decode cX6_init 57 = .ok (.invokespecial 40, 3) := by decide +kernel
theorem dX6_init_60 : decode cX6_init 60 = .ok (.putfield 41, 3) := by decide +kernel
theorem dX6_init_63 : decode cX6_init 63 = .ok (.aload_n 0, 1) := by decide +kernel
theorem dX6_init_64 : decode cX6_init 64 = .ok (.new 16, 3) := by decide +kernel
theorem dX6_init_67 : decode cX6_init 67 = .ok (.dup, 1) := by decide +kernel
theorem dX6_init_68 : decode cX6_init 68 = .ok (.invokespecial 18, 3) := by decide +kernel
theorem dX6_init_71 : decode cX6_init 71 = .ok (.putfield 45, 3) := by decide +kernel
theorem dX6_init_74 : decode cX6_init 74 = .ok (.aload_n 0, 1) := by decide +kernel
theorem dX6_init_75 : decode cX6_init 75 = .ok (.new 16, 3) := by decide +kernel
theorem dX6_init_78 : decode cX6_init 78 = .ok (.dup, 1) := by decide +kernel
theorem dX6_init_79 : decode cX6_init 79 = .ok (.invokespecial 18, 3) := by decide +kernel
theorem dX6_init_82 : decode cX6_init 82 = .ok (.putfield 48, 3) := by decide +kernel
theorem dX6_init_85 : decode cX6_init 85 = .ok (.iconst 0, 1) := by decide +kernel
theorem dX6_init_86 : decode cX6_init 86 = .ok (.istore_n 1, 1) := by decide +kernel
theorem dX6_init_87 : decode cX6_init 87 = .ok (.iload_n 1, 1) := by decide +kernel
theorem dX6_init_88 : decode cX6_init 88 = .ok (.aload_n 0, 1) := by decide +kernel
theorem dX6_init_89 : decode cX6_init 89 = .ok (.getfield 30, 3) := by decide +kernel
theorem dX6_init_92 : decode cX6_init 92 = .ok (.arraylength, 1) := by decide +kernel
theorem dX6_init_93 : decode cX6_init 93 = .ok (.if_icmp .ge 22, 3) := by decide +kernel
theorem dX6_init_96 : decode cX6_init 96 = .ok (.aload_n 0, 1) := by decide +kernel
theorem dX6_init_97 : decode cX6_init 97 = .ok (.getfield 30, 3) := by decide +kernel
theorem dX6_init_100 : decode cX6_init 100 = .ok (.iload_n 1, 1) := by decide +kernel
theorem dX6_init_101 : decode cX6_init 101 = .ok (.new 16, 3) := by decide +kernel
theorem dX6_init_104 : decode cX6_init 104 = .ok (.dup, 1) := by decide +kernel
theorem dX6_init_105 : decode cX6_init 105 = .ok (.invokespecial 18, 3) := by decide +kernel
theorem dX6_init_108 : decode cX6_init 108 = .ok (.aastore, 1) := by decide +kernel
theorem dX6_init_109 : decode cX6_init 109 = .ok (.iinc 1 1, 3) := by decide +kernel
theorem dX6_init_112 : decode cX6_init 112 = .ok (.goto (-25), 3) := by decide +kernel
theorem dX6_init_115 : decode cX6_init 115 = .ok (.return_, 1) := by decide +kernel
theorem dX6_append_0 : decode cX6_append 0 = .ok (.iload_n 1, 1) := by decide +kernel
theorem dX6_append_1 : decode cX6_append 1 = .ok (.iconst 0, 1) := by decide +kernel
theorem dX6_append_2 : decode cX6_append 2 = .ok (.sipush 255, 3) := by decide +kernel
theorem dX6_append_5 : decode cX6_append 5 = .ok (.invokestatic 51, 3) := by decide +kernel
theorem dX6_append_8 : decode cX6_append 8 = .ok (.aload_n 0, 1) := by decide +kernel
theorem dX6_append_9 : decode cX6_append 9 = .ok (.getfield 10, 3) := by decide +kernel
theorem dX6_append_12 : decode cX6_append 12 = .ok (.getfield 55, 3) := by decide +kernel
theorem dX6_append_15 : decode cX6_append 15 = .ok (.bipush 120, 2) := by decide +kernel
theorem dX6_append_17 : decode cX6_append 17 = .ok (.if_icmp .lt 13, 3) := by decide +kernel
theorem dX6_append_20 : decode cX6_append 20 = .ok (.new 59, 3) := by decide +kernel
theorem dX6_append_23 : decode cX6_append 23 = .ok (.dup, 1) := by decide +kernel
theorem dX6_append_24 : decode cX6_append 24 = .ok (.ldc 61, 2) := by decide +kernel
theorem dX6_append_26 : decode cX6_append 26 = .ok (.invokespecial 63, 3) := by decide +kernel
theorem dX6_append_29 : decode cX6_append 29 = .ok (.athrow, 1) := by decide +kernel
theorem dX6_append_30 : decode cX6_append 30 = .ok (.aload_n 0, 1) := by decide +kernel
theorem dX6_append_31 : decode cX6_append 31 = .ok (.getfield 10, 3) := by decide +kernel
theorem dX6_append_34 : decode cX6_append 34 = .ok (.iload_n 1, 1) := by decide +kernel
theorem dX6_append_35 : decode cX6_append 35 = .ok (.invokevirtual 66, 3) := by decide +kernel
theorem dX6_append_38 : decode cX6_append 38 = .ok (.aload_n 0, 1) := by decide +kernel
theorem dX6_append_39 : decode cX6_append 39 = .ok (.getfield 10, 3) := by decide +kernel
theorem dX6_append_42 : decode cX6_append 42 = .ok (.getfield 55, 3) := by decide +kernel
theorem dX6_append_45 : decode cX6_append 45 = .ok (.ireturn, 1) := by decide +kernel
theorem dX6_clearText_0 : decode cX6_clearText 0 = .ok (.aload_n 0, 1) := by decide +kernel
theorem dX6_clearText_1 : decode cX6_clearText 1 = .ok (.getfield 10, 3) := by decide +kernel
theorem dX6_clearText_4 : decode cX6_clearText 4 = .ok (.getfield 55, 3) := by decide +kernel
theorem dX6_clearText_7 : decode cX6_clearText 7 = .ok (.istore_n 1, 1) := by decide +kernel
theorem dX6_clearText_8 : decode cX6_clearText 8 = .ok (.aload_n 0, 1) := by decide +kernel
theorem dX6_clearText_9 : decode cX6_clearText 9 = .ok (.getfield 10, 3) := by decide +kernel
theorem dX6_clearText_12 : decode cX6_clearText 12 = .ok (.iconst 0, 1) := by decide +kernel
theorem dX6_clearText_13 : decode cX6_clearText 13 = .ok (.putfield 55, 3) := by decide +kernel
theorem dX6_clearText_16 : decode cX6_clearText 16 = .ok (.iload_n 1, 1) := by decide +kernel
theorem dX6_clearText_17 : decode cX6_clearText 17 = .ok (.ireturn, 1) := by decide +kernel
theorem dX6_errorPosition_0 : decode cX6_errorPosition 0 = .ok (.aload_n 0, 1) := by decide +kernel
theorem dX6_errorPosition_1 : decode cX6_errorPosition 1 = .ok (.getfield 10, 3) := by decide +kernel
theorem dX6_errorPosition_4 : decode cX6_errorPosition 4 = .ok (.aload_n 0, 1) := by decide +kernel
theorem dX6_errorPosition_5 : decode cX6_errorPosition 5 = .ok (.getfield 45, 3) := by decide +kernel
theorem dX6_errorPosition_8 : decode cX6_errorPosition 8 = .ok (.invokevirtual 70, 3) := by decide +kernel
theorem dX6_errorPosition_11 : decode cX6_errorPosition 11 = .ok (.ireturn, 1) := by decide +kernel
theorem dX6_load_0 : decode cX6_load 0 = .ok (.aload_n 0, 1) := by decide +kernel
theorem dX6_load_1 : decode cX6_load 1 = .ok (.getfield 10, 3) := by decide +kernel
theorem dX6_load_4 : decode cX6_load 4 = .ok (.aload_n 0, 1) := by decide +kernel
theorem dX6_load_5 : decode cX6_load 5 = .ok (.getfield 45, 3) := by decide +kernel
theorem dX6_load_8 : decode cX6_load 8 = .ok (.invokevirtual 70, 3) := by decide +kernel
theorem dX6_load_11 : decode cX6_load 11 = .ok (.bipush (-99), 2) := by decide +kernel
theorem dX6_load_13 : decode cX6_load 13 = .ok (.if_icmp .eq 13, 3) := by decide +kernel
theorem dX6_load_16 : decode cX6_load 16 = .ok (.new 59, 3) := by decide +kernel
theorem dX6_load_19 : decode cX6_load 19 = .ok (.dup, 1) := by decide +kernel
theorem dX6_load_20 : decode cX6_load 20 = .ok (.ldc 74, 2) := by decide +kernel
theorem dX6_load_22 : decode cX6_load 22 = .ok (.invokespecial 63, 3) := by decide +kernel
theorem dX6_load_25 : decode cX6_load 25 = .ok (.athrow, 1) := by decide +kernel
theorem dX6_load_26 : decode cX6_load 26 = .ok (.aload_n 0, 1) := by decide +kernel
theorem dX6_load_27 : decode cX6_load 27 = .ok (.getfield 19, 3) := by decide +kernel
theorem dX6_load_30 : decode cX6_load 30 = .ok (.aload_n 0, 1) := by decide +kernel
theorem dX6_load_31 : decode cX6_load 31 = .ok (.getfield 45, 3) := by decide +kernel
theorem dX6_load_34 : decode cX6_load 34 = .ok (.invokevirtual 76, 3) := by decide +kernel
theorem dX6_load_37 : decode cX6_load 37 = .ok (.aload_n 0, 1) := by decide +kernel
theorem dX6_load_38 : decode cX6_load 38 = .ok (.getfield 26, 3) := by decide +kernel
theorem dX6_load_41 : decode cX6_load 41 = .ok (.invokevirtual 80, 3) := by decide +kernel
theorem dX6_load_44 : decode cX6_load 44 = .ok (.iconst 0, 1) := by decide +kernel
theorem dX6_load_45 : decode cX6_load 45 = .ok (.istore_n 1, 1) := by decide +kernel
theorem dX6_load_46 : decode cX6_load 46 = .ok (.iload_n 1, 1) := by decide +kernel
theorem dX6_load_47 : decode cX6_load 47 = .ok (.aload_n 0, 1) := by decide +kernel
theorem dX6_load_48 : decode cX6_load 48 = .ok (.getfield 34, 3) := by decide +kernel
theorem dX6_load_51 : decode cX6_load 51 = .ok (.arraylength, 1) := by decide +kernel
theorem dX6_load_52 : decode cX6_load 52 = .ok (.if_icmp .ge 16, 3) := by decide +kernel
theorem dX6_load_55 : decode cX6_load 55 = .ok (.aload_n 0, 1) := by decide +kernel
theorem dX6_load_56 : decode cX6_load 56 = .ok (.getfield 34, 3) := by decide +kernel
theorem dX6_load_59 : decode cX6_load 59 = .ok (.iload_n 1, 1) := by decide +kernel
theorem dX6_load_60 : decode cX6_load 60 = .ok (.iconst 0, 1) := by decide +kernel
theorem dX6_load_61 : decode cX6_load 61 = .ok (.bastore, 1) := by decide +kernel
theorem dX6_load_62 : decode cX6_load 62 = .ok (.iinc 1 1, 3) := by decide +kernel
theorem dX6_load_65 : decode cX6_load 65 = .ok (.goto (-19), 3) := by decide +kernel
theorem dX6_load_68 : decode cX6_load 68 = .ok (.aload_n 0, 1) := by decide +kernel
theorem dX6_load_69 : decode cX6_load 69 = .ok (.getfield 19, 3) := by decide +kernel
theorem dX6_load_72 : decode cX6_load 72 = .ok (.getfield 83, 3) := by decide +kernel
theorem dX6_load_75 : decode cX6_load 75 = .ok (.ireturn, 1) := by decide +kernel
theorem dX6_about_0 : decode cX6_about 0 = .ok (.iload_n 1, 1) := by decide +kernel
theorem dX6_about_1 : decode cX6_about 1 = .ok (.iconst 0, 1) := by decide +kernel
theorem dX6_about_2 : decode cX6_about 2 = .ok (.bipush 9, 2) := by decide +kernel
theorem dX6_about_4 : decode cX6_about 4 = .ok (.invokestatic 51, 3) := by decide +kernel
theorem dX6_about_7 : decode cX6_about 7 = .ok (.aload_n 0, 1) := by decide +kernel
theorem dX6_about_8 : decode cX6_about 8 = .ok (.getfield 19, 3) := by decide +kernel
theorem dX6_about_11 : decode cX6_about 11 = .ok (.iload_n 1, 1) := by decide +kernel
theorem dX6_about_12 : decode cX6_about 12 = .ok (.invokevirtual 86, 3) := by decide +kernel
theorem dX6_about_15 : decode cX6_about 15 = .ok (.ireturn, 1) := by decide +kernel
theorem dX6_room_0 : decode cX6_room 0 = .ok (.aload_n 0, 1) := by decide +kernel
theorem dX6_room_1 : decode cX6_room 1 = .ok (.iload_n 1, 1) := by decide +kernel
theorem dX6_room_2 : decode cX6_room 2 = .ok (.invokevirtual 90, 3) := by decide +kernel
theorem dX6_room_5 : decode cX6_room 5 = .ok (.astore_n 3, 1) := by decide +kernel
theorem dX6_room_6 : decode cX6_room 6 = .ok (.iload_n 2, 1) := by decide +kernel
theorem dX6_room_7 : decode cX6_room 7 = .ok (.iconst 0, 1) := by decide +kernel
theorem dX6_room_8 : decode cX6_room 8 = .ok (.bipush 6, 2) := by decide +kernel
theorem dX6_room_10 : decode cX6_room 10 = .ok (.invokestatic 51, 3) := by decide +kernel
theorem dX6_room_13 : decode cX6_room 13 = .ok (.iload_n 2, 1) := by decide +kernel
theorem dX6_room_14 : decode cX6_room 14 = .ok (.tableswitch 53 4 6 #[26, 35, 44], 26) := by decide +kernel
theorem dX6_room_40 : decode cX6_room 40 = .ok (.aload_n 0, 1) := by decide +kernel
theorem dX6_room_41 : decode cX6_room 41 = .ok (.getfield 19, 3) := by decide +kernel
theorem dX6_room_44 : decode cX6_room 44 = .ok (.iload_n 1, 1) := by decide +kernel
theorem dX6_room_45 : decode cX6_room 45 = .ok (.invokevirtual 94, 3) := by decide +kernel
theorem dX6_room_48 : decode cX6_room 48 = .ok (.ireturn, 1) := by decide +kernel
theorem dX6_room_49 : decode cX6_room 49 = .ok (.aload_n 0, 1) := by decide +kernel
theorem dX6_room_50 : decode cX6_room 50 = .ok (.getfield 19, 3) := by decide +kernel
theorem dX6_room_53 : decode cX6_room 53 = .ok (.iload_n 1, 1) := by decide +kernel
theorem dX6_room_54 : decode cX6_room 54 = .ok (.invokevirtual 97, 3) := by decide +kernel
theorem dX6_room_57 : decode cX6_room 57 = .ok (.ireturn, 1) := by decide +kernel
theorem dX6_room_58 : decode cX6_room 58 = .ok (.aload_n 0, 1) := by decide +kernel
theorem dX6_room_59 : decode cX6_room 59 = .ok (.getfield 19, 3) := by decide +kernel
theorem dX6_room_62 : decode cX6_room 62 = .ok (.iload_n 1, 1) := by decide +kernel
theorem dX6_room_63 : decode cX6_room 63 = .ok (.invokevirtual 100, 3) := by decide +kernel
theorem dX6_room_66 : decode cX6_room 66 = .ok (.ireturn, 1) := by decide +kernel
theorem dX6_room_67 : decode cX6_room 67 = .ok (.aload_n 3, 1) := by decide +kernel
theorem dX6_room_68 : decode cX6_room 68 = .ok (.iload_n 2, 1) := by decide +kernel
theorem dX6_room_69 : decode cX6_room 69 = .ok (.invokevirtual 103, 3) := by decide +kernel
theorem dX6_room_72 : decode cX6_room 72 = .ok (.ireturn, 1) := by decide +kernel
theorem dX6_owes_0 : decode cX6_owes 0 = .ok (.aload_n 0, 1) := by decide +kernel
theorem dX6_owes_1 : decode cX6_owes 1 = .ok (.iload_n 1, 1) := by decide +kernel
theorem dX6_owes_2 : decode cX6_owes 2 = .ok (.invokevirtual 106, 3) := by decide +kernel
theorem dX6_owes_5 : decode cX6_owes 5 = .ok (.aload_n 0, 1) := by decide +kernel
theorem dX6_owes_6 : decode cX6_owes 6 = .ok (.getfield 19, 3) := by decide +kernel
theorem dX6_owes_9 : decode cX6_owes 9 = .ok (.iload_n 1, 1) := by decide +kernel
theorem dX6_owes_10 : decode cX6_owes 10 = .ok (.invokevirtual 109, 3) := by decide +kernel
theorem dX6_owes_13 : decode cX6_owes 13 = .ok (.ireturn, 1) := by decide +kernel
theorem dX6_booking_0 : decode cX6_booking 0 = .ok (.aload_n 0, 1) := by decide +kernel
theorem dX6_booking_1 : decode cX6_booking 1 = .ok (.iload_n 1, 1) := by decide +kernel
theorem dX6_booking_2 : decode cX6_booking 2 = .ok (.invokevirtual 112, 3) := by decide +kernel
theorem dX6_booking_5 : decode cX6_booking 5 = .ok (.astore_n 3, 1) := by decide +kernel
theorem dX6_booking_6 : decode cX6_booking 6 = .ok (.iload_n 2, 1) := by decide +kernel
theorem dX6_booking_7 : decode cX6_booking 7 = .ok (.iconst 0, 1) := by decide +kernel
theorem dX6_booking_8 : decode cX6_booking 8 = .ok (.bipush 9, 2) := by decide +kernel
theorem dX6_booking_10 : decode cX6_booking 10 = .ok (.invokestatic 51, 3) := by decide +kernel
theorem dX6_booking_13 : decode cX6_booking 13 = .ok (.iload_n 2, 1) := by decide +kernel
theorem dX6_booking_14 : decode cX6_booking 14 = .ok (.bipush 9, 2) := by decide +kernel
theorem dX6_booking_16 : decode cX6_booking 16 = .ok (.if_icmp .ne 23, 3) := by decide +kernel
theorem dX6_booking_19 : decode cX6_booking 19 = .ok (.aload_n 3, 1) := by decide +kernel
theorem dX6_booking_20 : decode cX6_booking 20 = .ok (.aload_n 0, 1) := by decide +kernel
theorem dX6_booking_21 : decode cX6_booking 21 = .ok (.getfield 19, 3) := by decide +kernel
theorem dX6_booking_24 : decode cX6_booking 24 = .ok (.getfield 116, 3) := by decide +kernel
theorem dX6_booking_27 : decode cX6_booking 27 = .ok (.invokevirtual 119, 3) := by decide +kernel
theorem dX6_booking_30 : decode cX6_booking 30 = .ok (.ifCond .eq 7, 3) := by decide +kernel
theorem dX6_booking_33 : decode cX6_booking 33 = .ok (.iconst 1, 1) := by decide +kernel
theorem dX6_booking_34 : decode cX6_booking 34 = .ok (.goto 4, 3) := by decide +kernel
theorem dX6_booking_37 : decode cX6_booking 37 = .ok (.iconst 0, 1) := by decide +kernel
theorem dX6_booking_38 : decode cX6_booking 38 = .ok (.ireturn, 1) := by decide +kernel
theorem dX6_booking_39 : decode cX6_booking 39 = .ok (.aload_n 3, 1) := by decide +kernel
theorem dX6_booking_40 : decode cX6_booking 40 = .ok (.iload_n 2, 1) := by decide +kernel
theorem dX6_booking_41 : decode cX6_booking 41 = .ok (.invokevirtual 125, 3) := by decide +kernel
theorem dX6_booking_44 : decode cX6_booking 44 = .ok (.ireturn, 1) := by decide +kernel
theorem dX6_addRoom_0 : decode cX6_addRoom 0 = .ok (.iload_n 1, 1) := by decide +kernel
theorem dX6_addRoom_1 : decode cX6_addRoom 1 = .ok (.iconst 1, 1) := by decide +kernel
theorem dX6_addRoom_2 : decode cX6_addRoom 2 = .ok (.bipush 9, 2) := by decide +kernel
theorem dX6_addRoom_4 : decode cX6_addRoom 4 = .ok (.invokestatic 51, 3) := by decide +kernel
theorem dX6_addRoom_7 : decode cX6_addRoom 7 = .ok (.iload_n 2, 1) := by decide +kernel
theorem dX6_addRoom_8 : decode cX6_addRoom 8 = .ok (.iconst 1, 1) := by decide +kernel
theorem dX6_addRoom_9 : decode cX6_addRoom 9 = .ok (.bipush 9, 2) := by decide +kernel
theorem dX6_addRoom_11 : decode cX6_addRoom 11 = .ok (.invokestatic 51, 3) := by decide +kernel
theorem dX6_addRoom_14 : decode cX6_addRoom 14 = .ok (.iload_n 3, 1) := by decide +kernel
theorem dX6_addRoom_15 : decode cX6_addRoom 15 = .ok (.iconst 1, 1) := by decide +kernel
theorem dX6_addRoom_16 : decode cX6_addRoom 16 = .ok (.bipush 9, 2) := by decide +kernel
theorem dX6_addRoom_18 : decode cX6_addRoom 18 = .ok (.invokestatic 51, 3) := by decide +kernel
theorem dX6_addRoom_21 : decode cX6_addRoom 21 = .ok (.iload 4, 2) := by decide +kernel
theorem dX6_addRoom_23 : decode cX6_addRoom 23 = .ok (.bipush (-10), 2) := by decide +kernel
theorem dX6_addRoom_25 : decode cX6_addRoom 25 = .ok (.bipush 30, 2) := by decide +kernel
theorem dX6_addRoom_27 : decode cX6_addRoom 27 = .ok (.invokestatic 51, 3) := by decide +kernel
theorem dX6_addRoom_30 : decode cX6_addRoom 30 = .ok (.aload_n 0, 1) := by decide +kernel
theorem dX6_addRoom_31 : decode cX6_addRoom 31 = .ok (.getfield 19, 3) := by decide +kernel
theorem dX6_addRoom_34 : decode cX6_addRoom 34 = .ok (.getfield 83, 3) := by decide +kernel
theorem dX6_addRoom_37 : decode cX6_addRoom 37 = .ok (.iconst 4, 1) := by decide +kernel
theorem dX6_addRoom_38 : decode cX6_addRoom 38 = .ok (.if_icmp .lt 13, 3) := by decide +kernel
theorem dX6_addRoom_41 : decode cX6_addRoom 41 = .ok (.new 59, 3) := by decide +kernel
theorem dX6_addRoom_44 : decode cX6_addRoom 44 = .ok (.dup, 1) := by decide +kernel
theorem dX6_addRoom_45 : decode cX6_addRoom 45 = .ok (.ldc 126, 2) := by decide +kernel
theorem dX6_addRoom_47 : decode cX6_addRoom 47 = .ok (.invokespecial 63, 3) := by decide +kernel
theorem dX6_addRoom_50 : decode cX6_addRoom 50 = .ok (.athrow, 1) := by decide +kernel
theorem dX6_addRoom_51 : decode cX6_addRoom 51 = .ok (.aload_n 0, 1) := by decide +kernel
theorem dX6_addRoom_52 : decode cX6_addRoom 52 = .ok (.getfield 26, 3) := by decide +kernel
theorem dX6_addRoom_55 : decode cX6_addRoom 55 = .ok (.aload_n 0, 1) := by decide +kernel
theorem dX6_addRoom_56 : decode cX6_addRoom 56 = .ok (.getfield 19, 3) := by decide +kernel
theorem dX6_addRoom_59 : decode cX6_addRoom 59 = .ok (.invokevirtual 128, 3) := by decide +kernel
theorem dX6_addRoom_62 : decode cX6_addRoom 62 = .ok (.aload_n 0, 1) := by decide +kernel
theorem dX6_addRoom_63 : decode cX6_addRoom 63 = .ok (.getfield 19, 3) := by decide +kernel
theorem dX6_addRoom_66 : decode cX6_addRoom 66 = .ok (.iload_n 1, 1) := by decide +kernel
theorem dX6_addRoom_67 : decode cX6_addRoom 67 = .ok (.iload_n 2, 1) := by decide +kernel
theorem dX6_addRoom_68 : decode cX6_addRoom 68 = .ok (.iload_n 3, 1) := by decide +kernel
theorem dX6_addRoom_69 : decode cX6_addRoom 69 = .ok (.iload 4, 2) := by decide +kernel
theorem dX6_addRoom_71 : decode cX6_addRoom 71 = .ok (.invokevirtual 131, 3) := by decide +kernel
theorem dX6_addRoom_74 : decode cX6_addRoom 74 = .ok (.ireturn, 1) := by decide +kernel
theorem dX6_addGroup_0 : decode cX6_addGroup 0 = .ok (.aload_n 0, 1) := by decide +kernel
theorem dX6_addGroup_1 : decode cX6_addGroup 1 = .ok (.getfield 19, 3) := by decide +kernel
theorem dX6_addGroup_4 : decode cX6_addGroup 4 = .ok (.getfield 135, 3) := by decide +kernel
theorem dX6_addGroup_7 : decode cX6_addGroup 7 = .ok (.bipush 6, 2) := by decide +kernel
theorem dX6_addGroup_9 : decode cX6_addGroup 9 = .ok (.if_icmp .lt 13, 3) := by decide +kernel
theorem dX6_addGroup_12 : decode cX6_addGroup 12 = .ok (.new 59, 3) := by decide +kernel
theorem dX6_addGroup_15 : decode cX6_addGroup 15 = .ok (.dup, 1) := by decide +kernel
theorem dX6_addGroup_16 : decode cX6_addGroup 16 = .ok (.ldc 138, 2) := by decide +kernel
theorem dX6_addGroup_18 : decode cX6_addGroup 18 = .ok (.invokespecial 63, 3) := by decide +kernel
theorem dX6_addGroup_21 : decode cX6_addGroup 21 = .ok (.athrow, 1) := by decide +kernel
theorem dX6_addGroup_22 : decode cX6_addGroup 22 = .ok (.aload_n 0, 1) := by decide +kernel
theorem dX6_addGroup_23 : decode cX6_addGroup 23 = .ok (.getfield 26, 3) := by decide +kernel
theorem dX6_addGroup_26 : decode cX6_addGroup 26 = .ok (.aload_n 0, 1) := by decide +kernel
theorem dX6_addGroup_27 : decode cX6_addGroup 27 = .ok (.getfield 19, 3) := by decide +kernel
theorem dX6_addGroup_30 : decode cX6_addGroup 30 = .ok (.invokevirtual 128, 3) := by decide +kernel
theorem dX6_addGroup_33 : decode cX6_addGroup 33 = .ok (.aload_n 0, 1) := by decide +kernel
theorem dX6_addGroup_34 : decode cX6_addGroup 34 = .ok (.getfield 19, 3) := by decide +kernel
theorem dX6_addGroup_37 : decode cX6_addGroup 37 = .ok (.invokevirtual 140, 3) := by decide +kernel
theorem dX6_addGroup_40 : decode cX6_addGroup 40 = .ok (.ireturn, 1) := by decide +kernel
theorem dX6_book_0 : decode cX6_book 0 = .ok (.aload_n 0, 1) := by decide +kernel
theorem dX6_book_1 : decode cX6_book 1 = .ok (.iload_n 1, 1) := by decide +kernel
theorem dX6_book_2 : decode cX6_book 2 = .ok (.iload_n 2, 1) := by decide +kernel
theorem dX6_book_3 : decode cX6_book 3 = .ok (.iload_n 3, 1) := by decide +kernel
theorem dX6_book_4 : decode cX6_book 4 = .ok (.iload 4, 2) := by decide +kernel
theorem dX6_book_6 : decode cX6_book 6 = .ok (.iload 5, 2) := by decide +kernel
theorem dX6_book_8 : decode cX6_book 8 = .ok (.invokevirtual 144, 3) := by decide +kernel
theorem dX6_book_11 : decode cX6_book 11 = .ok (.aload_n 0, 1) := by decide +kernel
theorem dX6_book_12 : decode cX6_book 12 = .ok (.getfield 19, 3) := by decide +kernel
theorem dX6_book_15 : decode cX6_book 15 = .ok (.iload_n 1, 1) := by decide +kernel
theorem dX6_book_16 : decode cX6_book 16 = .ok (.iload_n 3, 1) := by decide +kernel
theorem dX6_book_17 : decode cX6_book 17 = .ok (.iload 4, 2) := by decide +kernel
theorem dX6_book_19 : decode cX6_book 19 = .ok (.invokevirtual 148, 3) := by decide +kernel
theorem dX6_book_22 : decode cX6_book 22 = .ok (.ifCond .ne 13, 3) := by decide +kernel
theorem dX6_book_25 : decode cX6_book 25 = .ok (.new 59, 3) := by decide +kernel
theorem dX6_book_28 : decode cX6_book 28 = .ok (.dup, 1) := by decide +kernel
theorem dX6_book_29 : decode cX6_book 29 = .ok (.ldc 152, 2) := by decide +kernel
theorem dX6_book_31 : decode cX6_book 31 = .ok (.invokespecial 63, 3) := by decide +kernel
theorem dX6_book_34 : decode cX6_book 34 = .ok (.athrow, 1) := by decide +kernel
theorem dX6_book_35 : decode cX6_book 35 = .ok (.aload_n 0, 1) := by decide +kernel
theorem dX6_book_36 : decode cX6_book 36 = .ok (.getfield 26, 3) := by decide +kernel
theorem dX6_book_39 : decode cX6_book 39 = .ok (.aload_n 0, 1) := by decide +kernel
theorem dX6_book_40 : decode cX6_book 40 = .ok (.getfield 19, 3) := by decide +kernel
theorem dX6_book_43 : decode cX6_book 43 = .ok (.invokevirtual 128, 3) := by decide +kernel
theorem dX6_book_46 : decode cX6_book 46 = .ok (.aload_n 0, 1) := by decide +kernel
theorem dX6_book_47 : decode cX6_book 47 = .ok (.getfield 19, 3) := by decide +kernel
theorem dX6_book_50 : decode cX6_book 50 = .ok (.iload_n 1, 1) := by decide +kernel
theorem dX6_book_51 : decode cX6_book 51 = .ok (.iload_n 2, 1) := by decide +kernel
theorem dX6_book_52 : decode cX6_book 52 = .ok (.iload_n 3, 1) := by decide +kernel
theorem dX6_book_53 : decode cX6_book 53 = .ok (.iload 4, 2) := by decide +kernel
theorem dX6_book_55 : decode cX6_book 55 = .ok (.iload 5, 2) := by decide +kernel
theorem dX6_book_57 : decode cX6_book 57 = .ok (.invokevirtual 154, 3) := by decide +kernel
theorem dX6_book_60 : decode cX6_book 60 = .ok (.ireturn, 1) := by decide +kernel
theorem dX6_cancel_0 : decode cX6_cancel 0 = .ok (.aload_n 0, 1) := by decide +kernel
theorem dX6_cancel_1 : decode cX6_cancel 1 = .ok (.iload_n 1, 1) := by decide +kernel
theorem dX6_cancel_2 : decode cX6_cancel 2 = .ok (.invokevirtual 112, 3) := by decide +kernel
theorem dX6_cancel_5 : decode cX6_cancel 5 = .ok (.astore_n 2, 1) := by decide +kernel
theorem dX6_cancel_6 : decode cX6_cancel 6 = .ok (.aload_n 2, 1) := by decide +kernel
theorem dX6_cancel_7 : decode cX6_cancel 7 = .ok (.aload_n 0, 1) := by decide +kernel
theorem dX6_cancel_8 : decode cX6_cancel 8 = .ok (.getfield 19, 3) := by decide +kernel
theorem dX6_cancel_11 : decode cX6_cancel 11 = .ok (.getfield 116, 3) := by decide +kernel
theorem dX6_cancel_14 : decode cX6_cancel 14 = .ok (.invokevirtual 158, 3) := by decide +kernel
theorem dX6_cancel_17 : decode cX6_cancel 17 = .ok (.ifCond .ne 13, 3) := by decide +kernel
theorem dX6_cancel_20 : decode cX6_cancel 20 = .ok (.new 59, 3) := by decide +kernel
theorem dX6_cancel_23 : decode cX6_cancel 23 = .ok (.dup, 1) := by decide +kernel
theorem dX6_cancel_24 : decode cX6_cancel 24 = .ok (.ldc 161, 2) := by decide +kernel
theorem dX6_cancel_26 : decode cX6_cancel 26 = .ok (.invokespecial 63, 3) := by decide +kernel
theorem dX6_cancel_29 : decode cX6_cancel 29 = .ok (.athrow, 1) := by decide +kernel
theorem dX6_cancel_30 : decode cX6_cancel 30 = .ok (.aload_n 0, 1) := by decide +kernel
theorem dX6_cancel_31 : decode cX6_cancel 31 = .ok (.getfield 26, 3) := by decide +kernel
theorem dX6_cancel_34 : decode cX6_cancel 34 = .ok (.aload_n 0, 1) := by decide +kernel
theorem dX6_cancel_35 : decode cX6_cancel 35 = .ok (.getfield 19, 3) := by decide +kernel
theorem dX6_cancel_38 : decode cX6_cancel 38 = .ok (.invokevirtual 128, 3) := by decide +kernel
theorem dX6_cancel_41 : decode cX6_cancel 41 = .ok (.aload_n 0, 1) := by decide +kernel
theorem dX6_cancel_42 : decode cX6_cancel 42 = .ok (.getfield 19, 3) := by decide +kernel
theorem dX6_cancel_45 : decode cX6_cancel 45 = .ok (.iload_n 1, 1) := by decide +kernel
theorem dX6_cancel_46 : decode cX6_cancel 46 = .ok (.invokevirtual 163, 3) := by decide +kernel
theorem dX6_cancel_49 : decode cX6_cancel 49 = .ok (.aload_n 0, 1) := by decide +kernel
theorem dX6_cancel_50 : decode cX6_cancel 50 = .ok (.getfield 19, 3) := by decide +kernel
theorem dX6_cancel_53 : decode cX6_cancel 53 = .ok (.getfield 166, 3) := by decide +kernel
theorem dX6_cancel_56 : decode cX6_cancel 56 = .ok (.ireturn, 1) := by decide +kernel
theorem dX6_prove_0 : decode cX6_prove 0 = .ok (.aload_n 0, 1) := by decide +kernel
theorem dX6_prove_1 : decode cX6_prove 1 = .ok (.iload_n 1, 1) := by decide +kernel
theorem dX6_prove_2 : decode cX6_prove 2 = .ok (.invokevirtual 90, 3) := by decide +kernel
theorem dX6_prove_5 : decode cX6_prove 5 = .ok (.pop, 1) := by decide +kernel
theorem dX6_prove_6 : decode cX6_prove 6 = .ok (.aload_n 0, 1) := by decide +kernel
theorem dX6_prove_7 : decode cX6_prove 7 = .ok (.getfield 19, 3) := by decide +kernel
theorem dX6_prove_10 : decode cX6_prove 10 = .ok (.iload_n 1, 1) := by decide +kernel
theorem dX6_prove_11 : decode cX6_prove 11 = .ok (.invokevirtual 94, 3) := by decide +kernel
theorem dX6_prove_14 : decode cX6_prove 14 = .ok (.istore_n 3, 1) := by decide +kernel
theorem dX6_prove_15 : decode cX6_prove 15 = .ok (.iload_n 3, 1) := by decide +kernel
theorem dX6_prove_16 : decode cX6_prove 16 = .ok (.bipush (-99), 2) := by decide +kernel
theorem dX6_prove_18 : decode cX6_prove 18 = .ok (.if_icmp .ne 13, 3) := by decide +kernel
theorem dX6_prove_21 : decode cX6_prove 21 = .ok (.new 59, 3) := by decide +kernel
theorem dX6_prove_24 : decode cX6_prove 24 = .ok (.dup, 1) := by decide +kernel
theorem dX6_prove_25 : decode cX6_prove 25 = .ok (.ldc 169, 2) := by decide +kernel
theorem dX6_prove_27 : decode cX6_prove 27 = .ok (.invokespecial 63, 3) := by decide +kernel
theorem dX6_prove_30 : decode cX6_prove 30 = .ok (.athrow, 1) := by decide +kernel
theorem dX6_prove_31 : decode cX6_prove 31 = .ok (.aload_n 0, 1) := by decide +kernel
theorem dX6_prove_32 : decode cX6_prove 32 = .ok (.getfield 26, 3) := by decide +kernel
theorem dX6_prove_35 : decode cX6_prove 35 = .ok (.aload_n 0, 1) := by decide +kernel
theorem dX6_prove_36 : decode cX6_prove 36 = .ok (.getfield 19, 3) := by decide +kernel
theorem dX6_prove_39 : decode cX6_prove 39 = .ok (.invokevirtual 128, 3) := by decide +kernel
theorem dX6_prove_42 : decode cX6_prove 42 = .ok (.aload_n 0, 1) := by decide +kernel
theorem dX6_prove_43 : decode cX6_prove 43 = .ok (.getfield 19, 3) := by decide +kernel
theorem dX6_prove_46 : decode cX6_prove 46 = .ok (.iload_n 1, 1) := by decide +kernel
theorem dX6_prove_47 : decode cX6_prove 47 = .ok (.iload_n 2, 1) := by decide +kernel
theorem dX6_prove_48 : decode cX6_prove 48 = .ok (.invokevirtual 171, 3) := by decide +kernel
theorem dX6_prove_51 : decode cX6_prove 51 = .ok (.iload_n 3, 1) := by decide +kernel
theorem dX6_prove_52 : decode cX6_prove 52 = .ok (.ireturn, 1) := by decide +kernel
theorem dX6_outside_0 : decode cX6_outside 0 = .ok (.iload_n 1, 1) := by decide +kernel
theorem dX6_outside_1 : decode cX6_outside 1 = .ok (.bipush (-20), 2) := by decide +kernel
theorem dX6_outside_3 : decode cX6_outside 3 = .ok (.bipush 25, 2) := by decide +kernel
theorem dX6_outside_5 : decode cX6_outside 5 = .ok (.invokestatic 51, 3) := by decide +kernel
theorem dX6_outside_8 : decode cX6_outside 8 = .ok (.aload_n 0, 1) := by decide +kernel
theorem dX6_outside_9 : decode cX6_outside 9 = .ok (.getfield 26, 3) := by decide +kernel
theorem dX6_outside_12 : decode cX6_outside 12 = .ok (.aload_n 0, 1) := by decide +kernel
theorem dX6_outside_13 : decode cX6_outside 13 = .ok (.getfield 19, 3) := by decide +kernel
theorem dX6_outside_16 : decode cX6_outside 16 = .ok (.invokevirtual 128, 3) := by decide +kernel
theorem dX6_outside_19 : decode cX6_outside 19 = .ok (.aload_n 0, 1) := by decide +kernel
theorem dX6_outside_20 : decode cX6_outside 20 = .ok (.getfield 19, 3) := by decide +kernel
theorem dX6_outside_23 : decode cX6_outside 23 = .ok (.getfield 175, 3) := by decide +kernel
theorem dX6_outside_26 : decode cX6_outside 26 = .ok (.istore_n 2, 1) := by decide +kernel
theorem dX6_outside_27 : decode cX6_outside 27 = .ok (.aload_n 0, 1) := by decide +kernel
theorem dX6_outside_28 : decode cX6_outside 28 = .ok (.getfield 19, 3) := by decide +kernel
theorem dX6_outside_31 : decode cX6_outside 31 = .ok (.iload_n 1, 1) := by decide +kernel
theorem dX6_outside_32 : decode cX6_outside 32 = .ok (.putfield 175, 3) := by decide +kernel
theorem dX6_outside_35 : decode cX6_outside 35 = .ok (.iload_n 2, 1) := by decide +kernel
theorem dX6_outside_36 : decode cX6_outside 36 = .ok (.ireturn, 1) := by decide +kernel
theorem dX6_pay_0 : decode cX6_pay 0 = .ok (.aload_n 0, 1) := by decide +kernel
theorem dX6_pay_1 : decode cX6_pay 1 = .ok (.iload_n 1, 1) := by decide +kernel
theorem dX6_pay_2 : decode cX6_pay 2 = .ok (.invokevirtual 106, 3) := by decide +kernel
theorem dX6_pay_5 : decode cX6_pay 5 = .ok (.aload_n 0, 1) := by decide +kernel
theorem dX6_pay_6 : decode cX6_pay 6 = .ok (.getfield 26, 3) := by decide +kernel
theorem dX6_pay_9 : decode cX6_pay 9 = .ok (.aload_n 0, 1) := by decide +kernel
theorem dX6_pay_10 : decode cX6_pay 10 = .ok (.getfield 19, 3) := by decide +kernel
theorem dX6_pay_13 : decode cX6_pay 13 = .ok (.invokevirtual 128, 3) := by decide +kernel
theorem dX6_pay_16 : decode cX6_pay 16 = .ok (.aload_n 0, 1) := by decide +kernel
theorem dX6_pay_17 : decode cX6_pay 17 = .ok (.getfield 19, 3) := by decide +kernel
theorem dX6_pay_20 : decode cX6_pay 20 = .ok (.iload_n 1, 1) := by decide +kernel
theorem dX6_pay_21 : decode cX6_pay 21 = .ok (.invokevirtual 178, 3) := by decide +kernel
theorem dX6_pay_24 : decode cX6_pay 24 = .ok (.ireturn, 1) := by decide +kernel
theorem dX6_pass_0 : decode cX6_pass 0 = .ok (.iload_n 1, 1) := by decide +kernel
theorem dX6_pass_1 : decode cX6_pass 1 = .ok (.iconst 1, 1) := by decide +kernel
theorem dX6_pass_2 : decode cX6_pass 2 = .ok (.bipush 48, 2) := by decide +kernel
theorem dX6_pass_4 : decode cX6_pass 4 = .ok (.invokestatic 51, 3) := by decide +kernel
theorem dX6_pass_7 : decode cX6_pass 7 = .ok (.aload_n 0, 1) := by decide +kernel
theorem dX6_pass_8 : decode cX6_pass 8 = .ok (.getfield 19, 3) := by decide +kernel
theorem dX6_pass_11 : decode cX6_pass 11 = .ok (.getfield 116, 3) := by decide +kernel
theorem dX6_pass_14 : decode cX6_pass 14 = .ok (.iload_n 1, 1) := by decide +kernel
theorem dX6_pass_15 : decode cX6_pass 15 = .ok (.iadd, 1) := by decide +kernel
theorem dX6_pass_16 : decode cX6_pass 16 = .ok (.sipush 240, 3) := by decide +kernel
theorem dX6_pass_19 : decode cX6_pass 19 = .ok (.if_icmp .le 13, 3) := by decide +kernel
theorem dX6_pass_22 : decode cX6_pass 22 = .ok (.new 59, 3) := by decide +kernel
theorem dX6_pass_25 : decode cX6_pass 25 = .ok (.dup, 1) := by decide +kernel
theorem dX6_pass_26 : decode cX6_pass 26 = .ok (.ldc 181, 2) := by decide +kernel
theorem dX6_pass_28 : decode cX6_pass 28 = .ok (.invokespecial 63, 3) := by decide +kernel
theorem dX6_pass_31 : decode cX6_pass 31 = .ok (.athrow, 1) := by decide +kernel
theorem dX6_pass_32 : decode cX6_pass 32 = .ok (.aload_n 0, 1) := by decide +kernel
theorem dX6_pass_33 : decode cX6_pass 33 = .ok (.getfield 26, 3) := by decide +kernel
theorem dX6_pass_36 : decode cX6_pass 36 = .ok (.aload_n 0, 1) := by decide +kernel
theorem dX6_pass_37 : decode cX6_pass 37 = .ok (.getfield 19, 3) := by decide +kernel
theorem dX6_pass_40 : decode cX6_pass 40 = .ok (.invokevirtual 128, 3) := by decide +kernel
theorem dX6_pass_43 : decode cX6_pass 43 = .ok (.aload_n 0, 1) := by decide +kernel
theorem dX6_pass_44 : decode cX6_pass 44 = .ok (.getfield 19, 3) := by decide +kernel
theorem dX6_pass_47 : decode cX6_pass 47 = .ok (.getfield 183, 3) := by decide +kernel
theorem dX6_pass_50 : decode cX6_pass 50 = .ok (.istore_n 2, 1) := by decide +kernel
theorem dX6_pass_51 : decode cX6_pass 51 = .ok (.aload_n 0, 1) := by decide +kernel
theorem dX6_pass_52 : decode cX6_pass 52 = .ok (.getfield 19, 3) := by decide +kernel
theorem dX6_pass_55 : decode cX6_pass 55 = .ok (.iload_n 1, 1) := by decide +kernel
theorem dX6_pass_56 : decode cX6_pass 56 = .ok (.invokevirtual 186, 3) := by decide +kernel
theorem dX6_pass_59 : decode cX6_pass 59 = .ok (.aload_n 0, 1) := by decide +kernel
theorem dX6_pass_60 : decode cX6_pass 60 = .ok (.getfield 19, 3) := by decide +kernel
theorem dX6_pass_63 : decode cX6_pass 63 = .ok (.getfield 183, 3) := by decide +kernel
theorem dX6_pass_66 : decode cX6_pass 66 = .ok (.iload_n 2, 1) := by decide +kernel
theorem dX6_pass_67 : decode cX6_pass 67 = .ok (.isub, 1) := by decide +kernel
theorem dX6_pass_68 : decode cX6_pass 68 = .ok (.ireturn, 1) := by decide +kernel
theorem dX6_undo_0 : decode cX6_undo 0 = .ok (.aload_n 0, 1) := by decide +kernel
theorem dX6_undo_1 : decode cX6_undo 1 = .ok (.getfield 26, 3) := by decide +kernel
theorem dX6_undo_4 : decode cX6_undo 4 = .ok (.getfield 189, 3) := by decide +kernel
theorem dX6_undo_7 : decode cX6_undo 7 = .ok (.ifCond .ne 13, 3) := by decide +kernel
theorem dX6_undo_10 : decode cX6_undo 10 = .ok (.new 59, 3) := by decide +kernel
theorem dX6_undo_13 : decode cX6_undo 13 = .ok (.dup, 1) := by decide +kernel
theorem dX6_undo_14 : decode cX6_undo 14 = .ok (.ldc 192, 2) := by decide +kernel
theorem dX6_undo_16 : decode cX6_undo 16 = .ok (.invokespecial 63, 3) := by decide +kernel
theorem dX6_undo_19 : decode cX6_undo 19 = .ok (.athrow, 1) := by decide +kernel
theorem dX6_undo_20 : decode cX6_undo 20 = .ok (.aload_n 0, 1) := by decide +kernel
theorem dX6_undo_21 : decode cX6_undo 21 = .ok (.getfield 26, 3) := by decide +kernel
theorem dX6_undo_24 : decode cX6_undo 24 = .ok (.aload_n 0, 1) := by decide +kernel
theorem dX6_undo_25 : decode cX6_undo 25 = .ok (.getfield 19, 3) := by decide +kernel
theorem dX6_undo_28 : decode cX6_undo 28 = .ok (.invokevirtual 194, 3) := by decide +kernel
theorem dX6_undo_31 : decode cX6_undo 31 = .ok (.aload_n 0, 1) := by decide +kernel
theorem dX6_undo_32 : decode cX6_undo 32 = .ok (.getfield 26, 3) := by decide +kernel
theorem dX6_undo_35 : decode cX6_undo 35 = .ok (.getfield 189, 3) := by decide +kernel
theorem dX6_undo_38 : decode cX6_undo 38 = .ok (.ireturn, 1) := by decide +kernel
theorem dX6_later_0 : decode cX6_later 0 = .ok (.aload_n 0, 1) := by decide +kernel
theorem dX6_later_1 : decode cX6_later 1 = .ok (.iload_n 1, 1) := by decide +kernel
theorem dX6_later_2 : decode cX6_later 2 = .ok (.invokevirtual 90, 3) := by decide +kernel
theorem dX6_later_5 : decode cX6_later 5 = .ok (.pop, 1) := by decide +kernel
theorem dX6_later_6 : decode cX6_later 6 = .ok (.iload_n 2, 1) := by decide +kernel
theorem dX6_later_7 : decode cX6_later 7 = .ok (.iconst 0, 1) := by decide +kernel
theorem dX6_later_8 : decode cX6_later 8 = .ok (.bipush 48, 2) := by decide +kernel
theorem dX6_later_10 : decode cX6_later 10 = .ok (.invokestatic 51, 3) := by decide +kernel
theorem dX6_later_13 : decode cX6_later 13 = .ok (.aload_n 0, 1) := by decide +kernel
theorem dX6_later_14 : decode cX6_later 14 = .ok (.getfield 45, 3) := by decide +kernel
theorem dX6_later_17 : decode cX6_later 17 = .ok (.aload_n 0, 1) := by decide +kernel
theorem dX6_later_18 : decode cX6_later 18 = .ok (.getfield 19, 3) := by decide +kernel
theorem dX6_later_21 : decode cX6_later 21 = .ok (.invokevirtual 76, 3) := by decide +kernel
theorem dX6_later_24 : decode cX6_later 24 = .ok (.aload_n 0, 1) := by decide +kernel
theorem dX6_later_25 : decode cX6_later 25 = .ok (.getfield 45, 3) := by decide +kernel
theorem dX6_later_28 : decode cX6_later 28 = .ok (.iload_n 2, 1) := by decide +kernel
theorem dX6_later_29 : decode cX6_later 29 = .ok (.invokevirtual 186, 3) := by decide +kernel
theorem dX6_later_32 : decode cX6_later 32 = .ok (.aload_n 0, 1) := by decide +kernel
theorem dX6_later_33 : decode cX6_later 33 = .ok (.getfield 45, 3) := by decide +kernel
theorem dX6_later_36 : decode cX6_later 36 = .ok (.iload_n 1, 1) := by decide +kernel
theorem dX6_later_37 : decode cX6_later 37 = .ok (.invokevirtual 197, 3) := by decide +kernel
theorem dX6_later_40 : decode cX6_later 40 = .ok (.astore_n 3, 1) := by decide +kernel
theorem dX6_later_41 : decode cX6_later 41 = .ok (.aload_n 3, 1) := by decide +kernel
theorem dX6_later_42 : decode cX6_later 42 = .ok (.ifnonnull 8, 3) := by decide +kernel
theorem dX6_later_45 : decode cX6_later 45 = .ok (.bipush (-99), 2) := by decide +kernel
theorem dX6_later_47 : decode cX6_later 47 = .ok (.goto 7, 3) := by decide +kernel
theorem dX6_later_50 : decode cX6_later 50 = .ok (.aload_n 3, 1) := by decide +kernel
theorem dX6_later_51 : decode cX6_later 51 = .ok (.getfield 200, 3) := by decide +kernel
theorem dX6_later_54 : decode cX6_later 54 = .ok (.ireturn, 1) := by decide +kernel
theorem dX6_begins_0 : decode cX6_begins 0 = .ok (.aload_n 0, 1) := by decide +kernel
theorem dX6_begins_1 : decode cX6_begins 1 = .ok (.iload_n 1, 1) := by decide +kernel
theorem dX6_begins_2 : decode cX6_begins 2 = .ok (.invokevirtual 112, 3) := by decide +kernel
theorem dX6_begins_5 : decode cX6_begins 5 = .ok (.astore_n 2, 1) := by decide +kernel
theorem dX6_begins_6 : decode cX6_begins 6 = .ok (.aload_n 0, 1) := by decide +kernel
theorem dX6_begins_7 : decode cX6_begins 7 = .ok (.getfield 45, 3) := by decide +kernel
theorem dX6_begins_10 : decode cX6_begins 10 = .ok (.aload_n 0, 1) := by decide +kernel
theorem dX6_begins_11 : decode cX6_begins 11 = .ok (.getfield 19, 3) := by decide +kernel
theorem dX6_begins_14 : decode cX6_begins 14 = .ok (.invokevirtual 76, 3) := by decide +kernel
theorem dX6_begins_17 : decode cX6_begins 17 = .ok (.aload_n 2, 1) := by decide +kernel
theorem dX6_begins_18 : decode cX6_begins 18 = .ok (.invokevirtual 203, 3) := by decide +kernel
theorem dX6_begins_21 : decode cX6_begins 21 = .ok (.aload_n 0, 1) := by decide +kernel
theorem dX6_begins_22 : decode cX6_begins 22 = .ok (.getfield 19, 3) := by decide +kernel
theorem dX6_begins_25 : decode cX6_begins 25 = .ok (.getfield 116, 3) := by decide +kernel
theorem dX6_begins_28 : decode cX6_begins 28 = .ok (.isub, 1) := by decide +kernel
theorem dX6_begins_29 : decode cX6_begins 29 = .ok (.istore_n 3, 1) := by decide +kernel
theorem dX6_begins_30 : decode cX6_begins 30 = .ok (.iconst 0, 1) := by decide +kernel
theorem dX6_begins_31 : decode cX6_begins 31 = .ok (.istore 4, 2) := by decide +kernel
theorem dX6_begins_33 : decode cX6_begins 33 = .ok (.iload 4, 2) := by decide +kernel
theorem dX6_begins_35 : decode cX6_begins 35 = .ok (.iload_n 3, 1) := by decide +kernel
theorem dX6_begins_36 : decode cX6_begins 36 = .ok (.if_icmp .ge 39, 3) := by decide +kernel
theorem dX6_begins_39 : decode cX6_begins 39 = .ok (.aload_n 0, 1) := by decide +kernel
theorem dX6_begins_40 : decode cX6_begins 40 = .ok (.getfield 45, 3) := by decide +kernel
theorem dX6_begins_43 : decode cX6_begins 43 = .ok (.aload_n 2, 1) := by decide +kernel
theorem dX6_begins_44 : decode cX6_begins 44 = .ok (.getfield 206, 3) := by decide +kernel
theorem dX6_begins_47 : decode cX6_begins 47 = .ok (.invokevirtual 100, 3) := by decide +kernel
theorem dX6_begins_50 : decode cX6_begins 50 = .ok (.iload_n 1, 1) := by decide +kernel
theorem dX6_begins_51 : decode cX6_begins 51 = .ok (.if_icmp .ne 11, 3) := by decide +kernel
theorem dX6_begins_54 : decode cX6_begins 54 = .ok (.aload_n 0, 1) := by decide +kernel
theorem dX6_begins_55 : decode cX6_begins 55 = .ok (.getfield 45, 3) := by decide +kernel
theorem dX6_begins_58 : decode cX6_begins 58 = .ok (.getfield 116, 3) := by decide +kernel
theorem dX6_begins_61 : decode cX6_begins 61 = .ok (.ireturn, 1) := by decide +kernel
theorem dX6_begins_62 : decode cX6_begins 62 = .ok (.aload_n 0, 1) := by decide +kernel
theorem dX6_begins_63 : decode cX6_begins 63 = .ok (.getfield 45, 3) := by decide +kernel
theorem dX6_begins_66 : decode cX6_begins 66 = .ok (.invokevirtual 209, 3) := by decide +kernel
theorem dX6_begins_69 : decode cX6_begins 69 = .ok (.iinc 4 1, 3) := by decide +kernel
theorem dX6_begins_72 : decode cX6_begins 72 = .ok (.goto (-39), 3) := by decide +kernel
theorem dX6_begins_75 : decode cX6_begins 75 = .ok (.bipush (-99), 2) := by decide +kernel
theorem dX6_begins_77 : decode cX6_begins 77 = .ok (.ireturn, 1) := by decide +kernel
theorem dX6_cost_0 : decode cX6_cost 0 = .ok (.aload_n 0, 1) := by decide +kernel
theorem dX6_cost_1 : decode cX6_cost 1 = .ok (.iload_n 1, 1) := by decide +kernel
theorem dX6_cost_2 : decode cX6_cost 2 = .ok (.iload_n 2, 1) := by decide +kernel
theorem dX6_cost_3 : decode cX6_cost 3 = .ok (.iload_n 3, 1) := by decide +kernel
theorem dX6_cost_4 : decode cX6_cost 4 = .ok (.iload 4, 2) := by decide +kernel
theorem dX6_cost_6 : decode cX6_cost 6 = .ok (.iload 5, 2) := by decide +kernel
theorem dX6_cost_8 : decode cX6_cost 8 = .ok (.invokevirtual 144, 3) := by decide +kernel
theorem dX6_cost_11 : decode cX6_cost 11 = .ok (.aload_n 0, 1) := by decide +kernel
theorem dX6_cost_12 : decode cX6_cost 12 = .ok (.getfield 19, 3) := by decide +kernel
theorem dX6_cost_15 : decode cX6_cost 15 = .ok (.iload_n 1, 1) := by decide +kernel
theorem dX6_cost_16 : decode cX6_cost 16 = .ok (.iload_n 3, 1) := by decide +kernel
theorem dX6_cost_17 : decode cX6_cost 17 = .ok (.iload 4, 2) := by decide +kernel
theorem dX6_cost_19 : decode cX6_cost 19 = .ok (.invokevirtual 148, 3) := by decide +kernel
theorem dX6_cost_22 : decode cX6_cost 22 = .ok (.ifCond .ne 6, 3) := by decide +kernel
theorem dX6_cost_25 : decode cX6_cost 25 = .ok (.bipush (-99), 2) := by decide +kernel
theorem dX6_cost_27 : decode cX6_cost 27 = .ok (.ireturn, 1) := by decide +kernel
theorem dX6_cost_28 : decode cX6_cost 28 = .ok (.iload_n 3, 1) := by decide +kernel
theorem dX6_cost_29 : decode cX6_cost 29 = .ok (.iload 4, 2) := by decide +kernel
theorem dX6_cost_31 : decode cX6_cost 31 = .ok (.iadd, 1) := by decide +kernel
theorem dX6_cost_32 : decode cX6_cost 32 = .ok (.aload_n 0, 1) := by decide +kernel
theorem dX6_cost_33 : decode cX6_cost 33 = .ok (.getfield 19, 3) := by decide +kernel
theorem dX6_cost_36 : decode cX6_cost 36 = .ok (.getfield 116, 3) := by decide +kernel
theorem dX6_cost_39 : decode cX6_cost 39 = .ok (.isub, 1) := by decide +kernel
theorem dX6_cost_40 : decode cX6_cost 40 = .ok (.istore 6, 2) := by decide +kernel
theorem dX6_cost_42 : decode cX6_cost 42 = .ok (.aload_n 0, 1) := by decide +kernel
theorem dX6_cost_43 : decode cX6_cost 43 = .ok (.getfield 45, 3) := by decide +kernel
theorem dX6_cost_46 : decode cX6_cost 46 = .ok (.aload_n 0, 1) := by decide +kernel
theorem dX6_cost_47 : decode cX6_cost 47 = .ok (.getfield 19, 3) := by decide +kernel
theorem dX6_cost_50 : decode cX6_cost 50 = .ok (.invokevirtual 76, 3) := by decide +kernel
theorem dX6_cost_53 : decode cX6_cost 53 = .ok (.aload_n 0, 1) := by decide +kernel
theorem dX6_cost_54 : decode cX6_cost 54 = .ok (.getfield 45, 3) := by decide +kernel
theorem dX6_cost_57 : decode cX6_cost 57 = .ok (.iload 6, 2) := by decide +kernel
theorem dX6_cost_59 : decode cX6_cost 59 = .ok (.invokevirtual 186, 3) := by decide +kernel
theorem dX6_cost_62 : decode cX6_cost 62 = .ok (.aload_n 0, 1) := by decide +kernel
theorem dX6_cost_63 : decode cX6_cost 63 = .ok (.getfield 48, 3) := by decide +kernel
theorem dX6_cost_66 : decode cX6_cost 66 = .ok (.aload_n 0, 1) := by decide +kernel
theorem dX6_cost_67 : decode cX6_cost 67 = .ok (.getfield 19, 3) := by decide +kernel
theorem dX6_cost_70 : decode cX6_cost 70 = .ok (.invokevirtual 76, 3) := by decide +kernel
theorem dX6_cost_73 : decode cX6_cost 73 = .ok (.aload_n 0, 1) := by decide +kernel
theorem dX6_cost_74 : decode cX6_cost 74 = .ok (.getfield 48, 3) := by decide +kernel
theorem dX6_cost_77 : decode cX6_cost 77 = .ok (.iload_n 1, 1) := by decide +kernel
theorem dX6_cost_78 : decode cX6_cost 78 = .ok (.iload_n 2, 1) := by decide +kernel
theorem dX6_cost_79 : decode cX6_cost 79 = .ok (.iload_n 3, 1) := by decide +kernel
theorem dX6_cost_80 : decode cX6_cost 80 = .ok (.iload 4, 2) := by decide +kernel
theorem dX6_cost_82 : decode cX6_cost 82 = .ok (.iload 5, 2) := by decide +kernel
theorem dX6_cost_84 : decode cX6_cost 84 = .ok (.invokevirtual 154, 3) := by decide +kernel
theorem dX6_cost_87 : decode cX6_cost 87 = .ok (.pop, 1) := by decide +kernel
theorem dX6_cost_88 : decode cX6_cost 88 = .ok (.aload_n 0, 1) := by decide +kernel
theorem dX6_cost_89 : decode cX6_cost 89 = .ok (.getfield 48, 3) := by decide +kernel
theorem dX6_cost_92 : decode cX6_cost 92 = .ok (.iload 6, 2) := by decide +kernel
theorem dX6_cost_94 : decode cX6_cost 94 = .ok (.invokevirtual 186, 3) := by decide +kernel
theorem dX6_cost_97 : decode cX6_cost 97 = .ok (.aload_n 0, 1) := by decide +kernel
theorem dX6_cost_98 : decode cX6_cost 98 = .ok (.getfield 48, 3) := by decide +kernel
theorem dX6_cost_101 : decode cX6_cost 101 = .ok (.getfield 183, 3) := by decide +kernel
theorem dX6_cost_104 : decode cX6_cost 104 = .ok (.aload_n 0, 1) := by decide +kernel
theorem dX6_cost_105 : decode cX6_cost 105 = .ok (.getfield 45, 3) := by decide +kernel
theorem dX6_cost_108 : decode cX6_cost 108 = .ok (.getfield 183, 3) := by decide +kernel
theorem dX6_cost_111 : decode cX6_cost 111 = .ok (.isub, 1) := by decide +kernel
theorem dX6_cost_112 : decode cX6_cost 112 = .ok (.ireturn, 1) := by decide +kernel
theorem dX6_willOwe_0 : decode cX6_willOwe 0 = .ok (.aload_n 0, 1) := by decide +kernel
theorem dX6_willOwe_1 : decode cX6_willOwe 1 = .ok (.iload_n 1, 1) := by decide +kernel
theorem dX6_willOwe_2 : decode cX6_willOwe 2 = .ok (.invokevirtual 106, 3) := by decide +kernel
theorem dX6_willOwe_5 : decode cX6_willOwe 5 = .ok (.aload_n 0, 1) := by decide +kernel
theorem dX6_willOwe_6 : decode cX6_willOwe 6 = .ok (.invokevirtual 212, 3) := by decide +kernel
theorem dX6_willOwe_9 : decode cX6_willOwe 9 = .ok (.aload_n 0, 1) := by decide +kernel
theorem dX6_willOwe_10 : decode cX6_willOwe 10 = .ok (.getfield 45, 3) := by decide +kernel
theorem dX6_willOwe_13 : decode cX6_willOwe 13 = .ok (.iload_n 1, 1) := by decide +kernel
theorem dX6_willOwe_14 : decode cX6_willOwe 14 = .ok (.invokevirtual 109, 3) := by decide +kernel
theorem dX6_willOwe_17 : decode cX6_willOwe 17 = .ok (.ireturn, 1) := by decide +kernel
theorem dX6_coldest_0 : decode cX6_coldest 0 = .ok (.aload_n 0, 1) := by decide +kernel
theorem dX6_coldest_1 : decode cX6_coldest 1 = .ok (.invokevirtual 212, 3) := by decide +kernel
theorem dX6_coldest_4 : decode cX6_coldest 4 = .ok (.aload_n 0, 1) := by decide +kernel
theorem dX6_coldest_5 : decode cX6_coldest 5 = .ok (.getfield 45, 3) := by decide +kernel
theorem dX6_coldest_8 : decode cX6_coldest 8 = .ok (.invokevirtual 215, 3) := by decide +kernel
theorem dX6_coldest_11 : decode cX6_coldest 11 = .ok (.ireturn, 1) := by decide +kernel
theorem dX6_passAllBookingsOnTrial_0 : decode cX6_passAllBookingsOnTrial 0 = .ok (.aload_n 0, 1) := by decide +kernel
theorem dX6_passAllBookingsOnTrial_1 : decode cX6_passAllBookingsOnTrial 1 = .ok (.getfield 45, 3) := by decide +kernel
theorem dX6_passAllBookingsOnTrial_4 : decode cX6_passAllBookingsOnTrial 4 = .ok (.aload_n 0, 1) := by decide +kernel
theorem dX6_passAllBookingsOnTrial_5 : decode cX6_passAllBookingsOnTrial 5 = .ok (.getfield 19, 3) := by decide +kernel
theorem dX6_passAllBookingsOnTrial_8 : decode cX6_passAllBookingsOnTrial 8 = .ok (.invokevirtual 76, 3) := by decide +kernel
theorem dX6_passAllBookingsOnTrial_11 : decode cX6_passAllBookingsOnTrial 11 = .ok (.aload_n 0, 1) := by decide +kernel
theorem dX6_passAllBookingsOnTrial_12 : decode cX6_passAllBookingsOnTrial 12 = .ok (.getfield 45, 3) := by decide +kernel
theorem dX6_passAllBookingsOnTrial_15 : decode cX6_passAllBookingsOnTrial 15 = .ok (.aload_n 0, 1) := by decide +kernel
theorem dX6_passAllBookingsOnTrial_16 : decode cX6_passAllBookingsOnTrial 16 = .ok (.getfield 19, 3) := by decide +kernel
theorem dX6_passAllBookingsOnTrial_19 : decode cX6_passAllBookingsOnTrial 19 = .ok (.invokevirtual 218, 3) := by decide +kernel
theorem dX6_passAllBookingsOnTrial_22 : decode cX6_passAllBookingsOnTrial 22 = .ok (.aload_n 0, 1) := by decide +kernel
theorem dX6_passAllBookingsOnTrial_23 : decode cX6_passAllBookingsOnTrial 23 = .ok (.getfield 19, 3) := by decide +kernel
theorem dX6_passAllBookingsOnTrial_26 : decode cX6_passAllBookingsOnTrial 26 = .ok (.getfield 116, 3) := by decide +kernel
theorem dX6_passAllBookingsOnTrial_29 : decode cX6_passAllBookingsOnTrial 29 = .ok (.isub, 1) := by decide +kernel
theorem dX6_passAllBookingsOnTrial_30 : decode cX6_passAllBookingsOnTrial 30 = .ok (.invokevirtual 186, 3) := by decide +kernel
theorem dX6_passAllBookingsOnTrial_33 : decode cX6_passAllBookingsOnTrial 33 = .ok (.return_, 1) := by decide +kernel
theorem dX6_runScript_0 : decode cX6_runScript 0 = .ok (.iload_n 1, 1) := by decide +kernel
theorem dX6_runScript_1 : decode cX6_runScript 1 = .ok (.iconst 1, 1) := by decide +kernel
theorem dX6_runScript_2 : decode cX6_runScript 2 = .ok (.iconst 3, 1) := by decide +kernel
theorem dX6_runScript_3 : decode cX6_runScript 3 = .ok (.invokestatic 51, 3) := by decide +kernel
theorem dX6_runScript_6 : decode cX6_runScript 6 = .ok (.lload_n 2, 1) := by decide +kernel
theorem dX6_runScript_7 : decode cX6_runScript 7 = .ok (.lconst 0, 1) := by decide +kernel
theorem dX6_runScript_8 : decode cX6_runScript 8 = .ok (.lcmp, 1) := by decide +kernel
theorem dX6_runScript_9 : decode cX6_runScript 9 = .ok (.ifCond .lt 13, 3) := by decide +kernel
theorem dX6_runScript_12 : decode cX6_runScript 12 = .ok (.lload_n 2, 1) := by decide +kernel
theorem dX6_runScript_13 : decode cX6_runScript 13 = .ok (.iload_n 1, 1) := by decide +kernel
theorem dX6_runScript_14 : decode cX6_runScript 14 = .ok (.invokestatic 221, 3) := by decide +kernel
theorem dX6_runScript_17 : decode cX6_runScript 17 = .ok (.lconst 0, 1) := by decide +kernel
theorem dX6_runScript_18 : decode cX6_runScript 18 = .ok (.lcmp, 1) := by decide +kernel
theorem dX6_runScript_19 : decode cX6_runScript 19 = .ok (.ifCond .eq 13, 3) := by decide +kernel
theorem dX6_runScript_22 : decode cX6_runScript 22 = .ok (.new 225, 3) := by decide +kernel
theorem dX6_runScript_25 : decode cX6_runScript 25 = .ok (.dup, 1) := by decide +kernel
theorem dX6_runScript_26 : decode cX6_runScript 26 = .ok (.ldc 227, 2) := by decide +kernel
theorem dX6_runScript_28 : decode cX6_runScript 28 = .ok (.invokespecial 229, 3) := by decide +kernel
theorem dX6_runScript_31 : decode cX6_runScript 31 = .ok (.athrow, 1) := by decide +kernel
theorem dX6_runScript_32 : decode cX6_runScript 32 = .ok (.aload_n 0, 1) := by decide +kernel
theorem dX6_runScript_33 : decode cX6_runScript 33 = .ok (.getfield 45, 3) := by decide +kernel
theorem dX6_runScript_36 : decode cX6_runScript 36 = .ok (.aload_n 0, 1) := by decide +kernel
theorem dX6_runScript_37 : decode cX6_runScript 37 = .ok (.getfield 19, 3) := by decide +kernel
theorem dX6_runScript_40 : decode cX6_runScript 40 = .ok (.invokevirtual 76, 3) := by decide +kernel
theorem dX6_runScript_43 : decode cX6_runScript 43 = .ok (.iconst 0, 1) := by decide +kernel
theorem dX6_runScript_44 : decode cX6_runScript 44 = .ok (.istore 4, 2) := by decide +kernel
theorem dX6_runScript_46 : decode cX6_runScript 46 = .ok (.iload 4, 2) := by decide +kernel
theorem dX6_runScript_48 : decode cX6_runScript 48 = .ok (.iload_n 1, 1) := by decide +kernel
theorem dX6_runScript_49 : decode cX6_runScript 49 = .ok (.if_icmp .ge 43, 3) := by decide +kernel
theorem dX6_runScript_52 : decode cX6_runScript 52 = .ok (.aload_n 0, 1) := by decide +kernel
theorem dX6_runScript_53 : decode cX6_runScript 53 = .ok (.getfield 41, 3) := by decide +kernel
theorem dX6_runScript_56 : decode cX6_runScript 56 = .ok (.lload_n 2, 1) := by decide +kernel
theorem dX6_runScript_57 : decode cX6_runScript 57 = .ok (.iload_n 1, 1) := by decide +kernel
theorem dX6_runScript_58 : decode cX6_runScript 58 = .ok (.iconst 1, 1) := by decide +kernel
theorem dX6_runScript_59 : decode cX6_runScript 59 = .ok (.isub, 1) := by decide +kernel
theorem dX6_runScript_60 : decode cX6_runScript 60 = .ok (.iload 4, 2) := by decide +kernel
theorem dX6_runScript_62 : decode cX6_runScript 62 = .ok (.isub, 1) := by decide +kernel
theorem dX6_runScript_63 : decode cX6_runScript 63 = .ok (.invokestatic 221, 3) := by decide +kernel
theorem dX6_runScript_66 : decode cX6_runScript 66 = .ok (.invokevirtual 230, 3) := by decide +kernel
theorem dX6_runScript_69 : decode cX6_runScript 69 = .ok (.aload_n 0, 1) := by decide +kernel
theorem dX6_runScript_70 : decode cX6_runScript 70 = .ok (.getfield 41, 3) := by decide +kernel
theorem dX6_runScript_73 : decode cX6_runScript 73 = .ok (.aload_n 0, 1) := by decide +kernel
theorem dX6_runScript_74 : decode cX6_runScript 74 = .ok (.getfield 45, 3) := by decide +kernel
theorem dX6_runScript_77 : decode cX6_runScript 77 = .ok (.invokevirtual 234, 3) := by decide +kernel
theorem dX6_runScript_80 : decode cX6_runScript 80 = .ok (.ifCond .ne 6, 3) := by decide +kernel
theorem dX6_runScript_83 : decode cX6_runScript 83 = .ok (.iload 4, 2) := by decide +kernel
theorem dX6_runScript_85 : decode cX6_runScript 85 = .ok (.ireturn, 1) := by decide +kernel
theorem dX6_runScript_86 : decode cX6_runScript 86 = .ok (.iinc 4 1, 3) := by decide +kernel
theorem dX6_runScript_89 : decode cX6_runScript 89 = .ok (.goto (-43), 3) := by decide +kernel
theorem dX6_runScript_92 : decode cX6_runScript 92 = .ok (.bipush (-99), 2) := by decide +kernel
theorem dX6_runScript_94 : decode cX6_runScript 94 = .ok (.ireturn, 1) := by decide +kernel
theorem dX6_simulate_0 : decode cX6_simulate 0 = .ok (.iload_n 3, 1) := by decide +kernel
theorem dX6_simulate_1 : decode cX6_simulate 1 = .ok (.iconst 1, 1) := by decide +kernel
theorem dX6_simulate_2 : decode cX6_simulate 2 = .ok (.bipush 99, 2) := by decide +kernel
theorem dX6_simulate_4 : decode cX6_simulate 4 = .ok (.invokestatic 51, 3) := by decide +kernel
theorem dX6_simulate_7 : decode cX6_simulate 7 = .ok (.aload_n 0, 1) := by decide +kernel
theorem dX6_simulate_8 : decode cX6_simulate 8 = .ok (.getfield 45, 3) := by decide +kernel
theorem dX6_simulate_11 : decode cX6_simulate 11 = .ok (.aload_n 0, 1) := by decide +kernel
theorem dX6_simulate_12 : decode cX6_simulate 12 = .ok (.getfield 19, 3) := by decide +kernel
theorem dX6_simulate_15 : decode cX6_simulate 15 = .ok (.invokevirtual 76, 3) := by decide +kernel
theorem dX6_simulate_18 : decode cX6_simulate 18 = .ok (.lload_n 1, 1) := by decide +kernel
theorem dX6_simulate_19 : decode cX6_simulate 19 = .ok (.lstore 4, 2) := by decide +kernel
theorem dX6_simulate_21 : decode cX6_simulate 21 = .ok (.iconst 0, 1) := by decide +kernel
theorem dX6_simulate_22 : decode cX6_simulate 22 = .ok (.istore 6, 2) := by decide +kernel
theorem dX6_simulate_24 : decode cX6_simulate 24 = .ok (.iload 6, 2) := by decide +kernel
theorem dX6_simulate_26 : decode cX6_simulate 26 = .ok (.iload_n 3, 1) := by decide +kernel
theorem dX6_simulate_27 : decode cX6_simulate 27 = .ok (.if_icmp .ge 82, 3) := by decide +kernel
theorem dX6_simulate_30 : decode cX6_simulate 30 = .ok (.aload_n 0, 1) := by decide +kernel
theorem dX6_simulate_31 : decode cX6_simulate 31 = .ok (.getfield 45, 3) := by decide +kernel
theorem dX6_simulate_34 : decode cX6_simulate 34 = .ok (.getfield 116, 3) := by decide +kernel
theorem dX6_simulate_37 : decode cX6_simulate 37 = .ok (.sipush 240, 3) := by decide +kernel
theorem dX6_simulate_40 : decode cX6_simulate 40 = .ok (.if_icmp .ge 69, 3) := by decide +kernel
theorem dX6_simulate_43 : decode cX6_simulate 43 = .ok (.lload 4, 2) := by decide +kernel
theorem dX6_simulate_45 : decode cX6_simulate 45 = .ok (.ldc2_w 238, 3) := by decide +kernel
theorem dX6_simulate_48 : decode cX6_simulate 48 = .ok (.lmul, 1) := by decide +kernel
theorem dX6_simulate_49 : decode cX6_simulate 49 = .ok (.ldc2_w 240, 3) := by decide +kernel
theorem dX6_simulate_52 : decode cX6_simulate 52 = .ok (.ladd, 1) := by decide +kernel
theorem dX6_simulate_53 : decode cX6_simulate 53 = .ok (.lstore 4, 2) := by decide +kernel
theorem dX6_simulate_55 : decode cX6_simulate 55 = .ok (.lload 4, 2) := by decide +kernel
theorem dX6_simulate_57 : decode cX6_simulate 57 = .ok (.bipush 33, 2) := by decide +kernel
theorem dX6_simulate_59 : decode cX6_simulate 59 = .ok (.lushr, 1) := by decide +kernel
theorem dX6_simulate_60 : decode cX6_simulate 60 = .ok (.l2i, 1) := by decide +kernel
theorem dX6_simulate_61 : decode cX6_simulate 61 = .ok (.istore 7, 2) := by decide +kernel
theorem dX6_simulate_63 : decode cX6_simulate 63 = .ok (.aload_n 0, 1) := by decide +kernel
theorem dX6_simulate_64 : decode cX6_simulate 64 = .ok (.getfield 45, 3) := by decide +kernel
theorem dX6_simulate_67 : decode cX6_simulate 67 = .ok (.iload 7, 2) := by decide +kernel
theorem dX6_simulate_69 : decode cX6_simulate 69 = .ok (.bipush 30, 2) := by decide +kernel
theorem dX6_simulate_71 : decode cX6_simulate 71 = .ok (.irem, 1) := by decide +kernel
theorem dX6_simulate_72 : decode cX6_simulate 72 = .ok (.bipush 10, 2) := by decide +kernel
theorem dX6_simulate_74 : decode cX6_simulate 74 = .ok (.isub, 1) := by decide +kernel
theorem dX6_simulate_75 : decode cX6_simulate 75 = .ok (.putfield 175, 3) := by decide +kernel
theorem dX6_simulate_78 : decode cX6_simulate 78 = .ok (.iload 7, 2) := by decide +kernel
theorem dX6_simulate_80 : decode cX6_simulate 80 = .ok (.bipush 64, 2) := by decide +kernel
theorem dX6_simulate_82 : decode cX6_simulate 82 = .ok (.idiv, 1) := by decide +kernel
theorem dX6_simulate_83 : decode cX6_simulate 83 = .ok (.bipush 8, 2) := by decide +kernel
theorem dX6_simulate_85 : decode cX6_simulate 85 = .ok (.irem, 1) := by decide +kernel
theorem dX6_simulate_86 : decode cX6_simulate 86 = .ok (.ifCond .ne 10, 3) := by decide +kernel
theorem dX6_simulate_89 : decode cX6_simulate 89 = .ok (.aload_n 0, 1) := by decide +kernel
theorem dX6_simulate_90 : decode cX6_simulate 90 = .ok (.getfield 45, 3) := by decide +kernel
theorem dX6_simulate_93 : decode cX6_simulate 93 = .ok (.invokevirtual 242, 3) := by decide +kernel
theorem dX6_simulate_96 : decode cX6_simulate 96 = .ok (.aload_n 0, 1) := by decide +kernel
theorem dX6_simulate_97 : decode cX6_simulate 97 = .ok (.getfield 45, 3) := by decide +kernel
theorem dX6_simulate_100 : decode cX6_simulate 100 = .ok (.invokevirtual 209, 3) := by decide +kernel
theorem dX6_simulate_103 : decode cX6_simulate 103 = .ok (.iinc 6 1, 3) := by decide +kernel
theorem dX6_simulate_106 : decode cX6_simulate 106 = .ok (.goto (-82), 3) := by decide +kernel
theorem dX6_simulate_109 : decode cX6_simulate 109 = .ok (.aload_n 0, 1) := by decide +kernel
theorem dX6_simulate_110 : decode cX6_simulate 110 = .ok (.getfield 45, 3) := by decide +kernel
theorem dX6_simulate_113 : decode cX6_simulate 113 = .ok (.getfield 245, 3) := by decide +kernel
theorem dX6_simulate_116 : decode cX6_simulate 116 = .ok (.aload_n 0, 1) := by decide +kernel
theorem dX6_simulate_117 : decode cX6_simulate 117 = .ok (.getfield 19, 3) := by decide +kernel
theorem dX6_simulate_120 : decode cX6_simulate 120 = .ok (.getfield 245, 3) := by decide +kernel
theorem dX6_simulate_123 : decode cX6_simulate 123 = .ok (.isub, 1) := by decide +kernel
theorem dX6_simulate_124 : decode cX6_simulate 124 = .ok (.sipush 9999, 3) := by decide +kernel
theorem dX6_simulate_127 : decode cX6_simulate 127 = .ok (.invokestatic 248, 3) := by decide +kernel
theorem dX6_simulate_130 : decode cX6_simulate 130 = .ok (.istore 6, 2) := by decide +kernel
theorem dX6_simulate_132 : decode cX6_simulate 132 = .ok (.sipush 1000, 3) := by decide +kernel
theorem dX6_simulate_135 : decode cX6_simulate 135 = .ok (.iload 6, 2) := by decide +kernel
theorem dX6_simulate_137 : decode cX6_simulate 137 = .ok (.imul, 1) := by decide +kernel
theorem dX6_simulate_138 : decode cX6_simulate 138 = .ok (.aload_n 0, 1) := by decide +kernel
theorem dX6_simulate_139 : decode cX6_simulate 139 = .ok (.getfield 45, 3) := by decide +kernel
theorem dX6_simulate_142 : decode cX6_simulate 142 = .ok (.getfield 254, 3) := by decide +kernel
theorem dX6_simulate_145 : decode cX6_simulate 145 = .ok (.aload_n 0, 1) := by decide +kernel
theorem dX6_simulate_146 : decode cX6_simulate 146 = .ok (.getfield 19, 3) := by decide +kernel
theorem dX6_simulate_149 : decode cX6_simulate 149 = .ok (.getfield 254, 3) := by decide +kernel
theorem dX6_simulate_152 : decode cX6_simulate 152 = .ok (.isub, 1) := by decide +kernel
theorem dX6_simulate_153 : decode cX6_simulate 153 = .ok (.iadd, 1) := by decide +kernel
theorem dX6_simulate_154 : decode cX6_simulate 154 = .ok (.ireturn, 1) := by decide +kernel
theorem dX6_save_0 : decode cX6_save 0 = .ok (.iload_n 1, 1) := by decide +kernel
theorem dX6_save_1 : decode cX6_save 1 = .ok (.invokestatic 257, 3) := by decide +kernel
theorem dX6_save_4 : decode cX6_save 4 = .ok (.aload_n 0, 1) := by decide +kernel
theorem dX6_save_5 : decode cX6_save 5 = .ok (.getfield 30, 3) := by decide +kernel
theorem dX6_save_8 : decode cX6_save 8 = .ok (.iload_n 1, 1) := by decide +kernel
theorem dX6_save_9 : decode cX6_save 9 = .ok (.aaload, 1) := by decide +kernel
theorem dX6_save_10 : decode cX6_save 10 = .ok (.aload_n 0, 1) := by decide +kernel
theorem dX6_save_11 : decode cX6_save 11 = .ok (.getfield 19, 3) := by decide +kernel
theorem dX6_save_14 : decode cX6_save 14 = .ok (.invokevirtual 76, 3) := by decide +kernel
theorem dX6_save_17 : decode cX6_save 17 = .ok (.aload_n 0, 1) := by decide +kernel
theorem dX6_save_18 : decode cX6_save 18 = .ok (.getfield 34, 3) := by decide +kernel
theorem dX6_save_21 : decode cX6_save 21 = .ok (.iload_n 1, 1) := by decide +kernel
theorem dX6_save_22 : decode cX6_save 22 = .ok (.iconst 1, 1) := by decide +kernel
theorem dX6_save_23 : decode cX6_save 23 = .ok (.bastore, 1) := by decide +kernel
theorem dX6_save_24 : decode cX6_save 24 = .ok (.aload_n 0, 1) := by decide +kernel
theorem dX6_save_25 : decode cX6_save 25 = .ok (.getfield 19, 3) := by decide +kernel
theorem dX6_save_28 : decode cX6_save 28 = .ok (.getfield 116, 3) := by decide +kernel
theorem dX6_save_31 : decode cX6_save 31 = .ok (.ireturn, 1) := by decide +kernel
theorem dX6_restore_0 : decode cX6_restore 0 = .ok (.iload_n 1, 1) := by decide +kernel
theorem dX6_restore_1 : decode cX6_restore 1 = .ok (.invokestatic 257, 3) := by decide +kernel
theorem dX6_restore_4 : decode cX6_restore 4 = .ok (.aload_n 0, 1) := by decide +kernel
theorem dX6_restore_5 : decode cX6_restore 5 = .ok (.getfield 34, 3) := by decide +kernel
theorem dX6_restore_8 : decode cX6_restore 8 = .ok (.iload_n 1, 1) := by decide +kernel
theorem dX6_restore_9 : decode cX6_restore 9 = .ok (.baload, 1) := by decide +kernel
theorem dX6_restore_10 : decode cX6_restore 10 = .ok (.ifCond .ne 14, 3) := by decide +kernel
theorem dX6_restore_13 : decode cX6_restore 13 = .ok (.new 59, 3) := by decide +kernel
theorem dX6_restore_16 : decode cX6_restore 16 = .ok (.dup, 1) := by decide +kernel
theorem dX6_restore_17 : decode cX6_restore 17 = .ok (.ldc_w 260, 3) := by decide +kernel
theorem dX6_restore_20 : decode cX6_restore 20 = .ok (.invokespecial 63, 3) := by decide +kernel
theorem dX6_restore_23 : decode cX6_restore 23 = .ok (.athrow, 1) := by decide +kernel
theorem dX6_restore_24 : decode cX6_restore 24 = .ok (.aload_n 0, 1) := by decide +kernel
theorem dX6_restore_25 : decode cX6_restore 25 = .ok (.getfield 19, 3) := by decide +kernel
theorem dX6_restore_28 : decode cX6_restore 28 = .ok (.aload_n 0, 1) := by decide +kernel
theorem dX6_restore_29 : decode cX6_restore 29 = .ok (.getfield 30, 3) := by decide +kernel
theorem dX6_restore_32 : decode cX6_restore 32 = .ok (.iload_n 1, 1) := by decide +kernel
theorem dX6_restore_33 : decode cX6_restore 33 = .ok (.aaload, 1) := by decide +kernel
theorem dX6_restore_34 : decode cX6_restore 34 = .ok (.invokevirtual 76, 3) := by decide +kernel
theorem dX6_restore_37 : decode cX6_restore 37 = .ok (.aload_n 0, 1) := by decide +kernel
theorem dX6_restore_38 : decode cX6_restore 38 = .ok (.getfield 26, 3) := by decide +kernel
theorem dX6_restore_41 : decode cX6_restore 41 = .ok (.invokevirtual 80, 3) := by decide +kernel
theorem dX6_restore_44 : decode cX6_restore 44 = .ok (.aload_n 0, 1) := by decide +kernel
theorem dX6_restore_45 : decode cX6_restore 45 = .ok (.getfield 19, 3) := by decide +kernel
theorem dX6_restore_48 : decode cX6_restore 48 = .ok (.getfield 116, 3) := by decide +kernel
theorem dX6_restore_51 : decode cX6_restore 51 = .ok (.ireturn, 1) := by decide +kernel
theorem dX6_requireRange_0 : decode cX6_requireRange 0 = .ok (.iload_n 0, 1) := by decide +kernel
theorem dX6_requireRange_1 : decode cX6_requireRange 1 = .ok (.iload_n 1, 1) := by decide +kernel
theorem dX6_requireRange_2 : decode cX6_requireRange 2 = .ok (.if_icmp .lt 8, 3) := by decide +kernel
theorem dX6_requireRange_5 : decode cX6_requireRange 5 = .ok (.iload_n 0, 1) := by decide +kernel
theorem dX6_requireRange_6 : decode cX6_requireRange 6 = .ok (.iload_n 2, 1) := by decide +kernel
theorem dX6_requireRange_7 : decode cX6_requireRange 7 = .ok (.if_icmp .le 14, 3) := by decide +kernel
theorem dX6_requireRange_10 : decode cX6_requireRange 10 = .ok (.new 225, 3) := by decide +kernel
theorem dX6_requireRange_13 : decode cX6_requireRange 13 = .ok (.dup, 1) := by decide +kernel
theorem dX6_requireRange_14 : decode cX6_requireRange 14 = .ok (.ldc_w 262, 3) := by decide +kernel
theorem dX6_requireRange_17 : decode cX6_requireRange 17 = .ok (.invokespecial 229, 3) := by decide +kernel
theorem dX6_requireRange_20 : decode cX6_requireRange 20 = .ok (.athrow, 1) := by decide +kernel
theorem dX6_requireRange_21 : decode cX6_requireRange 21 = .ok (.return_, 1) := by decide +kernel
theorem dX6_requireRoom_0 : decode cX6_requireRoom 0 = .ok (.aload_n 0, 1) := by decide +kernel
theorem dX6_requireRoom_1 : decode cX6_requireRoom 1 = .ok (.getfield 19, 3) := by decide +kernel
theorem dX6_requireRoom_4 : decode cX6_requireRoom 4 = .ok (.iload_n 1, 1) := by decide +kernel
theorem dX6_requireRoom_5 : decode cX6_requireRoom 5 = .ok (.invokevirtual 197, 3) := by decide +kernel
theorem dX6_requireRoom_8 : decode cX6_requireRoom 8 = .ok (.astore_n 2, 1) := by decide +kernel
theorem dX6_requireRoom_9 : decode cX6_requireRoom 9 = .ok (.aload_n 2, 1) := by decide +kernel
theorem dX6_requireRoom_10 : decode cX6_requireRoom 10 = .ok (.ifnonnull 14, 3) := by decide +kernel
theorem dX6_requireRoom_13 : decode cX6_requireRoom 13 = .ok (.new 264, 3) := by decide +kernel
theorem dX6_requireRoom_16 : decode cX6_requireRoom 16 = .ok (.dup, 1) := by decide +kernel
theorem dX6_requireRoom_17 : decode cX6_requireRoom 17 = .ok (.ldc_w 266, 3) := by decide +kernel
theorem dX6_requireRoom_20 : decode cX6_requireRoom 20 = .ok (.invokespecial 268, 3) := by decide +kernel
theorem dX6_requireRoom_23 : decode cX6_requireRoom 23 = .ok (.athrow, 1) := by decide +kernel
theorem dX6_requireRoom_24 : decode cX6_requireRoom 24 = .ok (.aload_n 2, 1) := by decide +kernel
theorem dX6_requireRoom_25 : decode cX6_requireRoom 25 = .ok (.areturn, 1) := by decide +kernel
theorem dX6_requireGroup_0 : decode cX6_requireGroup 0 = .ok (.aload_n 0, 1) := by decide +kernel
theorem dX6_requireGroup_1 : decode cX6_requireGroup 1 = .ok (.getfield 19, 3) := by decide +kernel
theorem dX6_requireGroup_4 : decode cX6_requireGroup 4 = .ok (.iload_n 1, 1) := by decide +kernel
theorem dX6_requireGroup_5 : decode cX6_requireGroup 5 = .ok (.invokevirtual 269, 3) := by decide +kernel
theorem dX6_requireGroup_8 : decode cX6_requireGroup 8 = .ok (.ifCond .ne 14, 3) := by decide +kernel
theorem dX6_requireGroup_11 : decode cX6_requireGroup 11 = .ok (.new 264, 3) := by decide +kernel
theorem dX6_requireGroup_14 : decode cX6_requireGroup 14 = .ok (.dup, 1) := by decide +kernel
theorem dX6_requireGroup_15 : decode cX6_requireGroup 15 = .ok (.ldc_w 272, 3) := by decide +kernel
theorem dX6_requireGroup_18 : decode cX6_requireGroup 18 = .ok (.invokespecial 268, 3) := by decide +kernel
theorem dX6_requireGroup_21 : decode cX6_requireGroup 21 = .ok (.athrow, 1) := by decide +kernel
theorem dX6_requireGroup_22 : decode cX6_requireGroup 22 = .ok (.return_, 1) := by decide +kernel
theorem dX6_requireBooking_0 : decode cX6_requireBooking 0 = .ok (.aload_n 0, 1) := by decide +kernel
theorem dX6_requireBooking_1 : decode cX6_requireBooking 1 = .ok (.getfield 19, 3) := by decide +kernel
theorem dX6_requireBooking_4 : decode cX6_requireBooking 4 = .ok (.iload_n 1, 1) := by decide +kernel
theorem dX6_requireBooking_5 : decode cX6_requireBooking 5 = .ok (.invokevirtual 274, 3) := by decide +kernel
theorem dX6_requireBooking_8 : decode cX6_requireBooking 8 = .ok (.astore_n 2, 1) := by decide +kernel
theorem dX6_requireBooking_9 : decode cX6_requireBooking 9 = .ok (.aload_n 2, 1) := by decide +kernel
theorem dX6_requireBooking_10 : decode cX6_requireBooking 10 = .ok (.ifnonnull 14, 3) := by decide +kernel
theorem dX6_requireBooking_13 : decode cX6_requireBooking 13 = .ok (.new 264, 3) := by decide +kernel
theorem dX6_requireBooking_16 : decode cX6_requireBooking 16 = .ok (.dup, 1) := by decide +kernel
theorem dX6_requireBooking_17 : decode cX6_requireBooking 17 = .ok (.ldc_w 277, 3) := by decide +kernel
theorem dX6_requireBooking_20 : decode cX6_requireBooking 20 = .ok (.invokespecial 268, 3) := by decide +kernel
theorem dX6_requireBooking_23 : decode cX6_requireBooking 23 = .ok (.athrow, 1) := by decide +kernel
theorem dX6_requireBooking_24 : decode cX6_requireBooking 24 = .ok (.aload_n 2, 1) := by decide +kernel
theorem dX6_requireBooking_25 : decode cX6_requireBooking 25 = .ok (.areturn, 1) := by decide +kernel
theorem dX6_requireSlot_0 : decode cX6_requireSlot 0 = .ok (.iload_n 0, 1) := by decide +kernel
theorem dX6_requireSlot_1 : decode cX6_requireSlot 1 = .ok (.ifCond .lt 8, 3) := by decide +kernel
theorem dX6_requireSlot_4 : decode cX6_requireSlot 4 = .ok (.iload_n 0, 1) := by decide +kernel
theorem dX6_requireSlot_5 : decode cX6_requireSlot 5 = .ok (.iconst 2, 1) := by decide +kernel
theorem dX6_requireSlot_6 : decode cX6_requireSlot 6 = .ok (.if_icmp .lt 14, 3) := by decide +kernel
theorem dX6_requireSlot_9 : decode cX6_requireSlot 9 = .ok (.new 264, 3) := by decide +kernel
theorem dX6_requireSlot_12 : decode cX6_requireSlot 12 = .ok (.dup, 1) := by decide +kernel
theorem dX6_requireSlot_13 : decode cX6_requireSlot 13 = .ok (.ldc_w 279, 3) := by decide +kernel
theorem dX6_requireSlot_16 : decode cX6_requireSlot 16 = .ok (.invokespecial 268, 3) := by decide +kernel
theorem dX6_requireSlot_19 : decode cX6_requireSlot 19 = .ok (.athrow, 1) := by decide +kernel
theorem dX6_requireSlot_20 : decode cX6_requireSlot 20 = .ok (.return_, 1) := by decide +kernel
theorem dX6_requireBookingArguments_0 : decode cX6_requireBookingArguments 0 = .ok (.aload_n 0, 1) := by decide +kernel
theorem dX6_requireBookingArguments_1 : decode cX6_requireBookingArguments 1 = .ok (.iload_n 1, 1) := by decide +kernel
theorem dX6_requireBookingArguments_2 : decode cX6_requireBookingArguments 2 = .ok (.invokevirtual 90, 3) := by decide +kernel
theorem dX6_requireBookingArguments_5 : decode cX6_requireBookingArguments 5 = .ok (.pop, 1) := by decide +kernel
theorem dX6_requireBookingArguments_6 : decode cX6_requireBookingArguments 6 = .ok (.aload_n 0, 1) := by decide +kernel
theorem dX6_requireBookingArguments_7 : decode cX6_requireBookingArguments 7 = .ok (.iload_n 2, 1) := by decide +kernel
theorem dX6_requireBookingArguments_8 : decode cX6_requireBookingArguments 8 = .ok (.invokevirtual 106, 3) := by decide +kernel
theorem dX6_requireBookingArguments_11 : decode cX6_requireBookingArguments 11 = .ok (.iload_n 3, 1) := by decide +kernel
theorem dX6_requireBookingArguments_12 : decode cX6_requireBookingArguments 12 = .ok (.aload_n 0, 1) := by decide +kernel
theorem dX6_requireBookingArguments_13 : decode cX6_requireBookingArguments 13 = .ok (.getfield 19, 3) := by decide +kernel
theorem dX6_requireBookingArguments_16 : decode cX6_requireBookingArguments 16 = .ok (.getfield 116, 3) := by decide +kernel
theorem dX6_requireBookingArguments_19 : decode cX6_requireBookingArguments 19 = .ok (.sipush 199, 3) := by decide +kernel
theorem dX6_requireBookingArguments_22 : decode cX6_requireBookingArguments 22 = .ok (.invokestatic 51, 3) := by decide +kernel
theorem dX6_requireBookingArguments_25 : decode cX6_requireBookingArguments 25 = .ok (.iload 4, 2) := by decide +kernel
theorem dX6_requireBookingArguments_27 : decode cX6_requireBookingArguments 27 = .ok (.iconst 1, 1) := by decide +kernel
theorem dX6_requireBookingArguments_28 : decode cX6_requireBookingArguments 28 = .ok (.bipush 12, 2) := by decide +kernel
theorem dX6_requireBookingArguments_30 : decode cX6_requireBookingArguments 30 = .ok (.invokestatic 51, 3) := by decide +kernel
theorem dX6_requireBookingArguments_33 : decode cX6_requireBookingArguments 33 = .ok (.iload 5, 2) := by decide +kernel
theorem dX6_requireBookingArguments_35 : decode cX6_requireBookingArguments 35 = .ok (.bipush 12, 2) := by decide +kernel
theorem dX6_requireBookingArguments_37 : decode cX6_requireBookingArguments 37 = .ok (.bipush 25, 2) := by decide +kernel
theorem dX6_requireBookingArguments_39 : decode cX6_requireBookingArguments 39 = .ok (.invokestatic 51, 3) := by decide +kernel
theorem dX6_requireBookingArguments_42 : decode cX6_requireBookingArguments 42 = .ok (.return_, 1) := by decide +kernel
theorem dX7_init_0 : decode cX7_init 0 = .ok (.aload_n 0, 1) := by decide +kernel
theorem dX7_init_1 : decode cX7_init 1 = .ok (.invokespecial 1, 3) := by decide +kernel
theorem dX7_init_4 : decode cX7_init 4 = .ok (.aload_n 0, 1) := by decide +kernel
theorem dX7_init_5 : decode cX7_init 5 = .ok (.bipush 120, 2) := by decide +kernel
theorem dX7_init_7 : decode cX7_init 7 = .ok (.newarray .int, 2) := by decide +kernel
theorem dX7_init_9 : decode cX7_init 9 = .ok (.putfield 7, 3) := by decide +kernel
theorem dX7_init_12 : decode cX7_init 12 = .ok (.aload_n 0, 1) := by decide +kernel
theorem dX7_init_13 : decode cX7_init 13 = .ok (.sipush 151, 3) := by decide +kernel
theorem dX7_init_16 : decode cX7_init 16 = .ok (.newarray .int, 2) := by decide +kernel
theorem dX7_init_18 : decode cX7_init 18 = .ok (.putfield 13, 3) := by decide +kernel
theorem dX7_init_21 : decode cX7_init 21 = .ok (.aload_n 0, 1) := by decide +kernel
theorem dX7_init_22 : decode cX7_init 22 = .ok (.sipush 151, 3) := by decide +kernel
theorem dX7_init_25 : decode cX7_init 25 = .ok (.newarray .int, 2) := by decide +kernel
theorem dX7_init_27 : decode cX7_init 27 = .ok (.putfield 16, 3) := by decide +kernel
theorem dX7_init_30 : decode cX7_init 30 = .ok (.aload_n 0, 1) := by decide +kernel
theorem dX7_init_31 : decode cX7_init 31 = .ok (.sipush 151, 3) := by decide +kernel
theorem dX7_init_34 : decode cX7_init 34 = .ok (.newarray .int, 2) := by decide +kernel
theorem dX7_init_36 : decode cX7_init 36 = .ok (.putfield 19, 3) := by decide +kernel
theorem dX7_init_39 : decode cX7_init 39 = .ok (.aload_n 0, 1) := by decide +kernel
theorem dX7_init_40 : decode cX7_init 40 = .ok (.sipush 2114, 3) := by decide +kernel
theorem dX7_init_43 : decode cX7_init 43 = .ok (.newarray .int, 2) := by decide +kernel
theorem dX7_init_45 : decode cX7_init 45 = .ok (.putfield 22, 3) := by decide +kernel
theorem dX7_init_48 : decode cX7_init 48 = .ok (.aload_n 0, 1) := by decide +kernel
theorem dX7_init_49 : decode cX7_init 49 = .ok (.sipush 302, 3) := by decide +kernel
theorem dX7_init_52 : decode cX7_init 52 = .ok (.newarray .int, 2) := by decide +kernel
theorem dX7_init_54 : decode cX7_init 54 = .ok (.putfield 25, 3) := by decide +kernel
theorem dX7_init_57 : decode cX7_init 57 = .ok (.aload_n 0, 1) := by decide +kernel
theorem dX7_init_58 : decode cX7_init 58 = .ok (.iconst 2, 1) := by decide +kernel
theorem dX7_init_59 : decode cX7_init 59 = .ok (.newarray .boolean, 2) := by decide +kernel
theorem dX7_init_61 : decode cX7_init 61 = .ok (.putfield 28, 3) := by decide +kernel
theorem dX7_init_64 : decode cX7_init 64 = .ok (.aload_n 0, 1) := by decide +kernel
theorem dX7_init_65 : decode cX7_init 65 = .ok (.getfield 16, 3) := by decide +kernel
theorem dX7_init_68 : decode cX7_init 68 = .ok (.invokestatic 32, 3) := by decide +kernel
theorem dX7_init_71 : decode cX7_init 71 = .ok (.return_, 1) := by decide +kernel
theorem dX7_thrown_0 : decode cX7_thrown 0 = .ok (.aload_n 0, 1) := by decide +kernel
theorem dX7_thrown_1 : decode cX7_thrown 1 = .ok (.getfield 36, 3) := by decide +kernel
theorem dX7_thrown_4 : decode cX7_thrown 4 = .ok (.ireturn, 1) := by decide +kernel
theorem dX7_refused_0 : decode cX7_refused 0 = .ok (.aload_n 0, 1) := by decide +kernel
theorem dX7_refused_1 : decode cX7_refused 1 = .ok (.iload_n 1, 1) := by decide +kernel
theorem dX7_refused_2 : decode cX7_refused 2 = .ok (.putfield 36, 3) := by decide +kernel
theorem dX7_refused_5 : decode cX7_refused 5 = .ok (.iload_n 1, 1) := by decide +kernel
theorem dX7_refused_6 : decode cX7_refused 6 = .ok (.ifCond .le 7, 3) := by decide +kernel
theorem dX7_refused_9 : decode cX7_refused 9 = .ok (.iconst 1, 1) := by decide +kernel
theorem dX7_refused_10 : decode cX7_refused 10 = .ok (.goto 4, 3) := by decide +kernel
theorem dX7_refused_13 : decode cX7_refused 13 = .ok (.iconst 0, 1) := by decide +kernel
theorem dX7_refused_14 : decode cX7_refused 14 = .ok (.ireturn, 1) := by decide +kernel
theorem dX7_in_0 : decode cX7_in 0 = .ok (.lload_n 0, 1) := by decide +kernel
theorem dX7_in_1 : decode cX7_in 1 = .ok (.lload_n 2, 1) := by decide +kernel
theorem dX7_in_2 : decode cX7_in 2 = .ok (.lcmp, 1) := by decide +kernel
theorem dX7_in_3 : decode cX7_in 3 = .ok (.ifCond .lt 14, 3) := by decide +kernel
theorem dX7_in_6 : decode cX7_in 6 = .ok (.lload_n 0, 1) := by decide +kernel
theorem dX7_in_7 : decode cX7_in 7 = .ok (.lload 4, 2) := by decide +kernel
theorem dX7_in_9 : decode cX7_in 9 = .ok (.lcmp, 1) := by decide +kernel
theorem dX7_in_10 : decode cX7_in 10 = .ok (.ifCond .gt 7, 3) := by decide +kernel
theorem dX7_in_13 : decode cX7_in 13 = .ok (.iconst 1, 1) := by decide +kernel
theorem dX7_in_14 : decode cX7_in 14 = .ok (.goto 4, 3) := by decide +kernel
theorem dX7_in_17 : decode cX7_in 17 = .ok (.iconst 0, 1) := by decide +kernel
theorem dX7_in_18 : decode cX7_in 18 = .ok (.ireturn, 1) := by decide +kernel
theorem dX7_copy_0 : decode cX7_copy 0 = .ok (.iconst 0, 1) := by decide +kernel
theorem dX7_copy_1 : decode cX7_copy 1 = .ok (.istore 5, 2) := by decide +kernel
theorem dX7_copy_3 : decode cX7_copy 3 = .ok (.iload 5, 2) := by decide +kernel
theorem dX7_copy_5 : decode cX7_copy 5 = .ok (.iload 4, 2) := by decide +kernel
theorem dX7_copy_7 : decode cX7_copy 7 = .ok (.if_icmp .ge 21, 3) := by decide +kernel
theorem dX7_copy_10 : decode cX7_copy 10 = .ok (.aload_n 2, 1) := by decide +kernel
theorem dX7_copy_11 : decode cX7_copy 11 = .ok (.iload_n 3, 1) := by decide +kernel
theorem dX7_copy_12 : decode cX7_copy 12 = .ok (.iload 5, 2) := by decide +kernel
theorem dX7_copy_14 : decode cX7_copy 14 = .ok (.iadd, 1) := by decide +kernel
theorem dX7_copy_15 : decode cX7_copy 15 = .ok (.aload_n 0, 1) := by decide +kernel
theorem dX7_copy_16 : decode cX7_copy 16 = .ok (.iload_n 1, 1) := by decide +kernel
theorem dX7_copy_17 : decode cX7_copy 17 = .ok (.iload 5, 2) := by decide +kernel
theorem dX7_copy_19 : decode cX7_copy 19 = .ok (.iadd, 1) := by decide +kernel
theorem dX7_copy_20 : decode cX7_copy 20 = .ok (.iaload, 1) := by decide +kernel
theorem dX7_copy_21 : decode cX7_copy 21 = .ok (.iastore, 1) := by decide +kernel
theorem dX7_copy_22 : decode cX7_copy 22 = .ok (.iinc 5 1, 3) := by decide +kernel
theorem dX7_copy_25 : decode cX7_copy 25 = .ok (.goto (-22), 3) := by decide +kernel
theorem dX7_copy_28 : decode cX7_copy 28 = .ok (.return_, 1) := by decide +kernel
theorem dX7_tenTo_0 : decode cX7_tenTo 0 = .ok (.lconst 1, 1) := by decide +kernel
theorem dX7_tenTo_1 : decode cX7_tenTo 1 = .ok (.lstore_n 1, 1) := by decide +kernel
theorem dX7_tenTo_2 : decode cX7_tenTo 2 = .ok (.iconst 0, 1) := by decide +kernel
theorem dX7_tenTo_3 : decode cX7_tenTo 3 = .ok (.istore_n 3, 1) := by decide +kernel
theorem dX7_tenTo_4 : decode cX7_tenTo 4 = .ok (.iload_n 3, 1) := by decide +kernel
theorem dX7_tenTo_5 : decode cX7_tenTo 5 = .ok (.iload_n 0, 1) := by decide +kernel
theorem dX7_tenTo_6 : decode cX7_tenTo 6 = .ok (.if_icmp .ge 15, 3) := by decide +kernel
theorem dX7_tenTo_9 : decode cX7_tenTo 9 = .ok (.lload_n 1, 1) := by decide +kernel
theorem dX7_tenTo_10 : decode cX7_tenTo 10 = .ok (.ldc2_w 40, 3) := by decide +kernel
theorem dX7_tenTo_13 : decode cX7_tenTo 13 = .ok (.lmul, 1) := by decide +kernel
theorem dX7_tenTo_14 : decode cX7_tenTo 14 = .ok (.lstore_n 1, 1) := by decide +kernel
theorem dX7_tenTo_15 : decode cX7_tenTo 15 = .ok (.iinc 3 1, 3) := by decide +kernel
theorem dX7_tenTo_18 : decode cX7_tenTo 18 = .ok (.goto (-14), 3) := by decide +kernel
theorem dX7_tenTo_21 : decode cX7_tenTo 21 = .ok (.lload_n 1, 1) := by decide +kernel
theorem dX7_tenTo_22 : decode cX7_tenTo 22 = .ok (.lreturn, 1) := by decide +kernel
theorem dX7_clean_0 : decode cX7_clean 0 = .ok (.iconst 0, 1) := by decide +kernel
theorem dX7_clean_1 : decode cX7_clean 1 = .ok (.istore_n 1, 1) := by decide +kernel
theorem dX7_clean_2 : decode cX7_clean 2 = .ok (.iload_n 1, 1) := by decide +kernel
theorem dX7_clean_3 : decode cX7_clean 3 = .ok (.sipush 151, 3) := by decide +kernel
theorem dX7_clean_6 : decode cX7_clean 6 = .ok (.if_icmp .ge 13, 3) := by decide +kernel
theorem dX7_clean_9 : decode cX7_clean 9 = .ok (.aload_n 0, 1) := by decide +kernel
theorem dX7_clean_10 : decode cX7_clean 10 = .ok (.iload_n 1, 1) := by decide +kernel
theorem dX7_clean_11 : decode cX7_clean 11 = .ok (.iconst 0, 1) := by decide +kernel
theorem dX7_clean_12 : decode cX7_clean 12 = .ok (.iastore, 1) := by decide +kernel
theorem dX7_clean_13 : decode cX7_clean 13 = .ok (.iinc 1 1, 3) := by decide +kernel
theorem dX7_clean_16 : decode cX7_clean 16 = .ok (.goto (-14), 3) := by decide +kernel
theorem dX7_clean_19 : decode cX7_clean 19 = .ok (.aload_n 0, 1) := by decide +kernel
theorem dX7_clean_20 : decode cX7_clean 20 = .ok (.iconst 4, 1) := by decide +kernel
theorem dX7_clean_21 : decode cX7_clean 21 = .ok (.iconst 5, 1) := by decide +kernel
theorem dX7_clean_22 : decode cX7_clean 22 = .ok (.iastore, 1) := by decide +kernel
theorem dX7_clean_23 : decode cX7_clean 23 = .ok (.return_, 1) := by decide +kernel
theorem dX7_remember_0 : decode cX7_remember 0 = .ok (.aload_n 0, 1) := by decide +kernel
theorem dX7_remember_1 : decode cX7_remember 1 = .ok (.getfield 42, 3) := by decide +kernel
theorem dX7_remember_4 : decode cX7_remember 4 = .ok (.bipush 14, 2) := by decide +kernel
theorem dX7_remember_6 : decode cX7_remember 6 = .ok (.if_icmp .ne 31, 3) := by decide +kernel
theorem dX7_remember_9 : decode cX7_remember 9 = .ok (.aload_n 0, 1) := by decide +kernel
theorem dX7_remember_10 : decode cX7_remember 10 = .ok (.getfield 22, 3) := by decide +kernel
theorem dX7_remember_13 : decode cX7_remember 13 = .ok (.sipush 151, 3) := by decide +kernel
theorem dX7_remember_16 : decode cX7_remember 16 = .ok (.aload_n 0, 1) := by decide +kernel
theorem dX7_remember_17 : decode cX7_remember 17 = .ok (.getfield 22, 3) := by decide +kernel
theorem dX7_remember_20 : decode cX7_remember 20 = .ok (.iconst 0, 1) := by decide +kernel
theorem dX7_remember_21 : decode cX7_remember 21 = .ok (.sipush 1963, 3) := by decide +kernel
theorem dX7_remember_24 : decode cX7_remember 24 = .ok (.invokestatic 45, 3) := by decide +kernel
theorem dX7_remember_27 : decode cX7_remember 27 = .ok (.aload_n 0, 1) := by decide +kernel
theorem dX7_remember_28 : decode cX7_remember 28 = .ok (.dup, 1) := by decide +kernel
theorem dX7_remember_29 : decode cX7_remember 29 = .ok (.getfield 42, 3) := by decide +kernel
theorem dX7_remember_32 : decode cX7_remember 32 = .ok (.iconst 1, 1) := by decide +kernel
theorem dX7_remember_33 : decode cX7_remember 33 = .ok (.isub, 1) := by decide +kernel
theorem dX7_remember_34 : decode cX7_remember 34 = .ok (.putfield 42, 3) := by decide +kernel
theorem dX7_remember_37 : decode cX7_remember 37 = .ok (.aload_n 0, 1) := by decide +kernel
theorem dX7_remember_38 : decode cX7_remember 38 = .ok (.getfield 16, 3) := by decide +kernel
theorem dX7_remember_41 : decode cX7_remember 41 = .ok (.iconst 0, 1) := by decide +kernel
theorem dX7_remember_42 : decode cX7_remember 42 = .ok (.aload_n 0, 1) := by decide +kernel
theorem dX7_remember_43 : decode cX7_remember 43 = .ok (.getfield 22, 3) := by decide +kernel
theorem dX7_remember_46 : decode cX7_remember 46 = .ok (.sipush 151, 3) := by decide +kernel
theorem dX7_remember_49 : decode cX7_remember 49 = .ok (.aload_n 0, 1) := by decide +kernel
theorem dX7_remember_50 : decode cX7_remember 50 = .ok (.getfield 42, 3) := by decide +kernel
theorem dX7_remember_53 : decode cX7_remember 53 = .ok (.imul, 1) := by decide +kernel
theorem dX7_remember_54 : decode cX7_remember 54 = .ok (.sipush 151, 3) := by decide +kernel
theorem dX7_remember_57 : decode cX7_remember 57 = .ok (.invokestatic 45, 3) := by decide +kernel
theorem dX7_remember_60 : decode cX7_remember 60 = .ok (.aload_n 0, 1) := by decide +kernel
theorem dX7_remember_61 : decode cX7_remember 61 = .ok (.dup, 1) := by decide +kernel
theorem dX7_remember_62 : decode cX7_remember 62 = .ok (.getfield 42, 3) := by decide +kernel
theorem dX7_remember_65 : decode cX7_remember 65 = .ok (.iconst 1, 1) := by decide +kernel
theorem dX7_remember_66 : decode cX7_remember 66 = .ok (.iadd, 1) := by decide +kernel
theorem dX7_remember_67 : decode cX7_remember 67 = .ok (.putfield 42, 3) := by decide +kernel
theorem dX7_remember_70 : decode cX7_remember 70 = .ok (.return_, 1) := by decide +kernel
theorem dX7_begin_0 : decode cX7_begin 0 = .ok (.aload_n 0, 1) := by decide +kernel
theorem dX7_begin_1 : decode cX7_begin 1 = .ok (.getfield 16, 3) := by decide +kernel
theorem dX7_begin_4 : decode cX7_begin 4 = .ok (.iconst 0, 1) := by decide +kernel
theorem dX7_begin_5 : decode cX7_begin 5 = .ok (.aload_n 0, 1) := by decide +kernel
theorem dX7_begin_6 : decode cX7_begin 6 = .ok (.getfield 19, 3) := by decide +kernel
theorem dX7_begin_9 : decode cX7_begin 9 = .ok (.iconst 0, 1) := by decide +kernel
theorem dX7_begin_10 : decode cX7_begin 10 = .ok (.sipush 151, 3) := by decide +kernel
theorem dX7_begin_13 : decode cX7_begin 13 = .ok (.invokestatic 45, 3) := by decide +kernel
theorem dX7_begin_16 : decode cX7_begin 16 = .ok (.return_, 1) := by decide +kernel
theorem dX7_roomAt_0 : decode cX7_roomAt 0 = .ok (.bipush 9, 2) := by decide +kernel
theorem dX7_roomAt_2 : decode cX7_roomAt 2 = .ok (.iconst 4, 1) := by decide +kernel
theorem dX7_roomAt_3 : decode cX7_roomAt 3 = .ok (.iload_n 0, 1) := by decide +kernel
theorem dX7_roomAt_4 : decode cX7_roomAt 4 = .ok (.imul, 1) := by decide +kernel
theorem dX7_roomAt_5 : decode cX7_roomAt 5 = .ok (.iadd, 1) := by decide +kernel
theorem dX7_roomAt_6 : decode cX7_roomAt 6 = .ok (.iload_n 1, 1) := by decide +kernel
theorem dX7_roomAt_7 : decode cX7_roomAt 7 = .ok (.iadd, 1) := by decide +kernel
theorem dX7_roomAt_8 : decode cX7_roomAt 8 = .ok (.ireturn, 1) := by decide +kernel
theorem dX7_bookAt_0 : decode cX7_bookAt 0 = .ok (.bipush 31, 2) := by decide +kernel
theorem dX7_bookAt_2 : decode cX7_bookAt 2 = .ok (.bipush 10, 2) := by decide +kernel
theorem dX7_bookAt_4 : decode cX7_bookAt 4 = .ok (.iload_n 0, 1) := by decide +kernel
theorem dX7_bookAt_5 : decode cX7_bookAt 5 = .ok (.imul, 1) := by decide +kernel
theorem dX7_bookAt_6 : decode cX7_bookAt 6 = .ok (.iadd, 1) := by decide +kernel
theorem dX7_bookAt_7 : decode cX7_bookAt 7 = .ok (.iload_n 1, 1) := by decide +kernel
theorem dX7_bookAt_8 : decode cX7_bookAt 8 = .ok (.iadd, 1) := by decide +kernel
theorem dX7_bookAt_9 : decode cX7_bookAt 9 = .ok (.ireturn, 1) := by decide +kernel
theorem dX7_endOf_0 : decode cX7_endOf 0 = .ok (.aload_n 0, 1) := by decide +kernel
theorem dX7_endOf_1 : decode cX7_endOf 1 = .ok (.iload_n 1, 1) := by decide +kernel
theorem dX7_endOf_2 : decode cX7_endOf 2 = .ok (.iconst 2, 1) := by decide +kernel
theorem dX7_endOf_3 : decode cX7_endOf 3 = .ok (.invokestatic 49, 3) := by decide +kernel
theorem dX7_endOf_6 : decode cX7_endOf 6 = .ok (.iaload, 1) := by decide +kernel
theorem dX7_endOf_7 : decode cX7_endOf 7 = .ok (.aload_n 0, 1) := by decide +kernel
theorem dX7_endOf_8 : decode cX7_endOf 8 = .ok (.iload_n 1, 1) := by decide +kernel
theorem dX7_endOf_9 : decode cX7_endOf 9 = .ok (.iconst 3, 1) := by decide +kernel
theorem dX7_endOf_10 : decode cX7_endOf 10 = .ok (.invokestatic 49, 3) := by decide +kernel
theorem dX7_endOf_13 : decode cX7_endOf 13 = .ok (.iaload, 1) := by decide +kernel
theorem dX7_endOf_14 : decode cX7_endOf 14 = .ok (.iadd, 1) := by decide +kernel
theorem dX7_endOf_15 : decode cX7_endOf 15 = .ok (.ireturn, 1) := by decide +kernel
theorem dX7_isOver_0 : decode cX7_isOver 0 = .ok (.aload_n 0, 1) := by decide +kernel
theorem dX7_isOver_1 : decode cX7_isOver 1 = .ok (.iconst 0, 1) := by decide +kernel
theorem dX7_isOver_2 : decode cX7_isOver 2 = .ok (.iaload, 1) := by decide +kernel
theorem dX7_isOver_3 : decode cX7_isOver 3 = .ok (.aload_n 0, 1) := by decide +kernel
theorem dX7_isOver_4 : decode cX7_isOver 4 = .ok (.iload_n 1, 1) := by decide +kernel
theorem dX7_isOver_5 : decode cX7_isOver 5 = .ok (.invokestatic 53, 3) := by decide +kernel
theorem dX7_isOver_8 : decode cX7_isOver 8 = .ok (.if_icmp .lt 7, 3) := by decide +kernel
theorem dX7_isOver_11 : decode cX7_isOver 11 = .ok (.iconst 1, 1) := by decide +kernel
theorem dX7_isOver_12 : decode cX7_isOver 12 = .ok (.goto 4, 3) := by decide +kernel
theorem dX7_isOver_15 : decode cX7_isOver 15 = .ok (.iconst 0, 1) := by decide +kernel
theorem dX7_isOver_16 : decode cX7_isOver 16 = .ok (.ireturn, 1) := by decide +kernel
theorem dX7_currentOf_0 : decode cX7_currentOf 0 = .ok (.bipush (-99), 2) := by decide +kernel
theorem dX7_currentOf_2 : decode cX7_currentOf 2 = .ok (.istore_n 2, 1) := by decide +kernel
theorem dX7_currentOf_3 : decode cX7_currentOf 3 = .ok (.iconst 0, 1) := by decide +kernel
theorem dX7_currentOf_4 : decode cX7_currentOf 4 = .ok (.istore_n 3, 1) := by decide +kernel
theorem dX7_currentOf_5 : decode cX7_currentOf 5 = .ok (.iload_n 3, 1) := by decide +kernel
theorem dX7_currentOf_6 : decode cX7_currentOf 6 = .ok (.aload_n 0, 1) := by decide +kernel
theorem dX7_currentOf_7 : decode cX7_currentOf 7 = .ok (.iconst 3, 1) := by decide +kernel
theorem dX7_currentOf_8 : decode cX7_currentOf 8 = .ok (.iaload, 1) := by decide +kernel
theorem dX7_currentOf_9 : decode cX7_currentOf 9 = .ok (.if_icmp .ge 59, 3) := by decide +kernel
theorem dX7_currentOf_12 : decode cX7_currentOf 12 = .ok (.aload_n 0, 1) := by decide +kernel
theorem dX7_currentOf_13 : decode cX7_currentOf 13 = .ok (.iload_n 3, 1) := by decide +kernel
theorem dX7_currentOf_14 : decode cX7_currentOf 14 = .ok (.iconst 0, 1) := by decide +kernel
theorem dX7_currentOf_15 : decode cX7_currentOf 15 = .ok (.invokestatic 49, 3) := by decide +kernel
theorem dX7_currentOf_18 : decode cX7_currentOf 18 = .ok (.iaload, 1) := by decide +kernel
theorem dX7_currentOf_19 : decode cX7_currentOf 19 = .ok (.iload_n 1, 1) := by decide +kernel
theorem dX7_currentOf_20 : decode cX7_currentOf 20 = .ok (.if_icmp .ne 28, 3) := by decide +kernel
theorem dX7_currentOf_23 : decode cX7_currentOf 23 = .ok (.aload_n 0, 1) := by decide +kernel
theorem dX7_currentOf_24 : decode cX7_currentOf 24 = .ok (.iload_n 3, 1) := by decide +kernel
theorem dX7_currentOf_25 : decode cX7_currentOf 25 = .ok (.iconst 2, 1) := by decide +kernel
theorem dX7_currentOf_26 : decode cX7_currentOf 26 = .ok (.invokestatic 49, 3) := by decide +kernel
theorem dX7_currentOf_29 : decode cX7_currentOf 29 = .ok (.iaload, 1) := by decide +kernel
theorem dX7_currentOf_30 : decode cX7_currentOf 30 = .ok (.aload_n 0, 1) := by decide +kernel
theorem dX7_currentOf_31 : decode cX7_currentOf 31 = .ok (.iconst 0, 1) := by decide +kernel
theorem dX7_currentOf_32 : decode cX7_currentOf 32 = .ok (.iaload, 1) := by decide +kernel
theorem dX7_currentOf_33 : decode cX7_currentOf 33 = .ok (.if_icmp .gt 15, 3) := by decide +kernel
theorem dX7_currentOf_36 : decode cX7_currentOf 36 = .ok (.aload_n 0, 1) := by decide +kernel
theorem dX7_currentOf_37 : decode cX7_currentOf 37 = .ok (.iload_n 3, 1) := by decide +kernel
theorem dX7_currentOf_38 : decode cX7_currentOf 38 = .ok (.invokestatic 57, 3) := by decide +kernel
theorem dX7_currentOf_41 : decode cX7_currentOf 41 = .ok (.ifCond .ne 7, 3) := by decide +kernel
theorem dX7_currentOf_44 : decode cX7_currentOf 44 = .ok (.iconst 1, 1) := by decide +kernel
theorem dX7_currentOf_45 : decode cX7_currentOf 45 = .ok (.goto 4, 3) := by decide +kernel
theorem dX7_currentOf_48 : decode cX7_currentOf 48 = .ok (.iconst 0, 1) := by decide +kernel
theorem dX7_currentOf_49 : decode cX7_currentOf 49 = .ok (.istore 4, 2) := by decide +kernel
theorem dX7_currentOf_51 : decode cX7_currentOf 51 = .ok (.iload 4, 2) := by decide +kernel
theorem dX7_currentOf_53 : decode cX7_currentOf 53 = .ok (.ifCond .eq 7, 3) := by decide +kernel
theorem dX7_currentOf_56 : decode cX7_currentOf 56 = .ok (.iload_n 3, 1) := by decide +kernel
theorem dX7_currentOf_57 : decode cX7_currentOf 57 = .ok (.goto 4, 3) := by decide +kernel
theorem dX7_currentOf_60 : decode cX7_currentOf 60 = .ok (.iload_n 2, 1) := by decide +kernel
theorem dX7_currentOf_61 : decode cX7_currentOf 61 = .ok (.istore_n 2, 1) := by decide +kernel
theorem dX7_currentOf_62 : decode cX7_currentOf 62 = .ok (.iinc 3 1, 3) := by decide +kernel
theorem dX7_currentOf_65 : decode cX7_currentOf 65 = .ok (.goto (-60), 3) := by decide +kernel
theorem dX7_currentOf_68 : decode cX7_currentOf 68 = .ok (.iload_n 2, 1) := by decide +kernel
theorem dX7_currentOf_69 : decode cX7_currentOf 69 = .ok (.ireturn, 1) := by decide +kernel
theorem dX7_nextOf_0 : decode cX7_nextOf 0 = .ok (.bipush (-99), 2) := by decide +kernel
theorem dX7_nextOf_2 : decode cX7_nextOf 2 = .ok (.istore_n 2, 1) := by decide +kernel
theorem dX7_nextOf_3 : decode cX7_nextOf 3 = .ok (.iconst 0, 1) := by decide +kernel
theorem dX7_nextOf_4 : decode cX7_nextOf 4 = .ok (.istore_n 3, 1) := by decide +kernel
theorem dX7_nextOf_5 : decode cX7_nextOf 5 = .ok (.iload_n 3, 1) := by decide +kernel
theorem dX7_nextOf_6 : decode cX7_nextOf 6 = .ok (.aload_n 0, 1) := by decide +kernel
theorem dX7_nextOf_7 : decode cX7_nextOf 7 = .ok (.iconst 3, 1) := by decide +kernel
theorem dX7_nextOf_8 : decode cX7_nextOf 8 = .ok (.iaload, 1) := by decide +kernel
theorem dX7_nextOf_9 : decode cX7_nextOf 9 = .ok (.if_icmp .ge 74, 3) := by decide +kernel
theorem dX7_nextOf_12 : decode cX7_nextOf 12 = .ok (.aload_n 0, 1) := by decide +kernel
theorem dX7_nextOf_13 : decode cX7_nextOf 13 = .ok (.iload_n 3, 1) := by decide +kernel
theorem dX7_nextOf_14 : decode cX7_nextOf 14 = .ok (.iconst 0, 1) := by decide +kernel
theorem dX7_nextOf_15 : decode cX7_nextOf 15 = .ok (.invokestatic 49, 3) := by decide +kernel
theorem dX7_nextOf_18 : decode cX7_nextOf 18 = .ok (.iaload, 1) := by decide +kernel
theorem dX7_nextOf_19 : decode cX7_nextOf 19 = .ok (.iload_n 1, 1) := by decide +kernel
theorem dX7_nextOf_20 : decode cX7_nextOf 20 = .ok (.if_icmp .ne 20, 3) := by decide +kernel
theorem dX7_nextOf_23 : decode cX7_nextOf 23 = .ok (.aload_n 0, 1) := by decide +kernel
theorem dX7_nextOf_24 : decode cX7_nextOf 24 = .ok (.iload_n 3, 1) := by decide +kernel
theorem dX7_nextOf_25 : decode cX7_nextOf 25 = .ok (.iconst 2, 1) := by decide +kernel
theorem dX7_nextOf_26 : decode cX7_nextOf 26 = .ok (.invokestatic 49, 3) := by decide +kernel
theorem dX7_nextOf_29 : decode cX7_nextOf 29 = .ok (.iaload, 1) := by decide +kernel
theorem dX7_nextOf_30 : decode cX7_nextOf 30 = .ok (.aload_n 0, 1) := by decide +kernel
theorem dX7_nextOf_31 : decode cX7_nextOf 31 = .ok (.iconst 0, 1) := by decide +kernel
theorem dX7_nextOf_32 : decode cX7_nextOf 32 = .ok (.iaload, 1) := by decide +kernel
theorem dX7_nextOf_33 : decode cX7_nextOf 33 = .ok (.if_icmp .le 7, 3) := by decide +kernel
theorem dX7_nextOf_36 : decode cX7_nextOf 36 = .ok (.iconst 1, 1) := by decide +kernel
theorem dX7_nextOf_37 : decode cX7_nextOf 37 = .ok (.goto 4, 3) := by decide +kernel
theorem dX7_nextOf_40 : decode cX7_nextOf 40 = .ok (.iconst 0, 1) := by decide +kernel
theorem dX7_nextOf_41 : decode cX7_nextOf 41 = .ok (.istore 4, 2) := by decide +kernel
theorem dX7_nextOf_43 : decode cX7_nextOf 43 = .ok (.iload 4, 2) := by decide +kernel
theorem dX7_nextOf_45 : decode cX7_nextOf 45 = .ok (.ifCond .eq 30, 3) := by decide +kernel
theorem dX7_nextOf_48 : decode cX7_nextOf 48 = .ok (.iload_n 2, 1) := by decide +kernel
theorem dX7_nextOf_49 : decode cX7_nextOf 49 = .ok (.bipush (-99), 2) := by decide +kernel
theorem dX7_nextOf_51 : decode cX7_nextOf 51 = .ok (.if_icmp .eq 20, 3) := by decide +kernel
theorem dX7_nextOf_54 : decode cX7_nextOf 54 = .ok (.aload_n 0, 1) := by decide +kernel
theorem dX7_nextOf_55 : decode cX7_nextOf 55 = .ok (.iload_n 3, 1) := by decide +kernel
theorem dX7_nextOf_56 : decode cX7_nextOf 56 = .ok (.iconst 2, 1) := by decide +kernel
theorem dX7_nextOf_57 : decode cX7_nextOf 57 = .ok (.invokestatic 49, 3) := by decide +kernel
theorem dX7_nextOf_60 : decode cX7_nextOf 60 = .ok (.iaload, 1) := by decide +kernel
theorem dX7_nextOf_61 : decode cX7_nextOf 61 = .ok (.aload_n 0, 1) := by decide +kernel
theorem dX7_nextOf_62 : decode cX7_nextOf 62 = .ok (.iload_n 2, 1) := by decide +kernel
theorem dX7_nextOf_63 : decode cX7_nextOf 63 = .ok (.iconst 2, 1) := by decide +kernel
theorem dX7_nextOf_64 : decode cX7_nextOf 64 = .ok (.invokestatic 49, 3) := by decide +kernel
theorem dX7_nextOf_67 : decode cX7_nextOf 67 = .ok (.iaload, 1) := by decide +kernel
theorem dX7_nextOf_68 : decode cX7_nextOf 68 = .ok (.if_icmp .ge 7, 3) := by decide +kernel
theorem dX7_nextOf_71 : decode cX7_nextOf 71 = .ok (.iload_n 3, 1) := by decide +kernel
theorem dX7_nextOf_72 : decode cX7_nextOf 72 = .ok (.goto 4, 3) := by decide +kernel
theorem dX7_nextOf_75 : decode cX7_nextOf 75 = .ok (.iload_n 2, 1) := by decide +kernel
theorem dX7_nextOf_76 : decode cX7_nextOf 76 = .ok (.istore_n 2, 1) := by decide +kernel
theorem dX7_nextOf_77 : decode cX7_nextOf 77 = .ok (.iinc 3 1, 3) := by decide +kernel
theorem dX7_nextOf_80 : decode cX7_nextOf 80 = .ok (.goto (-75), 3) := by decide +kernel
theorem dX7_nextOf_83 : decode cX7_nextOf 83 = .ok (.iload_n 2, 1) := by decide +kernel
theorem dX7_nextOf_84 : decode cX7_nextOf 84 = .ok (.ireturn, 1) := by decide +kernel
theorem dX7_cooled_0 : decode cX7_cooled 0 = .ok (.aload_n 0, 1) := by decide +kernel
theorem dX7_cooled_1 : decode cX7_cooled 1 = .ok (.iload_n 1, 1) := by decide +kernel
theorem dX7_cooled_2 : decode cX7_cooled 2 = .ok (.iconst 3, 1) := by decide +kernel
theorem dX7_cooled_3 : decode cX7_cooled 3 = .ok (.invokestatic 61, 3) := by decide +kernel
theorem dX7_cooled_6 : decode cX7_cooled 6 = .ok (.iaload, 1) := by decide +kernel
theorem dX7_cooled_7 : decode cX7_cooled 7 = .ok (.istore_n 2, 1) := by decide +kernel
theorem dX7_cooled_8 : decode cX7_cooled 8 = .ok (.iload_n 2, 1) := by decide +kernel
theorem dX7_cooled_9 : decode cX7_cooled 9 = .ok (.aload_n 0, 1) := by decide +kernel
theorem dX7_cooled_10 : decode cX7_cooled 10 = .ok (.iload_n 1, 1) := by decide +kernel
theorem dX7_cooled_11 : decode cX7_cooled 11 = .ok (.iconst 1, 1) := by decide +kernel
theorem dX7_cooled_12 : decode cX7_cooled 12 = .ok (.invokestatic 61, 3) := by decide +kernel
theorem dX7_cooled_15 : decode cX7_cooled 15 = .ok (.iaload, 1) := by decide +kernel
theorem dX7_cooled_16 : decode cX7_cooled 16 = .ok (.iload_n 2, 1) := by decide +kernel
theorem dX7_cooled_17 : decode cX7_cooled 17 = .ok (.aload_n 0, 1) := by decide +kernel
theorem dX7_cooled_18 : decode cX7_cooled 18 = .ok (.iconst 4, 1) := by decide +kernel
theorem dX7_cooled_19 : decode cX7_cooled 19 = .ok (.iaload, 1) := by decide +kernel
theorem dX7_cooled_20 : decode cX7_cooled 20 = .ok (.isub, 1) := by decide +kernel
theorem dX7_cooled_21 : decode cX7_cooled 21 = .ok (.imul, 1) := by decide +kernel
theorem dX7_cooled_22 : decode cX7_cooled 22 = .ok (.bipush 100, 2) := by decide +kernel
theorem dX7_cooled_24 : decode cX7_cooled 24 = .ok (.idiv, 1) := by decide +kernel
theorem dX7_cooled_25 : decode cX7_cooled 25 = .ok (.isub, 1) := by decide +kernel
theorem dX7_cooled_26 : decode cX7_cooled 26 = .ok (.ireturn, 1) := by decide +kernel
theorem dX7_isPreheated_0 : decode cX7_isPreheated 0 = .ok (.aload_n 0, 1) := by decide +kernel
theorem dX7_isPreheated_1 : decode cX7_isPreheated 1 = .ok (.iload_n 2, 1) := by decide +kernel
theorem dX7_isPreheated_2 : decode cX7_isPreheated 2 = .ok (.iconst 2, 1) := by decide +kernel
theorem dX7_isPreheated_3 : decode cX7_isPreheated 3 = .ok (.invokestatic 49, 3) := by decide +kernel
theorem dX7_isPreheated_6 : decode cX7_isPreheated 6 = .ok (.iaload, 1) := by decide +kernel
theorem dX7_isPreheated_7 : decode cX7_isPreheated 7 = .ok (.aload_n 0, 1) := by decide +kernel
theorem dX7_isPreheated_8 : decode cX7_isPreheated 8 = .ok (.iconst 0, 1) := by decide +kernel
theorem dX7_isPreheated_9 : decode cX7_isPreheated 9 = .ok (.iaload, 1) := by decide +kernel
theorem dX7_isPreheated_10 : decode cX7_isPreheated 10 = .ok (.isub, 1) := by decide +kernel
theorem dX7_isPreheated_11 : decode cX7_isPreheated 11 = .ok (.iconst 1, 1) := by decide +kernel
theorem dX7_isPreheated_12 : decode cX7_isPreheated 12 = .ok (.isub, 1) := by decide +kernel
theorem dX7_isPreheated_13 : decode cX7_isPreheated 13 = .ok (.istore_n 3, 1) := by decide +kernel
theorem dX7_isPreheated_14 : decode cX7_isPreheated 14 = .ok (.aload_n 0, 1) := by decide +kernel
theorem dX7_isPreheated_15 : decode cX7_isPreheated 15 = .ok (.iload_n 2, 1) := by decide +kernel
theorem dX7_isPreheated_16 : decode cX7_isPreheated 16 = .ok (.bipush 9, 2) := by decide +kernel
theorem dX7_isPreheated_18 : decode cX7_isPreheated 18 = .ok (.invokestatic 49, 3) := by decide +kernel
theorem dX7_isPreheated_21 : decode cX7_isPreheated 21 = .ok (.iaload, 1) := by decide +kernel
theorem dX7_isPreheated_22 : decode cX7_isPreheated 22 = .ok (.iconst 1, 1) := by decide +kernel
theorem dX7_isPreheated_23 : decode cX7_isPreheated 23 = .ok (.if_icmp .eq 28, 3) := by decide +kernel
theorem dX7_isPreheated_26 : decode cX7_isPreheated 26 = .ok (.aload_n 0, 1) := by decide +kernel
theorem dX7_isPreheated_27 : decode cX7_isPreheated 27 = .ok (.iload_n 1, 1) := by decide +kernel
theorem dX7_isPreheated_28 : decode cX7_isPreheated 28 = .ok (.invokestatic 64, 3) := by decide +kernel
theorem dX7_isPreheated_31 : decode cX7_isPreheated 31 = .ok (.aload_n 0, 1) := by decide +kernel
theorem dX7_isPreheated_32 : decode cX7_isPreheated 32 = .ok (.iload_n 1, 1) := by decide +kernel
theorem dX7_isPreheated_33 : decode cX7_isPreheated 33 = .ok (.iconst 2, 1) := by decide +kernel
theorem dX7_isPreheated_34 : decode cX7_isPreheated 34 = .ok (.invokestatic 61, 3) := by decide +kernel
theorem dX7_isPreheated_37 : decode cX7_isPreheated 37 = .ok (.iaload, 1) := by decide +kernel
theorem dX7_isPreheated_38 : decode cX7_isPreheated 38 = .ok (.iload_n 3, 1) := by decide +kernel
theorem dX7_isPreheated_39 : decode cX7_isPreheated 39 = .ok (.imul, 1) := by decide +kernel
theorem dX7_isPreheated_40 : decode cX7_isPreheated 40 = .ok (.iadd, 1) := by decide +kernel
theorem dX7_isPreheated_41 : decode cX7_isPreheated 41 = .ok (.aload_n 0, 1) := by decide +kernel
theorem dX7_isPreheated_42 : decode cX7_isPreheated 42 = .ok (.iload_n 2, 1) := by decide +kernel
theorem dX7_isPreheated_43 : decode cX7_isPreheated 43 = .ok (.iconst 4, 1) := by decide +kernel
theorem dX7_isPreheated_44 : decode cX7_isPreheated 44 = .ok (.invokestatic 49, 3) := by decide +kernel
theorem dX7_isPreheated_47 : decode cX7_isPreheated 47 = .ok (.iaload, 1) := by decide +kernel
theorem dX7_isPreheated_48 : decode cX7_isPreheated 48 = .ok (.if_icmp .ge 7, 3) := by decide +kernel
theorem dX7_isPreheated_51 : decode cX7_isPreheated 51 = .ok (.iconst 1, 1) := by decide +kernel
theorem dX7_isPreheated_52 : decode cX7_isPreheated 52 = .ok (.goto 4, 3) := by decide +kernel
theorem dX7_isPreheated_55 : decode cX7_isPreheated 55 = .ok (.iconst 0, 1) := by decide +kernel
theorem dX7_isPreheated_56 : decode cX7_isPreheated 56 = .ok (.ireturn, 1) := by decide +kernel
theorem dX7_heaterOf_0 : decode cX7_heaterOf 0 = .ok (.aload_n 0, 1) := by decide +kernel
theorem dX7_heaterOf_1 : decode cX7_heaterOf 1 = .ok (.iload_n 1, 1) := by decide +kernel
theorem dX7_heaterOf_2 : decode cX7_heaterOf 2 = .ok (.invokestatic 67, 3) := by decide +kernel
theorem dX7_heaterOf_5 : decode cX7_heaterOf 5 = .ok (.istore_n 2, 1) := by decide +kernel
theorem dX7_heaterOf_6 : decode cX7_heaterOf 6 = .ok (.iload_n 2, 1) := by decide +kernel
theorem dX7_heaterOf_7 : decode cX7_heaterOf 7 = .ok (.bipush (-99), 2) := by decide +kernel
theorem dX7_heaterOf_9 : decode cX7_heaterOf 9 = .ok (.if_icmp .eq 5, 3) := by decide +kernel
theorem dX7_heaterOf_12 : decode cX7_heaterOf 12 = .ok (.iload_n 2, 1) := by decide +kernel
theorem dX7_heaterOf_13 : decode cX7_heaterOf 13 = .ok (.ireturn, 1) := by decide +kernel
theorem dX7_heaterOf_14 : decode cX7_heaterOf 14 = .ok (.aload_n 0, 1) := by decide +kernel
theorem dX7_heaterOf_15 : decode cX7_heaterOf 15 = .ok (.iload_n 1, 1) := by decide +kernel
theorem dX7_heaterOf_16 : decode cX7_heaterOf 16 = .ok (.invokestatic 70, 3) := by decide +kernel
theorem dX7_heaterOf_19 : decode cX7_heaterOf 19 = .ok (.istore_n 2, 1) := by decide +kernel
theorem dX7_heaterOf_20 : decode cX7_heaterOf 20 = .ok (.iload_n 2, 1) := by decide +kernel
theorem dX7_heaterOf_21 : decode cX7_heaterOf 21 = .ok (.bipush (-99), 2) := by decide +kernel
theorem dX7_heaterOf_23 : decode cX7_heaterOf 23 = .ok (.if_icmp .eq 16, 3) := by decide +kernel
theorem dX7_heaterOf_26 : decode cX7_heaterOf 26 = .ok (.aload_n 0, 1) := by decide +kernel
theorem dX7_heaterOf_27 : decode cX7_heaterOf 27 = .ok (.iload_n 1, 1) := by decide +kernel
theorem dX7_heaterOf_28 : decode cX7_heaterOf 28 = .ok (.iload_n 2, 1) := by decide +kernel
theorem dX7_heaterOf_29 : decode cX7_heaterOf 29 = .ok (.invokestatic 73, 3) := by decide +kernel
theorem dX7_heaterOf_32 : decode cX7_heaterOf 32 = .ok (.ifCond .eq 7, 3) := by decide +kernel
theorem dX7_heaterOf_35 : decode cX7_heaterOf 35 = .ok (.iload_n 2, 1) := by decide +kernel
theorem dX7_heaterOf_36 : decode cX7_heaterOf 36 = .ok (.goto 5, 3) := by decide +kernel
theorem dX7_heaterOf_39 : decode cX7_heaterOf 39 = .ok (.bipush (-99), 2) := by decide +kernel
theorem dX7_heaterOf_41 : decode cX7_heaterOf 41 = .ok (.ireturn, 1) := by decide +kernel
theorem dX7_charge_0 : decode cX7_charge 0 = .ok (.aload_n 0, 1) := by decide +kernel
theorem dX7_charge_1 : decode cX7_charge 1 = .ok (.iload_n 1, 1) := by decide +kernel
theorem dX7_charge_2 : decode cX7_charge 2 = .ok (.iconst 2, 1) := by decide +kernel
theorem dX7_charge_3 : decode cX7_charge 3 = .ok (.invokestatic 49, 3) := by decide +kernel
theorem dX7_charge_6 : decode cX7_charge 6 = .ok (.iaload, 1) := by decide +kernel
theorem dX7_charge_7 : decode cX7_charge 7 = .ok (.aload_n 0, 1) := by decide +kernel
theorem dX7_charge_8 : decode cX7_charge 8 = .ok (.iconst 0, 1) := by decide +kernel
theorem dX7_charge_9 : decode cX7_charge 9 = .ok (.iaload, 1) := by decide +kernel
theorem dX7_charge_10 : decode cX7_charge 10 = .ok (.if_icmp .gt 7, 3) := by decide +kernel
theorem dX7_charge_13 : decode cX7_charge 13 = .ok (.iconst 1, 1) := by decide +kernel
theorem dX7_charge_14 : decode cX7_charge 14 = .ok (.goto 4, 3) := by decide +kernel
theorem dX7_charge_17 : decode cX7_charge 17 = .ok (.iconst 0, 1) := by decide +kernel
theorem dX7_charge_18 : decode cX7_charge 18 = .ok (.istore_n 3, 1) := by decide +kernel
theorem dX7_charge_19 : decode cX7_charge 19 = .ok (.iload_n 3, 1) := by decide +kernel
theorem dX7_charge_20 : decode cX7_charge 20 = .ok (.ifCond .eq 26, 3) := by decide +kernel
theorem dX7_charge_23 : decode cX7_charge 23 = .ok (.aload_n 0, 1) := by decide +kernel
theorem dX7_charge_24 : decode cX7_charge 24 = .ok (.iload_n 1, 1) := by decide +kernel
theorem dX7_charge_25 : decode cX7_charge 25 = .ok (.bipush 7, 2) := by decide +kernel
theorem dX7_charge_27 : decode cX7_charge 27 = .ok (.invokestatic 49, 3) := by decide +kernel
theorem dX7_charge_30 : decode cX7_charge 30 = .ok (.iaload, 1) := by decide +kernel
theorem dX7_charge_31 : decode cX7_charge 31 = .ok (.iconst 1, 1) := by decide +kernel
theorem dX7_charge_32 : decode cX7_charge 32 = .ok (.if_icmp .ne 14, 3) := by decide +kernel
theorem dX7_charge_35 : decode cX7_charge 35 = .ok (.aload_n 0, 1) := by decide +kernel
theorem dX7_charge_36 : decode cX7_charge 36 = .ok (.bipush 7, 2) := by decide +kernel
theorem dX7_charge_38 : decode cX7_charge 38 = .ok (.dup2, 1) := by decide +kernel
theorem dX7_charge_39 : decode cX7_charge 39 = .ok (.iaload, 1) := by decide +kernel
theorem dX7_charge_40 : decode cX7_charge 40 = .ok (.iload_n 2, 1) := by decide +kernel
theorem dX7_charge_41 : decode cX7_charge 41 = .ok (.iadd, 1) := by decide +kernel
theorem dX7_charge_42 : decode cX7_charge 42 = .ok (.iastore, 1) := by decide +kernel
theorem dX7_charge_43 : decode cX7_charge 43 = .ok (.goto 27, 3) := by decide +kernel
theorem dX7_charge_46 : decode cX7_charge 46 = .ok (.aload_n 0, 1) := by decide +kernel
theorem dX7_charge_47 : decode cX7_charge 47 = .ok (.bipush 6, 2) := by decide +kernel
theorem dX7_charge_49 : decode cX7_charge 49 = .ok (.dup2, 1) := by decide +kernel
theorem dX7_charge_50 : decode cX7_charge 50 = .ok (.iaload, 1) := by decide +kernel
theorem dX7_charge_51 : decode cX7_charge 51 = .ok (.iload_n 2, 1) := by decide +kernel
theorem dX7_charge_52 : decode cX7_charge 52 = .ok (.iadd, 1) := by decide +kernel
theorem dX7_charge_53 : decode cX7_charge 53 = .ok (.iastore, 1) := by decide +kernel
theorem dX7_charge_54 : decode cX7_charge 54 = .ok (.aload_n 0, 1) := by decide +kernel
theorem dX7_charge_55 : decode cX7_charge 55 = .ok (.bipush 25, 2) := by decide +kernel
theorem dX7_charge_57 : decode cX7_charge 57 = .ok (.aload_n 0, 1) := by decide +kernel
theorem dX7_charge_58 : decode cX7_charge 58 = .ok (.iload_n 1, 1) := by decide +kernel
theorem dX7_charge_59 : decode cX7_charge 59 = .ok (.iconst 1, 1) := by decide +kernel
theorem dX7_charge_60 : decode cX7_charge 60 = .ok (.invokestatic 49, 3) := by decide +kernel
theorem dX7_charge_63 : decode cX7_charge 63 = .ok (.iaload, 1) := by decide +kernel
theorem dX7_charge_64 : decode cX7_charge 64 = .ok (.iadd, 1) := by decide +kernel
theorem dX7_charge_65 : decode cX7_charge 65 = .ok (.dup2, 1) := by decide +kernel
theorem dX7_charge_66 : decode cX7_charge 66 = .ok (.iaload, 1) := by decide +kernel
theorem dX7_charge_67 : decode cX7_charge 67 = .ok (.iload_n 2, 1) := by decide +kernel
theorem dX7_charge_68 : decode cX7_charge 68 = .ok (.iadd, 1) := by decide +kernel
theorem dX7_charge_69 : decode cX7_charge 69 = .ok (.iastore, 1) := by decide +kernel
theorem dX7_charge_70 : decode cX7_charge 70 = .ok (.aload_n 0, 1) := by decide +kernel
theorem dX7_charge_71 : decode cX7_charge 71 = .ok (.iload_n 1, 1) := by decide +kernel
theorem dX7_charge_72 : decode cX7_charge 72 = .ok (.iload_n 3, 1) := by decide +kernel
theorem dX7_charge_73 : decode cX7_charge 73 = .ok (.ifCond .eq 8, 3) := by decide +kernel
theorem dX7_charge_76 : decode cX7_charge 76 = .ok (.bipush 6, 2) := by decide +kernel
theorem dX7_charge_78 : decode cX7_charge 78 = .ok (.goto 4, 3) := by decide +kernel
theorem dX7_charge_81 : decode cX7_charge 81 = .ok (.iconst 5, 1) := by decide +kernel
theorem dX7_charge_82 : decode cX7_charge 82 = .ok (.invokestatic 49, 3) := by decide +kernel
theorem dX7_charge_85 : decode cX7_charge 85 = .ok (.dup2, 1) := by decide +kernel
theorem dX7_charge_86 : decode cX7_charge 86 = .ok (.iaload, 1) := by decide +kernel
theorem dX7_charge_87 : decode cX7_charge 87 = .ok (.iload_n 2, 1) := by decide +kernel
theorem dX7_charge_88 : decode cX7_charge 88 = .ok (.iadd, 1) := by decide +kernel
theorem dX7_charge_89 : decode cX7_charge 89 = .ok (.iastore, 1) := by decide +kernel
theorem dX7_charge_90 : decode cX7_charge 90 = .ok (.return_, 1) := by decide +kernel
theorem dX7_goRoom_0 : decode cX7_goRoom 0 = .ok (.aload_n 0, 1) := by decide +kernel
theorem dX7_goRoom_1 : decode cX7_goRoom 1 = .ok (.iload_n 1, 1) := by decide +kernel
theorem dX7_goRoom_2 : decode cX7_goRoom 2 = .ok (.invokestatic 77, 3) := by decide +kernel
theorem dX7_goRoom_5 : decode cX7_goRoom 5 = .ok (.istore_n 2, 1) := by decide +kernel
theorem dX7_goRoom_6 : decode cX7_goRoom 6 = .ok (.aload_n 0, 1) := by decide +kernel
theorem dX7_goRoom_7 : decode cX7_goRoom 7 = .ok (.iload_n 1, 1) := by decide +kernel
theorem dX7_goRoom_8 : decode cX7_goRoom 8 = .ok (.iconst 3, 1) := by decide +kernel
theorem dX7_goRoom_9 : decode cX7_goRoom 9 = .ok (.invokestatic 61, 3) := by decide +kernel
theorem dX7_goRoom_12 : decode cX7_goRoom 12 = .ok (.iaload, 1) := by decide +kernel
theorem dX7_goRoom_13 : decode cX7_goRoom 13 = .ok (.istore_n 3, 1) := by decide +kernel
theorem dX7_goRoom_14 : decode cX7_goRoom 14 = .ok (.aload_n 0, 1) := by decide +kernel
theorem dX7_goRoom_15 : decode cX7_goRoom 15 = .ok (.iload_n 1, 1) := by decide +kernel
theorem dX7_goRoom_16 : decode cX7_goRoom 16 = .ok (.iconst 3, 1) := by decide +kernel
theorem dX7_goRoom_17 : decode cX7_goRoom 17 = .ok (.invokestatic 61, 3) := by decide +kernel
theorem dX7_goRoom_20 : decode cX7_goRoom 20 = .ok (.aload_n 0, 1) := by decide +kernel
theorem dX7_goRoom_21 : decode cX7_goRoom 21 = .ok (.iload_n 1, 1) := by decide +kernel
theorem dX7_goRoom_22 : decode cX7_goRoom 22 = .ok (.invokestatic 64, 3) := by decide +kernel
theorem dX7_goRoom_25 : decode cX7_goRoom 25 = .ok (.iastore, 1) := by decide +kernel
theorem dX7_goRoom_26 : decode cX7_goRoom 26 = .ok (.iload_n 2, 1) := by decide +kernel
theorem dX7_goRoom_27 : decode cX7_goRoom 27 = .ok (.bipush (-99), 2) := by decide +kernel
theorem dX7_goRoom_29 : decode cX7_goRoom 29 = .ok (.if_icmp .ne 5, 3) := by decide +kernel
theorem dX7_goRoom_32 : decode cX7_goRoom 32 = .ok (.iconst 0, 1) := by decide +kernel
theorem dX7_goRoom_33 : decode cX7_goRoom 33 = .ok (.ireturn, 1) := by decide +kernel
theorem dX7_goRoom_34 : decode cX7_goRoom 34 = .ok (.aload_n 0, 1) := by decide +kernel
theorem dX7_goRoom_35 : decode cX7_goRoom 35 = .ok (.iload_n 2, 1) := by decide +kernel
theorem dX7_goRoom_36 : decode cX7_goRoom 36 = .ok (.iconst 2, 1) := by decide +kernel
theorem dX7_goRoom_37 : decode cX7_goRoom 37 = .ok (.invokestatic 49, 3) := by decide +kernel
theorem dX7_goRoom_40 : decode cX7_goRoom 40 = .ok (.iaload, 1) := by decide +kernel
theorem dX7_goRoom_41 : decode cX7_goRoom 41 = .ok (.aload_n 0, 1) := by decide +kernel
theorem dX7_goRoom_42 : decode cX7_goRoom 42 = .ok (.iconst 0, 1) := by decide +kernel
theorem dX7_goRoom_43 : decode cX7_goRoom 43 = .ok (.iaload, 1) := by decide +kernel
theorem dX7_goRoom_44 : decode cX7_goRoom 44 = .ok (.if_icmp .gt 7, 3) := by decide +kernel
theorem dX7_goRoom_47 : decode cX7_goRoom 47 = .ok (.iconst 1, 1) := by decide +kernel
theorem dX7_goRoom_48 : decode cX7_goRoom 48 = .ok (.goto 4, 3) := by decide +kernel
theorem dX7_goRoom_51 : decode cX7_goRoom 51 = .ok (.iconst 0, 1) := by decide +kernel
theorem dX7_goRoom_52 : decode cX7_goRoom 52 = .ok (.istore 4, 2) := by decide +kernel
theorem dX7_goRoom_54 : decode cX7_goRoom 54 = .ok (.aload_n 0, 1) := by decide +kernel
theorem dX7_goRoom_55 : decode cX7_goRoom 55 = .ok (.iload_n 2, 1) := by decide +kernel
theorem dX7_goRoom_56 : decode cX7_goRoom 56 = .ok (.bipush 9, 2) := by decide +kernel
theorem dX7_goRoom_58 : decode cX7_goRoom 58 = .ok (.invokestatic 49, 3) := by decide +kernel
theorem dX7_goRoom_61 : decode cX7_goRoom 61 = .ok (.iload 4, 2) := by decide +kernel
theorem dX7_goRoom_63 : decode cX7_goRoom 63 = .ok (.ifCond .eq 14, 3) := by decide +kernel
theorem dX7_goRoom_66 : decode cX7_goRoom 66 = .ok (.aload_n 0, 1) := by decide +kernel
theorem dX7_goRoom_67 : decode cX7_goRoom 67 = .ok (.iload_n 2, 1) := by decide +kernel
theorem dX7_goRoom_68 : decode cX7_goRoom 68 = .ok (.bipush 9, 2) := by decide +kernel
theorem dX7_goRoom_70 : decode cX7_goRoom 70 = .ok (.invokestatic 49, 3) := by decide +kernel
theorem dX7_goRoom_73 : decode cX7_goRoom 73 = .ok (.iaload, 1) := by decide +kernel
theorem dX7_goRoom_74 : decode cX7_goRoom 74 = .ok (.goto 4, 3) := by decide +kernel
theorem dX7_goRoom_77 : decode cX7_goRoom 77 = .ok (.iconst 1, 1) := by decide +kernel
theorem dX7_goRoom_78 : decode cX7_goRoom 78 = .ok (.iastore, 1) := by decide +kernel
theorem dX7_goRoom_79 : decode cX7_goRoom 79 = .ok (.aload_n 0, 1) := by decide +kernel
theorem dX7_goRoom_80 : decode cX7_goRoom 80 = .ok (.iload_n 2, 1) := by decide +kernel
theorem dX7_goRoom_81 : decode cX7_goRoom 81 = .ok (.bipush 8, 2) := by decide +kernel
theorem dX7_goRoom_83 : decode cX7_goRoom 83 = .ok (.invokestatic 49, 3) := by decide +kernel
theorem dX7_goRoom_86 : decode cX7_goRoom 86 = .ok (.dup2, 1) := by decide +kernel
theorem dX7_goRoom_87 : decode cX7_goRoom 87 = .ok (.iaload, 1) := by decide +kernel
theorem dX7_goRoom_88 : decode cX7_goRoom 88 = .ok (.iload 4, 2) := by decide +kernel
theorem dX7_goRoom_90 : decode cX7_goRoom 90 = .ok (.ifCond .eq 20, 3) := by decide +kernel
theorem dX7_goRoom_93 : decode cX7_goRoom 93 = .ok (.iload_n 3, 1) := by decide +kernel
theorem dX7_goRoom_94 : decode cX7_goRoom 94 = .ok (.aload_n 0, 1) := by decide +kernel
theorem dX7_goRoom_95 : decode cX7_goRoom 95 = .ok (.iload_n 2, 1) := by decide +kernel
theorem dX7_goRoom_96 : decode cX7_goRoom 96 = .ok (.iconst 4, 1) := by decide +kernel
theorem dX7_goRoom_97 : decode cX7_goRoom 97 = .ok (.invokestatic 49, 3) := by decide +kernel
theorem dX7_goRoom_100 : decode cX7_goRoom 100 = .ok (.iaload, 1) := by decide +kernel
theorem dX7_goRoom_101 : decode cX7_goRoom 101 = .ok (.iconst 1, 1) := by decide +kernel
theorem dX7_goRoom_102 : decode cX7_goRoom 102 = .ok (.isub, 1) := by decide +kernel
theorem dX7_goRoom_103 : decode cX7_goRoom 103 = .ok (.if_icmp .ge 7, 3) := by decide +kernel
theorem dX7_goRoom_106 : decode cX7_goRoom 106 = .ok (.iconst 1, 1) := by decide +kernel
theorem dX7_goRoom_107 : decode cX7_goRoom 107 = .ok (.goto 4, 3) := by decide +kernel
theorem dX7_goRoom_110 : decode cX7_goRoom 110 = .ok (.iconst 0, 1) := by decide +kernel
theorem dX7_goRoom_111 : decode cX7_goRoom 111 = .ok (.iadd, 1) := by decide +kernel
theorem dX7_goRoom_112 : decode cX7_goRoom 112 = .ok (.iastore, 1) := by decide +kernel
theorem dX7_goRoom_113 : decode cX7_goRoom 113 = .ok (.aload_n 0, 1) := by decide +kernel
theorem dX7_goRoom_114 : decode cX7_goRoom 114 = .ok (.iload_n 2, 1) := by decide +kernel
theorem dX7_goRoom_115 : decode cX7_goRoom 115 = .ok (.iconst 4, 1) := by decide +kernel
theorem dX7_goRoom_116 : decode cX7_goRoom 116 = .ok (.invokestatic 49, 3) := by decide +kernel
theorem dX7_goRoom_119 : decode cX7_goRoom 119 = .ok (.iaload, 1) := by decide +kernel
theorem dX7_goRoom_120 : decode cX7_goRoom 120 = .ok (.aload_n 0, 1) := by decide +kernel
theorem dX7_goRoom_121 : decode cX7_goRoom 121 = .ok (.iload_n 1, 1) := by decide +kernel
theorem dX7_goRoom_122 : decode cX7_goRoom 122 = .ok (.iconst 3, 1) := by decide +kernel
theorem dX7_goRoom_123 : decode cX7_goRoom 123 = .ok (.invokestatic 61, 3) := by decide +kernel
theorem dX7_goRoom_126 : decode cX7_goRoom 126 = .ok (.iaload, 1) := by decide +kernel
theorem dX7_goRoom_127 : decode cX7_goRoom 127 = .ok (.isub, 1) := by decide +kernel
theorem dX7_goRoom_128 : decode cX7_goRoom 128 = .ok (.istore 5, 2) := by decide +kernel
theorem dX7_goRoom_130 : decode cX7_goRoom 130 = .ok (.iload 5, 2) := by decide +kernel
theorem dX7_goRoom_132 : decode cX7_goRoom 132 = .ok (.ifCond .ge 7, 3) := by decide +kernel
theorem dX7_goRoom_135 : decode cX7_goRoom 135 = .ok (.iconst 0, 1) := by decide +kernel
theorem dX7_goRoom_136 : decode cX7_goRoom 136 = .ok (.goto 27, 3) := by decide +kernel
theorem dX7_goRoom_139 : decode cX7_goRoom 139 = .ok (.iload 5, 2) := by decide +kernel
theorem dX7_goRoom_141 : decode cX7_goRoom 141 = .ok (.aload_n 0, 1) := by decide +kernel
theorem dX7_goRoom_142 : decode cX7_goRoom 142 = .ok (.iload_n 1, 1) := by decide +kernel
theorem dX7_goRoom_143 : decode cX7_goRoom 143 = .ok (.iconst 2, 1) := by decide +kernel
theorem dX7_goRoom_144 : decode cX7_goRoom 144 = .ok (.invokestatic 61, 3) := by decide +kernel
theorem dX7_goRoom_147 : decode cX7_goRoom 147 = .ok (.iaload, 1) := by decide +kernel
theorem dX7_goRoom_148 : decode cX7_goRoom 148 = .ok (.if_icmp .le 13, 3) := by decide +kernel
theorem dX7_goRoom_151 : decode cX7_goRoom 151 = .ok (.aload_n 0, 1) := by decide +kernel
theorem dX7_goRoom_152 : decode cX7_goRoom 152 = .ok (.iload_n 1, 1) := by decide +kernel
theorem dX7_goRoom_153 : decode cX7_goRoom 153 = .ok (.iconst 2, 1) := by decide +kernel
theorem dX7_goRoom_154 : decode cX7_goRoom 154 = .ok (.invokestatic 61, 3) := by decide +kernel
theorem dX7_goRoom_157 : decode cX7_goRoom 157 = .ok (.iaload, 1) := by decide +kernel
theorem dX7_goRoom_158 : decode cX7_goRoom 158 = .ok (.goto 5, 3) := by decide +kernel
theorem dX7_goRoom_161 : decode cX7_goRoom 161 = .ok (.iload 5, 2) := by decide +kernel
theorem dX7_goRoom_163 : decode cX7_goRoom 163 = .ok (.istore 6, 2) := by decide +kernel
theorem dX7_goRoom_165 : decode cX7_goRoom 165 = .ok (.aload_n 0, 1) := by decide +kernel
theorem dX7_goRoom_166 : decode cX7_goRoom 166 = .ok (.iload_n 1, 1) := by decide +kernel
theorem dX7_goRoom_167 : decode cX7_goRoom 167 = .ok (.iconst 3, 1) := by decide +kernel
theorem dX7_goRoom_168 : decode cX7_goRoom 168 = .ok (.invokestatic 61, 3) := by decide +kernel
theorem dX7_goRoom_171 : decode cX7_goRoom 171 = .ok (.dup2, 1) := by decide +kernel
theorem dX7_goRoom_172 : decode cX7_goRoom 172 = .ok (.iaload, 1) := by decide +kernel
theorem dX7_goRoom_173 : decode cX7_goRoom 173 = .ok (.iload 6, 2) := by decide +kernel
theorem dX7_goRoom_175 : decode cX7_goRoom 175 = .ok (.iadd, 1) := by decide +kernel
theorem dX7_goRoom_176 : decode cX7_goRoom 176 = .ok (.iastore, 1) := by decide +kernel
theorem dX7_goRoom_177 : decode cX7_goRoom 177 = .ok (.iload 6, 2) := by decide +kernel
theorem dX7_goRoom_179 : decode cX7_goRoom 179 = .ok (.aload_n 0, 1) := by decide +kernel
theorem dX7_goRoom_180 : decode cX7_goRoom 180 = .ok (.iload_n 1, 1) := by decide +kernel
theorem dX7_goRoom_181 : decode cX7_goRoom 181 = .ok (.iconst 0, 1) := by decide +kernel
theorem dX7_goRoom_182 : decode cX7_goRoom 182 = .ok (.invokestatic 61, 3) := by decide +kernel
theorem dX7_goRoom_185 : decode cX7_goRoom 185 = .ok (.iaload, 1) := by decide +kernel
theorem dX7_goRoom_186 : decode cX7_goRoom 186 = .ok (.imul, 1) := by decide +kernel
theorem dX7_goRoom_187 : decode cX7_goRoom 187 = .ok (.istore 7, 2) := by decide +kernel
theorem dX7_goRoom_189 : decode cX7_goRoom 189 = .ok (.aload_n 0, 1) := by decide +kernel
theorem dX7_goRoom_190 : decode cX7_goRoom 190 = .ok (.iload_n 2, 1) := by decide +kernel
theorem dX7_goRoom_191 : decode cX7_goRoom 191 = .ok (.iload 7, 2) := by decide +kernel
theorem dX7_goRoom_193 : decode cX7_goRoom 193 = .ok (.invokestatic 80, 3) := by decide +kernel
theorem dX7_goRoom_196 : decode cX7_goRoom 196 = .ok (.iload 7, 2) := by decide +kernel
theorem dX7_goRoom_198 : decode cX7_goRoom 198 = .ok (.ireturn, 1) := by decide +kernel
theorem dX7_settle_0 : decode cX7_settle 0 = .ok (.iconst 0, 1) := by decide +kernel
theorem dX7_settle_1 : decode cX7_settle 1 = .ok (.istore_n 2, 1) := by decide +kernel
theorem dX7_settle_2 : decode cX7_settle 2 = .ok (.iload_n 2, 1) := by decide +kernel
theorem dX7_settle_3 : decode cX7_settle 3 = .ok (.aload_n 0, 1) := by decide +kernel
theorem dX7_settle_4 : decode cX7_settle 4 = .ok (.iconst 3, 1) := by decide +kernel
theorem dX7_settle_5 : decode cX7_settle 5 = .ok (.iaload, 1) := by decide +kernel
theorem dX7_settle_6 : decode cX7_settle 6 = .ok (.if_icmp .ge 113, 3) := by decide +kernel
theorem dX7_settle_9 : decode cX7_settle 9 = .ok (.aload_n 0, 1) := by decide +kernel
theorem dX7_settle_10 : decode cX7_settle 10 = .ok (.iload_n 2, 1) := by decide +kernel
theorem dX7_settle_11 : decode cX7_settle 11 = .ok (.iconst 0, 1) := by decide +kernel
theorem dX7_settle_12 : decode cX7_settle 12 = .ok (.invokestatic 49, 3) := by decide +kernel
theorem dX7_settle_15 : decode cX7_settle 15 = .ok (.iaload, 1) := by decide +kernel
theorem dX7_settle_16 : decode cX7_settle 16 = .ok (.aload_n 0, 1) := by decide +kernel
theorem dX7_settle_17 : decode cX7_settle 17 = .ok (.iload_n 1, 1) := by decide +kernel
theorem dX7_settle_18 : decode cX7_settle 18 = .ok (.iconst 0, 1) := by decide +kernel
theorem dX7_settle_19 : decode cX7_settle 19 = .ok (.invokestatic 49, 3) := by decide +kernel
theorem dX7_settle_22 : decode cX7_settle 22 = .ok (.iaload, 1) := by decide +kernel
theorem dX7_settle_23 : decode cX7_settle 23 = .ok (.if_icmp .ne 39, 3) := by decide +kernel
theorem dX7_settle_26 : decode cX7_settle 26 = .ok (.aload_n 0, 1) := by decide +kernel
theorem dX7_settle_27 : decode cX7_settle 27 = .ok (.iload_n 2, 1) := by decide +kernel
theorem dX7_settle_28 : decode cX7_settle 28 = .ok (.iconst 1, 1) := by decide +kernel
theorem dX7_settle_29 : decode cX7_settle 29 = .ok (.invokestatic 49, 3) := by decide +kernel
theorem dX7_settle_32 : decode cX7_settle 32 = .ok (.iaload, 1) := by decide +kernel
theorem dX7_settle_33 : decode cX7_settle 33 = .ok (.aload_n 0, 1) := by decide +kernel
theorem dX7_settle_34 : decode cX7_settle 34 = .ok (.iload_n 1, 1) := by decide +kernel
theorem dX7_settle_35 : decode cX7_settle 35 = .ok (.iconst 1, 1) := by decide +kernel
theorem dX7_settle_36 : decode cX7_settle 36 = .ok (.invokestatic 49, 3) := by decide +kernel
theorem dX7_settle_39 : decode cX7_settle 39 = .ok (.iaload, 1) := by decide +kernel
theorem dX7_settle_40 : decode cX7_settle 40 = .ok (.if_icmp .eq 22, 3) := by decide +kernel
theorem dX7_settle_43 : decode cX7_settle 43 = .ok (.aload_n 0, 1) := by decide +kernel
theorem dX7_settle_44 : decode cX7_settle 44 = .ok (.iload_n 2, 1) := by decide +kernel
theorem dX7_settle_45 : decode cX7_settle 45 = .ok (.iconst 2, 1) := by decide +kernel
theorem dX7_settle_46 : decode cX7_settle 46 = .ok (.invokestatic 49, 3) := by decide +kernel
theorem dX7_settle_49 : decode cX7_settle 49 = .ok (.iaload, 1) := by decide +kernel
theorem dX7_settle_50 : decode cX7_settle 50 = .ok (.aload_n 0, 1) := by decide +kernel
theorem dX7_settle_51 : decode cX7_settle 51 = .ok (.iload_n 1, 1) := by decide +kernel
theorem dX7_settle_52 : decode cX7_settle 52 = .ok (.invokestatic 53, 3) := by decide +kernel
theorem dX7_settle_55 : decode cX7_settle 55 = .ok (.if_icmp .ne 7, 3) := by decide +kernel
theorem dX7_settle_58 : decode cX7_settle 58 = .ok (.iconst 1, 1) := by decide +kernel
theorem dX7_settle_59 : decode cX7_settle 59 = .ok (.goto 4, 3) := by decide +kernel
theorem dX7_settle_62 : decode cX7_settle 62 = .ok (.iconst 0, 1) := by decide +kernel
theorem dX7_settle_63 : decode cX7_settle 63 = .ok (.istore_n 3, 1) := by decide +kernel
theorem dX7_settle_64 : decode cX7_settle 64 = .ok (.iload_n 3, 1) := by decide +kernel
theorem dX7_settle_65 : decode cX7_settle 65 = .ok (.ifCond .eq 48, 3) := by decide +kernel
theorem dX7_settle_68 : decode cX7_settle 68 = .ok (.aload_n 0, 1) := by decide +kernel
theorem dX7_settle_69 : decode cX7_settle 69 = .ok (.iload_n 1, 1) := by decide +kernel
theorem dX7_settle_70 : decode cX7_settle 70 = .ok (.iconst 5, 1) := by decide +kernel
theorem dX7_settle_71 : decode cX7_settle 71 = .ok (.invokestatic 49, 3) := by decide +kernel
theorem dX7_settle_74 : decode cX7_settle 74 = .ok (.iaload, 1) := by decide +kernel
theorem dX7_settle_75 : decode cX7_settle 75 = .ok (.iconst 2, 1) := by decide +kernel
theorem dX7_settle_76 : decode cX7_settle 76 = .ok (.idiv, 1) := by decide +kernel
theorem dX7_settle_77 : decode cX7_settle 77 = .ok (.istore 4, 2) := by decide +kernel
theorem dX7_settle_79 : decode cX7_settle 79 = .ok (.aload_n 0, 1) := by decide +kernel
theorem dX7_settle_80 : decode cX7_settle 80 = .ok (.bipush 25, 2) := by decide +kernel
theorem dX7_settle_82 : decode cX7_settle 82 = .ok (.aload_n 0, 1) := by decide +kernel
theorem dX7_settle_83 : decode cX7_settle 83 = .ok (.iload_n 1, 1) := by decide +kernel
theorem dX7_settle_84 : decode cX7_settle 84 = .ok (.iconst 1, 1) := by decide +kernel
theorem dX7_settle_85 : decode cX7_settle 85 = .ok (.invokestatic 49, 3) := by decide +kernel
theorem dX7_settle_88 : decode cX7_settle 88 = .ok (.iaload, 1) := by decide +kernel
theorem dX7_settle_89 : decode cX7_settle 89 = .ok (.iadd, 1) := by decide +kernel
theorem dX7_settle_90 : decode cX7_settle 90 = .ok (.dup2, 1) := by decide +kernel
theorem dX7_settle_91 : decode cX7_settle 91 = .ok (.iaload, 1) := by decide +kernel
theorem dX7_settle_92 : decode cX7_settle 92 = .ok (.iload 4, 2) := by decide +kernel
theorem dX7_settle_94 : decode cX7_settle 94 = .ok (.isub, 1) := by decide +kernel
theorem dX7_settle_95 : decode cX7_settle 95 = .ok (.iastore, 1) := by decide +kernel
theorem dX7_settle_96 : decode cX7_settle 96 = .ok (.aload_n 0, 1) := by decide +kernel
theorem dX7_settle_97 : decode cX7_settle 97 = .ok (.bipush 25, 2) := by decide +kernel
theorem dX7_settle_99 : decode cX7_settle 99 = .ok (.aload_n 0, 1) := by decide +kernel
theorem dX7_settle_100 : decode cX7_settle 100 = .ok (.iload_n 2, 1) := by decide +kernel
theorem dX7_settle_101 : decode cX7_settle 101 = .ok (.iconst 1, 1) := by decide +kernel
theorem dX7_settle_102 : decode cX7_settle 102 = .ok (.invokestatic 49, 3) := by decide +kernel
theorem dX7_settle_105 : decode cX7_settle 105 = .ok (.iaload, 1) := by decide +kernel
theorem dX7_settle_106 : decode cX7_settle 106 = .ok (.iadd, 1) := by decide +kernel
theorem dX7_settle_107 : decode cX7_settle 107 = .ok (.dup2, 1) := by decide +kernel
theorem dX7_settle_108 : decode cX7_settle 108 = .ok (.iaload, 1) := by decide +kernel
theorem dX7_settle_109 : decode cX7_settle 109 = .ok (.iload 4, 2) := by decide +kernel
theorem dX7_settle_111 : decode cX7_settle 111 = .ok (.iadd, 1) := by decide +kernel
theorem dX7_settle_112 : decode cX7_settle 112 = .ok (.iastore, 1) := by decide +kernel
theorem dX7_settle_113 : decode cX7_settle 113 = .ok (.iinc 2 1, 3) := by decide +kernel
theorem dX7_settle_116 : decode cX7_settle 116 = .ok (.goto (-114), 3) := by decide +kernel
theorem dX7_settle_119 : decode cX7_settle 119 = .ok (.return_, 1) := by decide +kernel
theorem dX7_goHour_0 : decode cX7_goHour 0 = .ok (.iconst 0, 1) := by decide +kernel
theorem dX7_goHour_1 : decode cX7_goHour 1 = .ok (.istore_n 1, 1) := by decide +kernel
theorem dX7_goHour_2 : decode cX7_goHour 2 = .ok (.iconst 0, 1) := by decide +kernel
theorem dX7_goHour_3 : decode cX7_goHour 3 = .ok (.istore_n 2, 1) := by decide +kernel
theorem dX7_goHour_4 : decode cX7_goHour 4 = .ok (.iload_n 2, 1) := by decide +kernel
theorem dX7_goHour_5 : decode cX7_goHour 5 = .ok (.aload_n 0, 1) := by decide +kernel
theorem dX7_goHour_6 : decode cX7_goHour 6 = .ok (.iconst 1, 1) := by decide +kernel
theorem dX7_goHour_7 : decode cX7_goHour 7 = .ok (.iaload, 1) := by decide +kernel
theorem dX7_goHour_8 : decode cX7_goHour 8 = .ok (.if_icmp .ge 52, 3) := by decide +kernel
theorem dX7_goHour_11 : decode cX7_goHour 11 = .ok (.aload_n 0, 1) := by decide +kernel
theorem dX7_goHour_12 : decode cX7_goHour 12 = .ok (.iload_n 2, 1) := by decide +kernel
theorem dX7_goHour_13 : decode cX7_goHour 13 = .ok (.invokestatic 84, 3) := by decide +kernel
theorem dX7_goHour_16 : decode cX7_goHour 16 = .ok (.istore_n 3, 1) := by decide +kernel
theorem dX7_goHour_17 : decode cX7_goHour 17 = .ok (.iload_n 1, 1) := by decide +kernel
theorem dX7_goHour_18 : decode cX7_goHour 18 = .ok (.ifCond .ne 7, 3) := by decide +kernel
theorem dX7_goHour_21 : decode cX7_goHour 21 = .ok (.iload_n 3, 1) := by decide +kernel
theorem dX7_goHour_22 : decode cX7_goHour 22 = .ok (.ifCond .le 7, 3) := by decide +kernel
theorem dX7_goHour_25 : decode cX7_goHour 25 = .ok (.iconst 1, 1) := by decide +kernel
theorem dX7_goHour_26 : decode cX7_goHour 26 = .ok (.goto 4, 3) := by decide +kernel
theorem dX7_goHour_29 : decode cX7_goHour 29 = .ok (.iconst 0, 1) := by decide +kernel
theorem dX7_goHour_30 : decode cX7_goHour 30 = .ok (.istore_n 1, 1) := by decide +kernel
theorem dX7_goHour_31 : decode cX7_goHour 31 = .ok (.aload_n 0, 1) := by decide +kernel
theorem dX7_goHour_32 : decode cX7_goHour 32 = .ok (.bipush 8, 2) := by decide +kernel
theorem dX7_goHour_34 : decode cX7_goHour 34 = .ok (.dup2, 1) := by decide +kernel
theorem dX7_goHour_35 : decode cX7_goHour 35 = .ok (.iaload, 1) := by decide +kernel
theorem dX7_goHour_36 : decode cX7_goHour 36 = .ok (.iload_n 3, 1) := by decide +kernel
theorem dX7_goHour_37 : decode cX7_goHour 37 = .ok (.ifCond .le 7, 3) := by decide +kernel
theorem dX7_goHour_40 : decode cX7_goHour 40 = .ok (.iconst 1, 1) := by decide +kernel
theorem dX7_goHour_41 : decode cX7_goHour 41 = .ok (.goto 4, 3) := by decide +kernel
theorem dX7_goHour_44 : decode cX7_goHour 44 = .ok (.iconst 0, 1) := by decide +kernel
theorem dX7_goHour_45 : decode cX7_goHour 45 = .ok (.iadd, 1) := by decide +kernel
theorem dX7_goHour_46 : decode cX7_goHour 46 = .ok (.iastore, 1) := by decide +kernel
theorem dX7_goHour_47 : decode cX7_goHour 47 = .ok (.aload_n 0, 1) := by decide +kernel
theorem dX7_goHour_48 : decode cX7_goHour 48 = .ok (.iconst 5, 1) := by decide +kernel
theorem dX7_goHour_49 : decode cX7_goHour 49 = .ok (.dup2, 1) := by decide +kernel
theorem dX7_goHour_50 : decode cX7_goHour 50 = .ok (.iaload, 1) := by decide +kernel
theorem dX7_goHour_51 : decode cX7_goHour 51 = .ok (.iload_n 3, 1) := by decide +kernel
theorem dX7_goHour_52 : decode cX7_goHour 52 = .ok (.iadd, 1) := by decide +kernel
theorem dX7_goHour_53 : decode cX7_goHour 53 = .ok (.iastore, 1) := by decide +kernel
theorem dX7_goHour_54 : decode cX7_goHour 54 = .ok (.iinc 2 1, 3) := by decide +kernel
theorem dX7_goHour_57 : decode cX7_goHour 57 = .ok (.goto (-53), 3) := by decide +kernel
theorem dX7_goHour_60 : decode cX7_goHour 60 = .ok (.aload_n 0, 1) := by decide +kernel
theorem dX7_goHour_61 : decode cX7_goHour 61 = .ok (.iconst 5, 1) := by decide +kernel
theorem dX7_goHour_62 : decode cX7_goHour 62 = .ok (.dup2, 1) := by decide +kernel
theorem dX7_goHour_63 : decode cX7_goHour 63 = .ok (.iaload, 1) := by decide +kernel
theorem dX7_goHour_64 : decode cX7_goHour 64 = .ok (.iload_n 1, 1) := by decide +kernel
theorem dX7_goHour_65 : decode cX7_goHour 65 = .ok (.ifCond .eq 7, 3) := by decide +kernel
theorem dX7_goHour_68 : decode cX7_goHour 68 = .ok (.iconst 1, 1) := by decide +kernel
theorem dX7_goHour_69 : decode cX7_goHour 69 = .ok (.goto 4, 3) := by decide +kernel
theorem dX7_goHour_72 : decode cX7_goHour 72 = .ok (.iconst 0, 1) := by decide +kernel
theorem dX7_goHour_73 : decode cX7_goHour 73 = .ok (.iadd, 1) := by decide +kernel
theorem dX7_goHour_74 : decode cX7_goHour 74 = .ok (.iastore, 1) := by decide +kernel
theorem dX7_goHour_75 : decode cX7_goHour 75 = .ok (.aload_n 0, 1) := by decide +kernel
theorem dX7_goHour_76 : decode cX7_goHour 76 = .ok (.iconst 0, 1) := by decide +kernel
theorem dX7_goHour_77 : decode cX7_goHour 77 = .ok (.dup2, 1) := by decide +kernel
theorem dX7_goHour_78 : decode cX7_goHour 78 = .ok (.iaload, 1) := by decide +kernel
theorem dX7_goHour_79 : decode cX7_goHour 79 = .ok (.iconst 1, 1) := by decide +kernel
theorem dX7_goHour_80 : decode cX7_goHour 80 = .ok (.iadd, 1) := by decide +kernel
theorem dX7_goHour_81 : decode cX7_goHour 81 = .ok (.iastore, 1) := by decide +kernel
theorem dX7_goHour_82 : decode cX7_goHour 82 = .ok (.iconst 0, 1) := by decide +kernel
theorem dX7_goHour_83 : decode cX7_goHour 83 = .ok (.istore_n 2, 1) := by decide +kernel
theorem dX7_goHour_84 : decode cX7_goHour 84 = .ok (.iload_n 2, 1) := by decide +kernel
theorem dX7_goHour_85 : decode cX7_goHour 85 = .ok (.aload_n 0, 1) := by decide +kernel
theorem dX7_goHour_86 : decode cX7_goHour 86 = .ok (.iconst 3, 1) := by decide +kernel
theorem dX7_goHour_87 : decode cX7_goHour 87 = .ok (.iaload, 1) := by decide +kernel
theorem dX7_goHour_88 : decode cX7_goHour 88 = .ok (.if_icmp .ge 34, 3) := by decide +kernel
theorem dX7_goHour_91 : decode cX7_goHour 91 = .ok (.aload_n 0, 1) := by decide +kernel
theorem dX7_goHour_92 : decode cX7_goHour 92 = .ok (.iload_n 2, 1) := by decide +kernel
theorem dX7_goHour_93 : decode cX7_goHour 93 = .ok (.bipush 7, 2) := by decide +kernel
theorem dX7_goHour_95 : decode cX7_goHour 95 = .ok (.invokestatic 49, 3) := by decide +kernel
theorem dX7_goHour_98 : decode cX7_goHour 98 = .ok (.iconst 0, 1) := by decide +kernel
theorem dX7_goHour_99 : decode cX7_goHour 99 = .ok (.iastore, 1) := by decide +kernel
theorem dX7_goHour_100 : decode cX7_goHour 100 = .ok (.aload_n 0, 1) := by decide +kernel
theorem dX7_goHour_101 : decode cX7_goHour 101 = .ok (.iload_n 2, 1) := by decide +kernel
theorem dX7_goHour_102 : decode cX7_goHour 102 = .ok (.invokestatic 53, 3) := by decide +kernel
theorem dX7_goHour_105 : decode cX7_goHour 105 = .ok (.aload_n 0, 1) := by decide +kernel
theorem dX7_goHour_106 : decode cX7_goHour 106 = .ok (.iconst 0, 1) := by decide +kernel
theorem dX7_goHour_107 : decode cX7_goHour 107 = .ok (.iaload, 1) := by decide +kernel
theorem dX7_goHour_108 : decode cX7_goHour 108 = .ok (.if_icmp .ne 8, 3) := by decide +kernel
theorem dX7_goHour_111 : decode cX7_goHour 111 = .ok (.aload_n 0, 1) := by decide +kernel
theorem dX7_goHour_112 : decode cX7_goHour 112 = .ok (.iload_n 2, 1) := by decide +kernel
theorem dX7_goHour_113 : decode cX7_goHour 113 = .ok (.invokestatic 87, 3) := by decide +kernel
theorem dX7_goHour_116 : decode cX7_goHour 116 = .ok (.iinc 2 1, 3) := by decide +kernel
theorem dX7_goHour_119 : decode cX7_goHour 119 = .ok (.goto (-35), 3) := by decide +kernel
theorem dX7_goHour_122 : decode cX7_goHour 122 = .ok (.return_, 1) := by decide +kernel
theorem dX7_goHours_0 : decode cX7_goHours 0 = .ok (.iconst 0, 1) := by decide +kernel
theorem dX7_goHours_1 : decode cX7_goHours 1 = .ok (.istore_n 2, 1) := by decide +kernel
theorem dX7_goHours_2 : decode cX7_goHours 2 = .ok (.iload_n 2, 1) := by decide +kernel
theorem dX7_goHours_3 : decode cX7_goHours 3 = .ok (.iload_n 1, 1) := by decide +kernel
theorem dX7_goHours_4 : decode cX7_goHours 4 = .ok (.if_icmp .ge 13, 3) := by decide +kernel
theorem dX7_goHours_7 : decode cX7_goHours 7 = .ok (.aload_n 0, 1) := by decide +kernel
theorem dX7_goHours_8 : decode cX7_goHours 8 = .ok (.invokestatic 91, 3) := by decide +kernel
theorem dX7_goHours_11 : decode cX7_goHours 11 = .ok (.iinc 2 1, 3) := by decide +kernel
theorem dX7_goHours_14 : decode cX7_goHours 14 = .ok (.goto (-12), 3) := by decide +kernel
theorem dX7_goHours_17 : decode cX7_goHours 17 = .ok (.return_, 1) := by decide +kernel
theorem dX7_goAll_0 : decode cX7_goAll 0 = .ok (.aload_n 0, 1) := by decide +kernel
theorem dX7_goAll_1 : decode cX7_goAll 1 = .ok (.iconst 0, 1) := by decide +kernel
theorem dX7_goAll_2 : decode cX7_goAll 2 = .ok (.iaload, 1) := by decide +kernel
theorem dX7_goAll_3 : decode cX7_goAll 3 = .ok (.istore_n 1, 1) := by decide +kernel
theorem dX7_goAll_4 : decode cX7_goAll 4 = .ok (.iconst 0, 1) := by decide +kernel
theorem dX7_goAll_5 : decode cX7_goAll 5 = .ok (.istore_n 2, 1) := by decide +kernel
theorem dX7_goAll_6 : decode cX7_goAll 6 = .ok (.iload_n 2, 1) := by decide +kernel
theorem dX7_goAll_7 : decode cX7_goAll 7 = .ok (.aload_n 0, 1) := by decide +kernel
theorem dX7_goAll_8 : decode cX7_goAll 8 = .ok (.iconst 3, 1) := by decide +kernel
theorem dX7_goAll_9 : decode cX7_goAll 9 = .ok (.iaload, 1) := by decide +kernel
theorem dX7_goAll_10 : decode cX7_goAll 10 = .ok (.if_icmp .ge 28, 3) := by decide +kernel
theorem dX7_goAll_13 : decode cX7_goAll 13 = .ok (.aload_n 0, 1) := by decide +kernel
theorem dX7_goAll_14 : decode cX7_goAll 14 = .ok (.iload_n 2, 1) := by decide +kernel
theorem dX7_goAll_15 : decode cX7_goAll 15 = .ok (.invokestatic 53, 3) := by decide +kernel
theorem dX7_goAll_18 : decode cX7_goAll 18 = .ok (.iload_n 1, 1) := by decide +kernel
theorem dX7_goAll_19 : decode cX7_goAll 19 = .ok (.if_icmp .le 11, 3) := by decide +kernel
theorem dX7_goAll_22 : decode cX7_goAll 22 = .ok (.aload_n 0, 1) := by decide +kernel
theorem dX7_goAll_23 : decode cX7_goAll 23 = .ok (.iload_n 2, 1) := by decide +kernel
theorem dX7_goAll_24 : decode cX7_goAll 24 = .ok (.invokestatic 53, 3) := by decide +kernel
theorem dX7_goAll_27 : decode cX7_goAll 27 = .ok (.goto 4, 3) := by decide +kernel
theorem dX7_goAll_30 : decode cX7_goAll 30 = .ok (.iload_n 1, 1) := by decide +kernel
theorem dX7_goAll_31 : decode cX7_goAll 31 = .ok (.istore_n 1, 1) := by decide +kernel
theorem dX7_goAll_32 : decode cX7_goAll 32 = .ok (.iinc 2 1, 3) := by decide +kernel
theorem dX7_goAll_35 : decode cX7_goAll 35 = .ok (.goto (-29), 3) := by decide +kernel
theorem dX7_goAll_38 : decode cX7_goAll 38 = .ok (.aload_n 0, 1) := by decide +kernel
theorem dX7_goAll_39 : decode cX7_goAll 39 = .ok (.iload_n 1, 1) := by decide +kernel
theorem dX7_goAll_40 : decode cX7_goAll 40 = .ok (.aload_n 0, 1) := by decide +kernel
theorem dX7_goAll_41 : decode cX7_goAll 41 = .ok (.iconst 0, 1) := by decide +kernel
theorem dX7_goAll_42 : decode cX7_goAll 42 = .ok (.iaload, 1) := by decide +kernel
theorem dX7_goAll_43 : decode cX7_goAll 43 = .ok (.isub, 1) := by decide +kernel
theorem dX7_goAll_44 : decode cX7_goAll 44 = .ok (.invokestatic 94, 3) := by decide +kernel
theorem dX7_goAll_47 : decode cX7_goAll 47 = .ok (.return_, 1) := by decide +kernel
theorem dX7_isFree_0 : decode cX7_isFree 0 = .ok (.iconst 1, 1) := by decide +kernel
theorem dX7_isFree_1 : decode cX7_isFree 1 = .ok (.istore 4, 2) := by decide +kernel
theorem dX7_isFree_3 : decode cX7_isFree 3 = .ok (.iconst 0, 1) := by decide +kernel
theorem dX7_isFree_4 : decode cX7_isFree 4 = .ok (.istore 5, 2) := by decide +kernel
theorem dX7_isFree_6 : decode cX7_isFree 6 = .ok (.iload 5, 2) := by decide +kernel
theorem dX7_isFree_8 : decode cX7_isFree 8 = .ok (.aload_n 0, 1) := by decide +kernel
theorem dX7_isFree_9 : decode cX7_isFree 9 = .ok (.iconst 3, 1) := by decide +kernel
theorem dX7_isFree_10 : decode cX7_isFree 10 = .ok (.iaload, 1) := by decide +kernel
theorem dX7_isFree_11 : decode cX7_isFree 11 = .ok (.if_icmp .ge 57, 3) := by decide +kernel
theorem dX7_isFree_14 : decode cX7_isFree 14 = .ok (.iload 4, 2) := by decide +kernel
theorem dX7_isFree_16 : decode cX7_isFree 16 = .ok (.ifCond .eq 43, 3) := by decide +kernel
theorem dX7_isFree_19 : decode cX7_isFree 19 = .ok (.aload_n 0, 1) := by decide +kernel
theorem dX7_isFree_20 : decode cX7_isFree 20 = .ok (.iload 5, 2) := by decide +kernel
theorem dX7_isFree_22 : decode cX7_isFree 22 = .ok (.iconst 0, 1) := by decide +kernel
theorem dX7_isFree_23 : decode cX7_isFree 23 = .ok (.invokestatic 49, 3) := by decide +kernel
theorem dX7_isFree_26 : decode cX7_isFree 26 = .ok (.iaload, 1) := by decide +kernel
theorem dX7_isFree_27 : decode cX7_isFree 27 = .ok (.iload_n 1, 1) := by decide +kernel
theorem dX7_isFree_28 : decode cX7_isFree 28 = .ok (.if_icmp .ne 27, 3) := by decide +kernel
theorem dX7_isFree_31 : decode cX7_isFree 31 = .ok (.iload_n 2, 1) := by decide +kernel
theorem dX7_isFree_32 : decode cX7_isFree 32 = .ok (.aload_n 0, 1) := by decide +kernel
theorem dX7_isFree_33 : decode cX7_isFree 33 = .ok (.iload 5, 2) := by decide +kernel
theorem dX7_isFree_35 : decode cX7_isFree 35 = .ok (.invokestatic 53, 3) := by decide +kernel
theorem dX7_isFree_38 : decode cX7_isFree 38 = .ok (.if_icmp .ge 17, 3) := by decide +kernel
theorem dX7_isFree_41 : decode cX7_isFree 41 = .ok (.iload_n 2, 1) := by decide +kernel
theorem dX7_isFree_42 : decode cX7_isFree 42 = .ok (.iload_n 3, 1) := by decide +kernel
theorem dX7_isFree_43 : decode cX7_isFree 43 = .ok (.iadd, 1) := by decide +kernel
theorem dX7_isFree_44 : decode cX7_isFree 44 = .ok (.aload_n 0, 1) := by decide +kernel
theorem dX7_isFree_45 : decode cX7_isFree 45 = .ok (.iload 5, 2) := by decide +kernel
theorem dX7_isFree_47 : decode cX7_isFree 47 = .ok (.iconst 2, 1) := by decide +kernel
theorem dX7_isFree_48 : decode cX7_isFree 48 = .ok (.invokestatic 49, 3) := by decide +kernel
theorem dX7_isFree_51 : decode cX7_isFree 51 = .ok (.iaload, 1) := by decide +kernel
theorem dX7_isFree_52 : decode cX7_isFree 52 = .ok (.if_icmp .gt 7, 3) := by decide +kernel
theorem dX7_isFree_55 : decode cX7_isFree 55 = .ok (.iconst 1, 1) := by decide +kernel
theorem dX7_isFree_56 : decode cX7_isFree 56 = .ok (.goto 4, 3) := by decide +kernel
theorem dX7_isFree_59 : decode cX7_isFree 59 = .ok (.iconst 0, 1) := by decide +kernel
theorem dX7_isFree_60 : decode cX7_isFree 60 = .ok (.istore 4, 2) := by decide +kernel
theorem dX7_isFree_62 : decode cX7_isFree 62 = .ok (.iinc 5 1, 3) := by decide +kernel
theorem dX7_isFree_65 : decode cX7_isFree 65 = .ok (.goto (-59), 3) := by decide +kernel
theorem dX7_isFree_68 : decode cX7_isFree 68 = .ok (.iload 4, 2) := by decide +kernel
theorem dX7_isFree_70 : decode cX7_isFree 70 = .ok (.ireturn, 1) := by decide +kernel
theorem dX7_canBook_0 : decode cX7_canBook 0 = .ok (.aload_n 0, 1) := by decide +kernel
theorem dX7_canBook_1 : decode cX7_canBook 1 = .ok (.iconst 3, 1) := by decide +kernel
theorem dX7_canBook_2 : decode cX7_canBook 2 = .ok (.iaload, 1) := by decide +kernel
theorem dX7_canBook_3 : decode cX7_canBook 3 = .ok (.bipush 12, 2) := by decide +kernel
theorem dX7_canBook_5 : decode cX7_canBook 5 = .ok (.if_icmp .ge 17, 3) := by decide +kernel
theorem dX7_canBook_8 : decode cX7_canBook 8 = .ok (.aload_n 0, 1) := by decide +kernel
theorem dX7_canBook_9 : decode cX7_canBook 9 = .ok (.iload_n 1, 1) := by decide +kernel
theorem dX7_canBook_10 : decode cX7_canBook 10 = .ok (.iload_n 2, 1) := by decide +kernel
theorem dX7_canBook_11 : decode cX7_canBook 11 = .ok (.iload_n 3, 1) := by decide +kernel
theorem dX7_canBook_12 : decode cX7_canBook 12 = .ok (.invokestatic 97, 3) := by decide +kernel
theorem dX7_canBook_15 : decode cX7_canBook 15 = .ok (.ifCond .eq 7, 3) := by decide +kernel
theorem dX7_canBook_18 : decode cX7_canBook 18 = .ok (.iconst 1, 1) := by decide +kernel
theorem dX7_canBook_19 : decode cX7_canBook 19 = .ok (.goto 4, 3) := by decide +kernel
theorem dX7_canBook_22 : decode cX7_canBook 22 = .ok (.iconst 0, 1) := by decide +kernel
theorem dX7_canBook_23 : decode cX7_canBook 23 = .ok (.ireturn, 1) := by decide +kernel
theorem dX7_addRoomTo_0 : decode cX7_addRoomTo 0 = .ok (.aload_n 0, 1) := by decide +kernel
theorem dX7_addRoomTo_1 : decode cX7_addRoomTo 1 = .ok (.iconst 1, 1) := by decide +kernel
theorem dX7_addRoomTo_2 : decode cX7_addRoomTo 2 = .ok (.iaload, 1) := by decide +kernel
theorem dX7_addRoomTo_3 : decode cX7_addRoomTo 3 = .ok (.istore 5, 2) := by decide +kernel
theorem dX7_addRoomTo_5 : decode cX7_addRoomTo 5 = .ok (.aload_n 0, 1) := by decide +kernel
theorem dX7_addRoomTo_6 : decode cX7_addRoomTo 6 = .ok (.iload 5, 2) := by decide +kernel
theorem dX7_addRoomTo_8 : decode cX7_addRoomTo 8 = .ok (.iconst 0, 1) := by decide +kernel
theorem dX7_addRoomTo_9 : decode cX7_addRoomTo 9 = .ok (.invokestatic 61, 3) := by decide +kernel
theorem dX7_addRoomTo_12 : decode cX7_addRoomTo 12 = .ok (.iload_n 1, 1) := by decide +kernel
theorem dX7_addRoomTo_13 : decode cX7_addRoomTo 13 = .ok (.iastore, 1) := by decide +kernel
theorem dX7_addRoomTo_14 : decode cX7_addRoomTo 14 = .ok (.aload_n 0, 1) := by decide +kernel
theorem dX7_addRoomTo_15 : decode cX7_addRoomTo 15 = .ok (.iload 5, 2) := by decide +kernel
theorem dX7_addRoomTo_17 : decode cX7_addRoomTo 17 = .ok (.iconst 1, 1) := by decide +kernel
theorem dX7_addRoomTo_18 : decode cX7_addRoomTo 18 = .ok (.invokestatic 61, 3) := by decide +kernel
theorem dX7_addRoomTo_21 : decode cX7_addRoomTo 21 = .ok (.iload_n 2, 1) := by decide +kernel
theorem dX7_addRoomTo_22 : decode cX7_addRoomTo 22 = .ok (.iastore, 1) := by decide +kernel
theorem dX7_addRoomTo_23 : decode cX7_addRoomTo 23 = .ok (.aload_n 0, 1) := by decide +kernel
theorem dX7_addRoomTo_24 : decode cX7_addRoomTo 24 = .ok (.iload 5, 2) := by decide +kernel
theorem dX7_addRoomTo_26 : decode cX7_addRoomTo 26 = .ok (.iconst 2, 1) := by decide +kernel
theorem dX7_addRoomTo_27 : decode cX7_addRoomTo 27 = .ok (.invokestatic 61, 3) := by decide +kernel
theorem dX7_addRoomTo_30 : decode cX7_addRoomTo 30 = .ok (.iload_n 3, 1) := by decide +kernel
theorem dX7_addRoomTo_31 : decode cX7_addRoomTo 31 = .ok (.iastore, 1) := by decide +kernel
theorem dX7_addRoomTo_32 : decode cX7_addRoomTo 32 = .ok (.aload_n 0, 1) := by decide +kernel
theorem dX7_addRoomTo_33 : decode cX7_addRoomTo 33 = .ok (.iload 5, 2) := by decide +kernel
theorem dX7_addRoomTo_35 : decode cX7_addRoomTo 35 = .ok (.iconst 3, 1) := by decide +kernel
theorem dX7_addRoomTo_36 : decode cX7_addRoomTo 36 = .ok (.invokestatic 61, 3) := by decide +kernel
theorem dX7_addRoomTo_39 : decode cX7_addRoomTo 39 = .ok (.iload 4, 2) := by decide +kernel
theorem dX7_addRoomTo_41 : decode cX7_addRoomTo 41 = .ok (.iastore, 1) := by decide +kernel
theorem dX7_addRoomTo_42 : decode cX7_addRoomTo 42 = .ok (.aload_n 0, 1) := by decide +kernel
theorem dX7_addRoomTo_43 : decode cX7_addRoomTo 43 = .ok (.iconst 1, 1) := by decide +kernel
theorem dX7_addRoomTo_44 : decode cX7_addRoomTo 44 = .ok (.dup2, 1) := by decide +kernel
theorem dX7_addRoomTo_45 : decode cX7_addRoomTo 45 = .ok (.iaload, 1) := by decide +kernel
theorem dX7_addRoomTo_46 : decode cX7_addRoomTo 46 = .ok (.iconst 1, 1) := by decide +kernel
theorem dX7_addRoomTo_47 : decode cX7_addRoomTo 47 = .ok (.iadd, 1) := by decide +kernel
theorem dX7_addRoomTo_48 : decode cX7_addRoomTo 48 = .ok (.iastore, 1) := by decide +kernel
theorem dX7_addRoomTo_49 : decode cX7_addRoomTo 49 = .ok (.return_, 1) := by decide +kernel
theorem dX7_bookTo_0 : decode cX7_bookTo 0 = .ok (.aload_n 0, 1) := by decide +kernel
theorem dX7_bookTo_1 : decode cX7_bookTo 1 = .ok (.iconst 3, 1) := by decide +kernel
theorem dX7_bookTo_2 : decode cX7_bookTo 2 = .ok (.iaload, 1) := by decide +kernel
theorem dX7_bookTo_3 : decode cX7_bookTo 3 = .ok (.istore 6, 2) := by decide +kernel
theorem dX7_bookTo_5 : decode cX7_bookTo 5 = .ok (.iconst 0, 1) := by decide +kernel
theorem dX7_bookTo_6 : decode cX7_bookTo 6 = .ok (.istore 7, 2) := by decide +kernel
theorem dX7_bookTo_8 : decode cX7_bookTo 8 = .ok (.iload 7, 2) := by decide +kernel
theorem dX7_bookTo_10 : decode cX7_bookTo 10 = .ok (.bipush 10, 2) := by decide +kernel
theorem dX7_bookTo_12 : decode cX7_bookTo 12 = .ok (.if_icmp .ge 19, 3) := by decide +kernel
theorem dX7_bookTo_15 : decode cX7_bookTo 15 = .ok (.aload_n 0, 1) := by decide +kernel
theorem dX7_bookTo_16 : decode cX7_bookTo 16 = .ok (.iload 6, 2) := by decide +kernel
theorem dX7_bookTo_18 : decode cX7_bookTo 18 = .ok (.iload 7, 2) := by decide +kernel
theorem dX7_bookTo_20 : decode cX7_bookTo 20 = .ok (.invokestatic 49, 3) := by decide +kernel
theorem dX7_bookTo_23 : decode cX7_bookTo 23 = .ok (.iconst 0, 1) := by decide +kernel
theorem dX7_bookTo_24 : decode cX7_bookTo 24 = .ok (.iastore, 1) := by decide +kernel
theorem dX7_bookTo_25 : decode cX7_bookTo 25 = .ok (.iinc 7 1, 3) := by decide +kernel
theorem dX7_bookTo_28 : decode cX7_bookTo 28 = .ok (.goto (-20), 3) := by decide +kernel
theorem dX7_bookTo_31 : decode cX7_bookTo 31 = .ok (.aload_n 0, 1) := by decide +kernel
theorem dX7_bookTo_32 : decode cX7_bookTo 32 = .ok (.iload 6, 2) := by decide +kernel
theorem dX7_bookTo_34 : decode cX7_bookTo 34 = .ok (.iconst 0, 1) := by decide +kernel
theorem dX7_bookTo_35 : decode cX7_bookTo 35 = .ok (.invokestatic 49, 3) := by decide +kernel
theorem dX7_bookTo_38 : decode cX7_bookTo 38 = .ok (.iload_n 1, 1) := by decide +kernel
theorem dX7_bookTo_39 : decode cX7_bookTo 39 = .ok (.iastore, 1) := by decide +kernel
theorem dX7_bookTo_40 : decode cX7_bookTo 40 = .ok (.aload_n 0, 1) := by decide +kernel
theorem dX7_bookTo_41 : decode cX7_bookTo 41 = .ok (.iload 6, 2) := by decide +kernel
theorem dX7_bookTo_43 : decode cX7_bookTo 43 = .ok (.iconst 1, 1) := by decide +kernel
theorem dX7_bookTo_44 : decode cX7_bookTo 44 = .ok (.invokestatic 49, 3) := by decide +kernel
theorem dX7_bookTo_47 : decode cX7_bookTo 47 = .ok (.iload_n 2, 1) := by decide +kernel
theorem dX7_bookTo_48 : decode cX7_bookTo 48 = .ok (.iastore, 1) := by decide +kernel
theorem dX7_bookTo_49 : decode cX7_bookTo 49 = .ok (.aload_n 0, 1) := by decide +kernel
theorem dX7_bookTo_50 : decode cX7_bookTo 50 = .ok (.iload 6, 2) := by decide +kernel
theorem dX7_bookTo_52 : decode cX7_bookTo 52 = .ok (.iconst 2, 1) := by decide +kernel
theorem dX7_bookTo_53 : decode cX7_bookTo 53 = .ok (.invokestatic 49, 3) := by decide +kernel
theorem dX7_bookTo_56 : decode cX7_bookTo 56 = .ok (.iload_n 3, 1) := by decide +kernel
theorem dX7_bookTo_57 : decode cX7_bookTo 57 = .ok (.iastore, 1) := by decide +kernel
theorem dX7_bookTo_58 : decode cX7_bookTo 58 = .ok (.aload_n 0, 1) := by decide +kernel
theorem dX7_bookTo_59 : decode cX7_bookTo 59 = .ok (.iload 6, 2) := by decide +kernel
theorem dX7_bookTo_61 : decode cX7_bookTo 61 = .ok (.iconst 3, 1) := by decide +kernel
theorem dX7_bookTo_62 : decode cX7_bookTo 62 = .ok (.invokestatic 49, 3) := by decide +kernel
theorem dX7_bookTo_65 : decode cX7_bookTo 65 = .ok (.iload 4, 2) := by decide +kernel
theorem dX7_bookTo_67 : decode cX7_bookTo 67 = .ok (.iastore, 1) := by decide +kernel
theorem dX7_bookTo_68 : decode cX7_bookTo 68 = .ok (.aload_n 0, 1) := by decide +kernel
theorem dX7_bookTo_69 : decode cX7_bookTo 69 = .ok (.iload 6, 2) := by decide +kernel
theorem dX7_bookTo_71 : decode cX7_bookTo 71 = .ok (.iconst 4, 1) := by decide +kernel
theorem dX7_bookTo_72 : decode cX7_bookTo 72 = .ok (.invokestatic 49, 3) := by decide +kernel
theorem dX7_bookTo_75 : decode cX7_bookTo 75 = .ok (.iload 5, 2) := by decide +kernel
theorem dX7_bookTo_77 : decode cX7_bookTo 77 = .ok (.iastore, 1) := by decide +kernel
theorem dX7_bookTo_78 : decode cX7_bookTo 78 = .ok (.aload_n 0, 1) := by decide +kernel
theorem dX7_bookTo_79 : decode cX7_bookTo 79 = .ok (.iconst 3, 1) := by decide +kernel
theorem dX7_bookTo_80 : decode cX7_bookTo 80 = .ok (.dup2, 1) := by decide +kernel
theorem dX7_bookTo_81 : decode cX7_bookTo 81 = .ok (.iaload, 1) := by decide +kernel
theorem dX7_bookTo_82 : decode cX7_bookTo 82 = .ok (.iconst 1, 1) := by decide +kernel
theorem dX7_bookTo_83 : decode cX7_bookTo 83 = .ok (.iadd, 1) := by decide +kernel
theorem dX7_bookTo_84 : decode cX7_bookTo 84 = .ok (.iastore, 1) := by decide +kernel
theorem dX7_bookTo_85 : decode cX7_bookTo 85 = .ok (.return_, 1) := by decide +kernel
theorem dX7_canCancel_0 : decode cX7_canCancel 0 = .ok (.aload_n 0, 1) := by decide +kernel
theorem dX7_canCancel_1 : decode cX7_canCancel 1 = .ok (.iload_n 1, 1) := by decide +kernel
theorem dX7_canCancel_2 : decode cX7_canCancel 2 = .ok (.bipush 9, 2) := by decide +kernel
theorem dX7_canCancel_4 : decode cX7_canCancel 4 = .ok (.invokestatic 49, 3) := by decide +kernel
theorem dX7_canCancel_7 : decode cX7_canCancel 7 = .ok (.iaload, 1) := by decide +kernel
theorem dX7_canCancel_8 : decode cX7_canCancel 8 = .ok (.ifCond .ne 20, 3) := by decide +kernel
theorem dX7_canCancel_11 : decode cX7_canCancel 11 = .ok (.aload_n 0, 1) := by decide +kernel
theorem dX7_canCancel_12 : decode cX7_canCancel 12 = .ok (.iconst 0, 1) := by decide +kernel
theorem dX7_canCancel_13 : decode cX7_canCancel 13 = .ok (.iaload, 1) := by decide +kernel
theorem dX7_canCancel_14 : decode cX7_canCancel 14 = .ok (.aload_n 0, 1) := by decide +kernel
theorem dX7_canCancel_15 : decode cX7_canCancel 15 = .ok (.iload_n 1, 1) := by decide +kernel
theorem dX7_canCancel_16 : decode cX7_canCancel 16 = .ok (.iconst 2, 1) := by decide +kernel
theorem dX7_canCancel_17 : decode cX7_canCancel 17 = .ok (.invokestatic 49, 3) := by decide +kernel
theorem dX7_canCancel_20 : decode cX7_canCancel 20 = .ok (.iaload, 1) := by decide +kernel
theorem dX7_canCancel_21 : decode cX7_canCancel 21 = .ok (.if_icmp .gt 7, 3) := by decide +kernel
theorem dX7_canCancel_24 : decode cX7_canCancel 24 = .ok (.iconst 1, 1) := by decide +kernel
theorem dX7_canCancel_25 : decode cX7_canCancel 25 = .ok (.goto 4, 3) := by decide +kernel
theorem dX7_canCancel_28 : decode cX7_canCancel 28 = .ok (.iconst 0, 1) := by decide +kernel
theorem dX7_canCancel_29 : decode cX7_canCancel 29 = .ok (.ireturn, 1) := by decide +kernel
theorem dX7_drop_0 : decode cX7_drop 0 = .ok (.iload_n 1, 1) := by decide +kernel
theorem dX7_drop_1 : decode cX7_drop 1 = .ok (.iconst 0, 1) := by decide +kernel
theorem dX7_drop_2 : decode cX7_drop 2 = .ok (.invokestatic 49, 3) := by decide +kernel
theorem dX7_drop_5 : decode cX7_drop 5 = .ok (.istore_n 2, 1) := by decide +kernel
theorem dX7_drop_6 : decode cX7_drop 6 = .ok (.iload_n 2, 1) := by decide +kernel
theorem dX7_drop_7 : decode cX7_drop 7 = .ok (.sipush 141, 3) := by decide +kernel
theorem dX7_drop_10 : decode cX7_drop 10 = .ok (.if_icmp .ge 18, 3) := by decide +kernel
theorem dX7_drop_13 : decode cX7_drop 13 = .ok (.aload_n 0, 1) := by decide +kernel
theorem dX7_drop_14 : decode cX7_drop 14 = .ok (.iload_n 2, 1) := by decide +kernel
theorem dX7_drop_15 : decode cX7_drop 15 = .ok (.aload_n 0, 1) := by decide +kernel
theorem dX7_drop_16 : decode cX7_drop 16 = .ok (.iload_n 2, 1) := by decide +kernel
theorem dX7_drop_17 : decode cX7_drop 17 = .ok (.bipush 10, 2) := by decide +kernel
theorem dX7_drop_19 : decode cX7_drop 19 = .ok (.iadd, 1) := by decide +kernel
theorem dX7_drop_20 : decode cX7_drop 20 = .ok (.iaload, 1) := by decide +kernel
theorem dX7_drop_21 : decode cX7_drop 21 = .ok (.iastore, 1) := by decide +kernel
theorem dX7_drop_22 : decode cX7_drop 22 = .ok (.iinc 2 1, 3) := by decide +kernel
theorem dX7_drop_25 : decode cX7_drop 25 = .ok (.goto (-19), 3) := by decide +kernel
theorem dX7_drop_28 : decode cX7_drop 28 = .ok (.aload_n 0, 1) := by decide +kernel
theorem dX7_drop_29 : decode cX7_drop 29 = .ok (.iconst 3, 1) := by decide +kernel
theorem dX7_drop_30 : decode cX7_drop 30 = .ok (.dup2, 1) := by decide +kernel
theorem dX7_drop_31 : decode cX7_drop 31 = .ok (.iaload, 1) := by decide +kernel
theorem dX7_drop_32 : decode cX7_drop 32 = .ok (.iconst 1, 1) := by decide +kernel
theorem dX7_drop_33 : decode cX7_drop 33 = .ok (.isub, 1) := by decide +kernel
theorem dX7_drop_34 : decode cX7_drop 34 = .ok (.iastore, 1) := by decide +kernel
theorem dX7_drop_35 : decode cX7_drop 35 = .ok (.return_, 1) := by decide +kernel
theorem dX7_append_0 : decode cX7_append 0 = .ok (.aload_n 0, 1) := by decide +kernel
theorem dX7_append_1 : decode cX7_append 1 = .ok (.iload_n 1, 1) := by decide +kernel
theorem dX7_append_2 : decode cX7_append 2 = .ok (.i2l, 1) := by decide +kernel
theorem dX7_append_3 : decode cX7_append 3 = .ok (.lconst 0, 1) := by decide +kernel
theorem dX7_append_4 : decode cX7_append 4 = .ok (.ldc2_w 101, 3) := by decide +kernel
theorem dX7_append_7 : decode cX7_append 7 = .ok (.invokestatic 103, 3) := by decide +kernel
theorem dX7_append_10 : decode cX7_append 10 = .ok (.ifCond .ne 7, 3) := by decide +kernel
theorem dX7_append_13 : decode cX7_append 13 = .ok (.iconst 1, 1) := by decide +kernel
theorem dX7_append_14 : decode cX7_append 14 = .ok (.goto 17, 3) := by decide +kernel
theorem dX7_append_17 : decode cX7_append 17 = .ok (.aload_n 0, 1) := by decide +kernel
theorem dX7_append_18 : decode cX7_append 18 = .ok (.getfield 107, 3) := by decide +kernel
theorem dX7_append_21 : decode cX7_append 21 = .ok (.bipush 120, 2) := by decide +kernel
theorem dX7_append_23 : decode cX7_append 23 = .ok (.if_icmp .ne 7, 3) := by decide +kernel
theorem dX7_append_26 : decode cX7_append 26 = .ok (.iconst 2, 1) := by decide +kernel
theorem dX7_append_27 : decode cX7_append 27 = .ok (.goto 4, 3) := by decide +kernel
theorem dX7_append_30 : decode cX7_append 30 = .ok (.iconst 0, 1) := by decide +kernel
theorem dX7_append_31 : decode cX7_append 31 = .ok (.invokevirtual 110, 3) := by decide +kernel
theorem dX7_append_34 : decode cX7_append 34 = .ok (.ifCond .eq 5, 3) := by decide +kernel
theorem dX7_append_37 : decode cX7_append 37 = .ok (.iconst 0, 1) := by decide +kernel
theorem dX7_append_38 : decode cX7_append 38 = .ok (.ireturn, 1) := by decide +kernel
theorem dX7_append_39 : decode cX7_append 39 = .ok (.aload_n 0, 1) := by decide +kernel
theorem dX7_append_40 : decode cX7_append 40 = .ok (.getfield 7, 3) := by decide +kernel
theorem dX7_append_43 : decode cX7_append 43 = .ok (.aload_n 0, 1) := by decide +kernel
theorem dX7_append_44 : decode cX7_append 44 = .ok (.getfield 107, 3) := by decide +kernel
theorem dX7_append_47 : decode cX7_append 47 = .ok (.iload_n 1, 1) := by decide +kernel
theorem dX7_append_48 : decode cX7_append 48 = .ok (.iastore, 1) := by decide +kernel
theorem dX7_append_49 : decode cX7_append 49 = .ok (.aload_n 0, 1) := by decide +kernel
theorem dX7_append_50 : decode cX7_append 50 = .ok (.dup, 1) := by decide +kernel
theorem dX7_append_51 : decode cX7_append 51 = .ok (.getfield 107, 3) := by decide +kernel
theorem dX7_append_54 : decode cX7_append 54 = .ok (.iconst 1, 1) := by decide +kernel
theorem dX7_append_55 : decode cX7_append 55 = .ok (.iadd, 1) := by decide +kernel
theorem dX7_append_56 : decode cX7_append 56 = .ok (.putfield 107, 3) := by decide +kernel
theorem dX7_append_59 : decode cX7_append 59 = .ok (.aload_n 0, 1) := by decide +kernel
theorem dX7_append_60 : decode cX7_append 60 = .ok (.getfield 107, 3) := by decide +kernel
theorem dX7_append_63 : decode cX7_append 63 = .ok (.ireturn, 1) := by decide +kernel
theorem dX7_clearText_0 : decode cX7_clearText 0 = .ok (.aload_n 0, 1) := by decide +kernel
theorem dX7_clearText_1 : decode cX7_clearText 1 = .ok (.iconst 0, 1) := by decide +kernel
theorem dX7_clearText_2 : decode cX7_clearText 2 = .ok (.putfield 36, 3) := by decide +kernel
theorem dX7_clearText_5 : decode cX7_clearText 5 = .ok (.aload_n 0, 1) := by decide +kernel
theorem dX7_clearText_6 : decode cX7_clearText 6 = .ok (.getfield 107, 3) := by decide +kernel
theorem dX7_clearText_9 : decode cX7_clearText 9 = .ok (.istore_n 1, 1) := by decide +kernel
theorem dX7_clearText_10 : decode cX7_clearText 10 = .ok (.aload_n 0, 1) := by decide +kernel
theorem dX7_clearText_11 : decode cX7_clearText 11 = .ok (.iconst 0, 1) := by decide +kernel
theorem dX7_clearText_12 : decode cX7_clearText 12 = .ok (.putfield 107, 3) := by decide +kernel
theorem dX7_clearText_15 : decode cX7_clearText 15 = .ok (.iload_n 1, 1) := by decide +kernel
theorem dX7_clearText_16 : decode cX7_clearText 16 = .ok (.ireturn, 1) := by decide +kernel
theorem dX7_isNext_0 : decode cX7_isNext 0 = .ok (.aload_n 0, 1) := by decide +kernel
theorem dX7_isNext_1 : decode cX7_isNext 1 = .ok (.getfield 114, 3) := by decide +kernel
theorem dX7_isNext_4 : decode cX7_isNext 4 = .ok (.aload_n 0, 1) := by decide +kernel
theorem dX7_isNext_5 : decode cX7_isNext 5 = .ok (.getfield 107, 3) := by decide +kernel
theorem dX7_isNext_8 : decode cX7_isNext 8 = .ok (.if_icmp .ge 20, 3) := by decide +kernel
theorem dX7_isNext_11 : decode cX7_isNext 11 = .ok (.aload_n 0, 1) := by decide +kernel
theorem dX7_isNext_12 : decode cX7_isNext 12 = .ok (.getfield 7, 3) := by decide +kernel
theorem dX7_isNext_15 : decode cX7_isNext 15 = .ok (.aload_n 0, 1) := by decide +kernel
theorem dX7_isNext_16 : decode cX7_isNext 16 = .ok (.getfield 114, 3) := by decide +kernel
theorem dX7_isNext_19 : decode cX7_isNext 19 = .ok (.iaload, 1) := by decide +kernel
theorem dX7_isNext_20 : decode cX7_isNext 20 = .ok (.iload_n 1, 1) := by decide +kernel
theorem dX7_isNext_21 : decode cX7_isNext 21 = .ok (.if_icmp .ne 7, 3) := by decide +kernel
theorem dX7_isNext_24 : decode cX7_isNext 24 = .ok (.iconst 1, 1) := by decide +kernel
theorem dX7_isNext_25 : decode cX7_isNext 25 = .ok (.goto 4, 3) := by decide +kernel
theorem dX7_isNext_28 : decode cX7_isNext 28 = .ok (.iconst 0, 1) := by decide +kernel
theorem dX7_isNext_29 : decode cX7_isNext 29 = .ok (.ireturn, 1) := by decide +kernel
theorem dX7_accept_0 : decode cX7_accept 0 = .ok (.aload_n 0, 1) := by decide +kernel
theorem dX7_accept_1 : decode cX7_accept 1 = .ok (.aload_n 0, 1) := by decide +kernel
theorem dX7_accept_2 : decode cX7_accept 2 = .ok (.getfield 117, 3) := by decide +kernel
theorem dX7_accept_5 : decode cX7_accept 5 = .ok (.ifCond .eq 11, 3) := by decide +kernel
theorem dX7_accept_8 : decode cX7_accept 8 = .ok (.iload_n 1, 1) := by decide +kernel
theorem dX7_accept_9 : decode cX7_accept 9 = .ok (.ifCond .eq 7, 3) := by decide +kernel
theorem dX7_accept_12 : decode cX7_accept 12 = .ok (.iconst 1, 1) := by decide +kernel
theorem dX7_accept_13 : decode cX7_accept 13 = .ok (.goto 4, 3) := by decide +kernel
theorem dX7_accept_16 : decode cX7_accept 16 = .ok (.iconst 0, 1) := by decide +kernel
theorem dX7_accept_17 : decode cX7_accept 17 = .ok (.putfield 117, 3) := by decide +kernel
theorem dX7_accept_20 : decode cX7_accept 20 = .ok (.aload_n 0, 1) := by decide +kernel
theorem dX7_accept_21 : decode cX7_accept 21 = .ok (.dup, 1) := by decide +kernel
theorem dX7_accept_22 : decode cX7_accept 22 = .ok (.getfield 114, 3) := by decide +kernel
theorem dX7_accept_25 : decode cX7_accept 25 = .ok (.aload_n 0, 1) := by decide +kernel
theorem dX7_accept_26 : decode cX7_accept 26 = .ok (.getfield 117, 3) := by decide +kernel
theorem dX7_accept_29 : decode cX7_accept 29 = .ok (.ifCond .eq 7, 3) := by decide +kernel
theorem dX7_accept_32 : decode cX7_accept 32 = .ok (.iconst 1, 1) := by decide +kernel
theorem dX7_accept_33 : decode cX7_accept 33 = .ok (.goto 4, 3) := by decide +kernel
theorem dX7_accept_36 : decode cX7_accept 36 = .ok (.iconst 0, 1) := by decide +kernel
theorem dX7_accept_37 : decode cX7_accept 37 = .ok (.iadd, 1) := by decide +kernel
theorem dX7_accept_38 : decode cX7_accept 38 = .ok (.putfield 114, 3) := by decide +kernel
theorem dX7_accept_41 : decode cX7_accept 41 = .ok (.return_, 1) := by decide +kernel
theorem dX7_digit_0 : decode cX7_digit 0 = .ok (.aload_n 0, 1) := by decide +kernel
theorem dX7_digit_1 : decode cX7_digit 1 = .ok (.getfield 114, 3) := by decide +kernel
theorem dX7_digit_4 : decode cX7_digit 4 = .ok (.aload_n 0, 1) := by decide +kernel
theorem dX7_digit_5 : decode cX7_digit 5 = .ok (.getfield 107, 3) := by decide +kernel
theorem dX7_digit_8 : decode cX7_digit 8 = .ok (.if_icmp .ge 18, 3) := by decide +kernel
theorem dX7_digit_11 : decode cX7_digit 11 = .ok (.aload_n 0, 1) := by decide +kernel
theorem dX7_digit_12 : decode cX7_digit 12 = .ok (.getfield 7, 3) := by decide +kernel
theorem dX7_digit_15 : decode cX7_digit 15 = .ok (.aload_n 0, 1) := by decide +kernel
theorem dX7_digit_16 : decode cX7_digit 16 = .ok (.getfield 114, 3) := by decide +kernel
theorem dX7_digit_19 : decode cX7_digit 19 = .ok (.iaload, 1) := by decide +kernel
theorem dX7_digit_20 : decode cX7_digit 20 = .ok (.bipush 48, 2) := by decide +kernel
theorem dX7_digit_22 : decode cX7_digit 22 = .ok (.isub, 1) := by decide +kernel
theorem dX7_digit_23 : decode cX7_digit 23 = .ok (.goto 5, 3) := by decide +kernel
theorem dX7_digit_26 : decode cX7_digit 26 = .ok (.bipush (-99), 2) := by decide +kernel
theorem dX7_digit_28 : decode cX7_digit 28 = .ok (.istore_n 3, 1) := by decide +kernel
theorem dX7_digit_29 : decode cX7_digit 29 = .ok (.aload_n 0, 1) := by decide +kernel
theorem dX7_digit_30 : decode cX7_digit 30 = .ok (.iload_n 3, 1) := by decide +kernel
theorem dX7_digit_31 : decode cX7_digit 31 = .ok (.i2l, 1) := by decide +kernel
theorem dX7_digit_32 : decode cX7_digit 32 = .ok (.lconst 0, 1) := by decide +kernel
theorem dX7_digit_33 : decode cX7_digit 33 = .ok (.ldc2_w 121, 3) := by decide +kernel
theorem dX7_digit_36 : decode cX7_digit 36 = .ok (.invokestatic 103, 3) := by decide +kernel
theorem dX7_digit_39 : decode cX7_digit 39 = .ok (.ifCond .eq 19, 3) := by decide +kernel
theorem dX7_digit_42 : decode cX7_digit 42 = .ok (.iload_n 3, 1) := by decide +kernel
theorem dX7_digit_43 : decode cX7_digit 43 = .ok (.i2l, 1) := by decide +kernel
theorem dX7_digit_44 : decode cX7_digit 44 = .ok (.iload_n 1, 1) := by decide +kernel
theorem dX7_digit_45 : decode cX7_digit 45 = .ok (.i2l, 1) := by decide +kernel
theorem dX7_digit_46 : decode cX7_digit 46 = .ok (.iload_n 2, 1) := by decide +kernel
theorem dX7_digit_47 : decode cX7_digit 47 = .ok (.i2l, 1) := by decide +kernel
theorem dX7_digit_48 : decode cX7_digit 48 = .ok (.invokestatic 103, 3) := by decide +kernel
theorem dX7_digit_51 : decode cX7_digit 51 = .ok (.ifCond .eq 7, 3) := by decide +kernel
theorem dX7_digit_54 : decode cX7_digit 54 = .ok (.iconst 1, 1) := by decide +kernel
theorem dX7_digit_55 : decode cX7_digit 55 = .ok (.goto 4, 3) := by decide +kernel
theorem dX7_digit_58 : decode cX7_digit 58 = .ok (.iconst 0, 1) := by decide +kernel
theorem dX7_digit_59 : decode cX7_digit 59 = .ok (.invokevirtual 123, 3) := by decide +kernel
theorem dX7_digit_62 : decode cX7_digit 62 = .ok (.aload_n 0, 1) := by decide +kernel
theorem dX7_digit_63 : decode cX7_digit 63 = .ok (.getfield 117, 3) := by decide +kernel
theorem dX7_digit_66 : decode cX7_digit 66 = .ok (.ifCond .eq 7, 3) := by decide +kernel
theorem dX7_digit_69 : decode cX7_digit 69 = .ok (.iload_n 3, 1) := by decide +kernel
theorem dX7_digit_70 : decode cX7_digit 70 = .ok (.goto 4, 3) := by decide +kernel
theorem dX7_digit_73 : decode cX7_digit 73 = .ok (.iload_n 1, 1) := by decide +kernel
theorem dX7_digit_74 : decode cX7_digit 74 = .ok (.ireturn, 1) := by decide +kernel
theorem dX7_two_0 : decode cX7_two 0 = .ok (.aload_n 0, 1) := by decide +kernel
theorem dX7_two_1 : decode cX7_two 1 = .ok (.iload_n 1, 1) := by decide +kernel
theorem dX7_two_2 : decode cX7_two 2 = .ok (.bipush 10, 2) := by decide +kernel
theorem dX7_two_4 : decode cX7_two 4 = .ok (.idiv, 1) := by decide +kernel
theorem dX7_two_5 : decode cX7_two 5 = .ok (.iload_n 2, 1) := by decide +kernel
theorem dX7_two_6 : decode cX7_two 6 = .ok (.bipush 10, 2) := by decide +kernel
theorem dX7_two_8 : decode cX7_two 8 = .ok (.idiv, 1) := by decide +kernel
theorem dX7_two_9 : decode cX7_two 9 = .ok (.invokevirtual 127, 3) := by decide +kernel
theorem dX7_two_12 : decode cX7_two 12 = .ok (.istore_n 3, 1) := by decide +kernel
theorem dX7_two_13 : decode cX7_two 13 = .ok (.iload_n 1, 1) := by decide +kernel
theorem dX7_two_14 : decode cX7_two 14 = .ok (.bipush 10, 2) := by decide +kernel
theorem dX7_two_16 : decode cX7_two 16 = .ok (.iload_n 3, 1) := by decide +kernel
theorem dX7_two_17 : decode cX7_two 17 = .ok (.imul, 1) := by decide +kernel
theorem dX7_two_18 : decode cX7_two 18 = .ok (.isub, 1) := by decide +kernel
theorem dX7_two_19 : decode cX7_two 19 = .ok (.istore 4, 2) := by decide +kernel
theorem dX7_two_21 : decode cX7_two 21 = .ok (.iload_n 2, 1) := by decide +kernel
theorem dX7_two_22 : decode cX7_two 22 = .ok (.bipush 10, 2) := by decide +kernel
theorem dX7_two_24 : decode cX7_two 24 = .ok (.iload_n 3, 1) := by decide +kernel
theorem dX7_two_25 : decode cX7_two 25 = .ok (.imul, 1) := by decide +kernel
theorem dX7_two_26 : decode cX7_two 26 = .ok (.isub, 1) := by decide +kernel
theorem dX7_two_27 : decode cX7_two 27 = .ok (.istore 5, 2) := by decide +kernel
theorem dX7_two_29 : decode cX7_two 29 = .ok (.bipush 10, 2) := by decide +kernel
theorem dX7_two_31 : decode cX7_two 31 = .ok (.iload_n 3, 1) := by decide +kernel
theorem dX7_two_32 : decode cX7_two 32 = .ok (.imul, 1) := by decide +kernel
theorem dX7_two_33 : decode cX7_two 33 = .ok (.aload_n 0, 1) := by decide +kernel
theorem dX7_two_34 : decode cX7_two 34 = .ok (.iload 4, 2) := by decide +kernel
theorem dX7_two_36 : decode cX7_two 36 = .ok (.ifCond .ge 7, 3) := by decide +kernel
theorem dX7_two_39 : decode cX7_two 39 = .ok (.iconst 0, 1) := by decide +kernel
theorem dX7_two_40 : decode cX7_two 40 = .ok (.goto 5, 3) := by decide +kernel
theorem dX7_two_43 : decode cX7_two 43 = .ok (.iload 4, 2) := by decide +kernel
theorem dX7_two_45 : decode cX7_two 45 = .ok (.iload 5, 2) := by decide +kernel
theorem dX7_two_47 : decode cX7_two 47 = .ok (.bipush 9, 2) := by decide +kernel
theorem dX7_two_49 : decode cX7_two 49 = .ok (.if_icmp .le 8, 3) := by decide +kernel
theorem dX7_two_52 : decode cX7_two 52 = .ok (.bipush 9, 2) := by decide +kernel
theorem dX7_two_54 : decode cX7_two 54 = .ok (.goto 5, 3) := by decide +kernel
theorem dX7_two_57 : decode cX7_two 57 = .ok (.iload 5, 2) := by decide +kernel
theorem dX7_two_59 : decode cX7_two 59 = .ok (.invokevirtual 127, 3) := by decide +kernel
theorem dX7_two_62 : decode cX7_two 62 = .ok (.iadd, 1) := by decide +kernel
theorem dX7_two_63 : decode cX7_two 63 = .ok (.ireturn, 1) := by decide +kernel
theorem dX7_readRoom_0 : decode cX7_readRoom 0 = .ok (.aload_n 0, 1) := by decide +kernel
theorem dX7_readRoom_1 : decode cX7_readRoom 1 = .ok (.aload_n 0, 1) := by decide +kernel
theorem dX7_readRoom_2 : decode cX7_readRoom 2 = .ok (.getfield 13, 3) := by decide +kernel
theorem dX7_readRoom_5 : decode cX7_readRoom 5 = .ok (.iconst 1, 1) := by decide +kernel
theorem dX7_readRoom_6 : decode cX7_readRoom 6 = .ok (.iaload, 1) := by decide +kernel
theorem dX7_readRoom_7 : decode cX7_readRoom 7 = .ok (.iconst 4, 1) := by decide +kernel
theorem dX7_readRoom_8 : decode cX7_readRoom 8 = .ok (.if_icmp .ge 7, 3) := by decide +kernel
theorem dX7_readRoom_11 : decode cX7_readRoom 11 = .ok (.iconst 1, 1) := by decide +kernel
theorem dX7_readRoom_12 : decode cX7_readRoom 12 = .ok (.goto 4, 3) := by decide +kernel
theorem dX7_readRoom_15 : decode cX7_readRoom 15 = .ok (.iconst 0, 1) := by decide +kernel
theorem dX7_readRoom_16 : decode cX7_readRoom 16 = .ok (.invokevirtual 123, 3) := by decide +kernel
theorem dX7_readRoom_19 : decode cX7_readRoom 19 = .ok (.aload_n 0, 1) := by decide +kernel
theorem dX7_readRoom_20 : decode cX7_readRoom 20 = .ok (.iconst 1, 1) := by decide +kernel
theorem dX7_readRoom_21 : decode cX7_readRoom 21 = .ok (.bipush 9, 2) := by decide +kernel
theorem dX7_readRoom_23 : decode cX7_readRoom 23 = .ok (.invokevirtual 127, 3) := by decide +kernel
theorem dX7_readRoom_26 : decode cX7_readRoom 26 = .ok (.istore_n 1, 1) := by decide +kernel
theorem dX7_readRoom_27 : decode cX7_readRoom 27 = .ok (.aload_n 0, 1) := by decide +kernel
theorem dX7_readRoom_28 : decode cX7_readRoom 28 = .ok (.iconst 1, 1) := by decide +kernel
theorem dX7_readRoom_29 : decode cX7_readRoom 29 = .ok (.bipush 9, 2) := by decide +kernel
theorem dX7_readRoom_31 : decode cX7_readRoom 31 = .ok (.invokevirtual 127, 3) := by decide +kernel
theorem dX7_readRoom_34 : decode cX7_readRoom 34 = .ok (.istore_n 2, 1) := by decide +kernel
theorem dX7_readRoom_35 : decode cX7_readRoom 35 = .ok (.aload_n 0, 1) := by decide +kernel
theorem dX7_readRoom_36 : decode cX7_readRoom 36 = .ok (.iconst 1, 1) := by decide +kernel
theorem dX7_readRoom_37 : decode cX7_readRoom 37 = .ok (.bipush 9, 2) := by decide +kernel
theorem dX7_readRoom_39 : decode cX7_readRoom 39 = .ok (.invokevirtual 127, 3) := by decide +kernel
theorem dX7_readRoom_42 : decode cX7_readRoom 42 = .ok (.istore_n 3, 1) := by decide +kernel
theorem dX7_readRoom_43 : decode cX7_readRoom 43 = .ok (.aload_n 0, 1) := by decide +kernel
theorem dX7_readRoom_44 : decode cX7_readRoom 44 = .ok (.iconst 0, 1) := by decide +kernel
theorem dX7_readRoom_45 : decode cX7_readRoom 45 = .ok (.bipush 30, 2) := by decide +kernel
theorem dX7_readRoom_47 : decode cX7_readRoom 47 = .ok (.invokevirtual 130, 3) := by decide +kernel
theorem dX7_readRoom_50 : decode cX7_readRoom 50 = .ok (.istore 4, 2) := by decide +kernel
theorem dX7_readRoom_52 : decode cX7_readRoom 52 = .ok (.aload_n 0, 1) := by decide +kernel
theorem dX7_readRoom_53 : decode cX7_readRoom 53 = .ok (.getfield 117, 3) := by decide +kernel
theorem dX7_readRoom_56 : decode cX7_readRoom 56 = .ok (.ifCond .eq 15, 3) := by decide +kernel
theorem dX7_readRoom_59 : decode cX7_readRoom 59 = .ok (.aload_n 0, 1) := by decide +kernel
theorem dX7_readRoom_60 : decode cX7_readRoom 60 = .ok (.getfield 13, 3) := by decide +kernel
theorem dX7_readRoom_63 : decode cX7_readRoom 63 = .ok (.iload_n 1, 1) := by decide +kernel
theorem dX7_readRoom_64 : decode cX7_readRoom 64 = .ok (.iload_n 2, 1) := by decide +kernel
theorem dX7_readRoom_65 : decode cX7_readRoom 65 = .ok (.iload_n 3, 1) := by decide +kernel
theorem dX7_readRoom_66 : decode cX7_readRoom 66 = .ok (.iload 4, 2) := by decide +kernel
theorem dX7_readRoom_68 : decode cX7_readRoom 68 = .ok (.invokestatic 133, 3) := by decide +kernel
theorem dX7_readRoom_71 : decode cX7_readRoom 71 = .ok (.return_, 1) := by decide +kernel
theorem dX7_readOutside_0 : decode cX7_readOutside 0 = .ok (.aload_n 0, 1) := by decide +kernel
theorem dX7_readOutside_1 : decode cX7_readOutside 1 = .ok (.aload_n 0, 1) := by decide +kernel
theorem dX7_readOutside_2 : decode cX7_readOutside 2 = .ok (.bipush 111, 2) := by decide +kernel
theorem dX7_readOutside_4 : decode cX7_readOutside 4 = .ok (.invokevirtual 137, 3) := by decide +kernel
theorem dX7_readOutside_7 : decode cX7_readOutside 7 = .ok (.invokevirtual 123, 3) := by decide +kernel
theorem dX7_readOutside_10 : decode cX7_readOutside 10 = .ok (.aload_n 0, 1) := by decide +kernel
theorem dX7_readOutside_11 : decode cX7_readOutside 11 = .ok (.bipush 45, 2) := by decide +kernel
theorem dX7_readOutside_13 : decode cX7_readOutside 13 = .ok (.invokevirtual 137, 3) := by decide +kernel
theorem dX7_readOutside_16 : decode cX7_readOutside 16 = .ok (.istore_n 1, 1) := by decide +kernel
theorem dX7_readOutside_17 : decode cX7_readOutside 17 = .ok (.aload_n 0, 1) := by decide +kernel
theorem dX7_readOutside_18 : decode cX7_readOutside 18 = .ok (.iload_n 1, 1) := by decide +kernel
theorem dX7_readOutside_19 : decode cX7_readOutside 19 = .ok (.ifCond .ne 12, 3) := by decide +kernel
theorem dX7_readOutside_22 : decode cX7_readOutside 22 = .ok (.aload_n 0, 1) := by decide +kernel
theorem dX7_readOutside_23 : decode cX7_readOutside 23 = .ok (.bipush 43, 2) := by decide +kernel
theorem dX7_readOutside_25 : decode cX7_readOutside 25 = .ok (.invokevirtual 137, 3) := by decide +kernel
theorem dX7_readOutside_28 : decode cX7_readOutside 28 = .ok (.ifCond .eq 7, 3) := by decide +kernel
theorem dX7_readOutside_31 : decode cX7_readOutside 31 = .ok (.iconst 1, 1) := by decide +kernel
theorem dX7_readOutside_32 : decode cX7_readOutside 32 = .ok (.goto 4, 3) := by decide +kernel
theorem dX7_readOutside_35 : decode cX7_readOutside 35 = .ok (.iconst 0, 1) := by decide +kernel
theorem dX7_readOutside_36 : decode cX7_readOutside 36 = .ok (.invokevirtual 123, 3) := by decide +kernel
theorem dX7_readOutside_39 : decode cX7_readOutside 39 = .ok (.aload_n 0, 1) := by decide +kernel
theorem dX7_readOutside_40 : decode cX7_readOutside 40 = .ok (.iload_n 1, 1) := by decide +kernel
theorem dX7_readOutside_41 : decode cX7_readOutside 41 = .ok (.ifCond .eq 7, 3) := by decide +kernel
theorem dX7_readOutside_44 : decode cX7_readOutside 44 = .ok (.iconst 1, 1) := by decide +kernel
theorem dX7_readOutside_45 : decode cX7_readOutside 45 = .ok (.goto 4, 3) := by decide +kernel
theorem dX7_readOutside_48 : decode cX7_readOutside 48 = .ok (.iconst 0, 1) := by decide +kernel
theorem dX7_readOutside_49 : decode cX7_readOutside 49 = .ok (.iload_n 1, 1) := by decide +kernel
theorem dX7_readOutside_50 : decode cX7_readOutside 50 = .ok (.ifCond .eq 8, 3) := by decide +kernel
theorem dX7_readOutside_53 : decode cX7_readOutside 53 = .ok (.bipush 20, 2) := by decide +kernel
theorem dX7_readOutside_55 : decode cX7_readOutside 55 = .ok (.goto 5, 3) := by decide +kernel
theorem dX7_readOutside_58 : decode cX7_readOutside 58 = .ok (.bipush 25, 2) := by decide +kernel
theorem dX7_readOutside_60 : decode cX7_readOutside 60 = .ok (.invokevirtual 130, 3) := by decide +kernel
theorem dX7_readOutside_63 : decode cX7_readOutside 63 = .ok (.istore_n 2, 1) := by decide +kernel
theorem dX7_readOutside_64 : decode cX7_readOutside 64 = .ok (.aload_n 0, 1) := by decide +kernel
theorem dX7_readOutside_65 : decode cX7_readOutside 65 = .ok (.getfield 117, 3) := by decide +kernel
theorem dX7_readOutside_68 : decode cX7_readOutside 68 = .ok (.ifCond .eq 19, 3) := by decide +kernel
theorem dX7_readOutside_71 : decode cX7_readOutside 71 = .ok (.aload_n 0, 1) := by decide +kernel
theorem dX7_readOutside_72 : decode cX7_readOutside 72 = .ok (.getfield 13, 3) := by decide +kernel
theorem dX7_readOutside_75 : decode cX7_readOutside 75 = .ok (.iconst 4, 1) := by decide +kernel
theorem dX7_readOutside_76 : decode cX7_readOutside 76 = .ok (.iload_n 1, 1) := by decide +kernel
theorem dX7_readOutside_77 : decode cX7_readOutside 77 = .ok (.ifCond .eq 8, 3) := by decide +kernel
theorem dX7_readOutside_80 : decode cX7_readOutside 80 = .ok (.iload_n 2, 1) := by decide +kernel
theorem dX7_readOutside_81 : decode cX7_readOutside 81 = .ok (.ineg, 1) := by decide +kernel
theorem dX7_readOutside_82 : decode cX7_readOutside 82 = .ok (.goto 4, 3) := by decide +kernel
theorem dX7_readOutside_85 : decode cX7_readOutside 85 = .ok (.iload_n 2, 1) := by decide +kernel
theorem dX7_readOutside_86 : decode cX7_readOutside 86 = .ok (.iastore, 1) := by decide +kernel
theorem dX7_readOutside_87 : decode cX7_readOutside 87 = .ok (.return_, 1) := by decide +kernel
theorem dX7_readBooking_0 : decode cX7_readBooking 0 = .ok (.aload_n 0, 1) := by decide +kernel
theorem dX7_readBooking_1 : decode cX7_readBooking 1 = .ok (.getfield 114, 3) := by decide +kernel
theorem dX7_readBooking_4 : decode cX7_readBooking 4 = .ok (.istore_n 1, 1) := by decide +kernel
theorem dX7_readBooking_5 : decode cX7_readBooking 5 = .ok (.aload_n 0, 1) := by decide +kernel
theorem dX7_readBooking_6 : decode cX7_readBooking 6 = .ok (.aload_n 0, 1) := by decide +kernel
theorem dX7_readBooking_7 : decode cX7_readBooking 7 = .ok (.getfield 13, 3) := by decide +kernel
theorem dX7_readBooking_10 : decode cX7_readBooking 10 = .ok (.iconst 3, 1) := by decide +kernel
theorem dX7_readBooking_11 : decode cX7_readBooking 11 = .ok (.iaload, 1) := by decide +kernel
theorem dX7_readBooking_12 : decode cX7_readBooking 12 = .ok (.bipush 12, 2) := by decide +kernel
theorem dX7_readBooking_14 : decode cX7_readBooking 14 = .ok (.if_icmp .ge 25, 3) := by decide +kernel
theorem dX7_readBooking_17 : decode cX7_readBooking 17 = .ok (.aload_n 0, 1) := by decide +kernel
theorem dX7_readBooking_18 : decode cX7_readBooking 18 = .ok (.getfield 13, 3) := by decide +kernel
theorem dX7_readBooking_21 : decode cX7_readBooking 21 = .ok (.iconst 1, 1) := by decide +kernel
theorem dX7_readBooking_22 : decode cX7_readBooking 22 = .ok (.iaload, 1) := by decide +kernel
theorem dX7_readBooking_23 : decode cX7_readBooking 23 = .ok (.ifCond .le 16, 3) := by decide +kernel
theorem dX7_readBooking_26 : decode cX7_readBooking 26 = .ok (.aload_n 0, 1) := by decide +kernel
theorem dX7_readBooking_27 : decode cX7_readBooking 27 = .ok (.getfield 13, 3) := by decide +kernel
theorem dX7_readBooking_30 : decode cX7_readBooking 30 = .ok (.iconst 2, 1) := by decide +kernel
theorem dX7_readBooking_31 : decode cX7_readBooking 31 = .ok (.iaload, 1) := by decide +kernel
theorem dX7_readBooking_32 : decode cX7_readBooking 32 = .ok (.ifCond .le 7, 3) := by decide +kernel
theorem dX7_readBooking_35 : decode cX7_readBooking 35 = .ok (.iconst 1, 1) := by decide +kernel
theorem dX7_readBooking_36 : decode cX7_readBooking 36 = .ok (.goto 4, 3) := by decide +kernel
theorem dX7_readBooking_39 : decode cX7_readBooking 39 = .ok (.iconst 0, 1) := by decide +kernel
theorem dX7_readBooking_40 : decode cX7_readBooking 40 = .ok (.invokevirtual 123, 3) := by decide +kernel
theorem dX7_readBooking_43 : decode cX7_readBooking 43 = .ok (.aload_n 0, 1) := by decide +kernel
theorem dX7_readBooking_44 : decode cX7_readBooking 44 = .ok (.iconst 0, 1) := by decide +kernel
theorem dX7_readBooking_45 : decode cX7_readBooking 45 = .ok (.aload_n 0, 1) := by decide +kernel
theorem dX7_readBooking_46 : decode cX7_readBooking 46 = .ok (.getfield 13, 3) := by decide +kernel
theorem dX7_readBooking_49 : decode cX7_readBooking 49 = .ok (.iconst 1, 1) := by decide +kernel
theorem dX7_readBooking_50 : decode cX7_readBooking 50 = .ok (.iaload, 1) := by decide +kernel
theorem dX7_readBooking_51 : decode cX7_readBooking 51 = .ok (.iconst 1, 1) := by decide +kernel
theorem dX7_readBooking_52 : decode cX7_readBooking 52 = .ok (.isub, 1) := by decide +kernel
theorem dX7_readBooking_53 : decode cX7_readBooking 53 = .ok (.invokevirtual 127, 3) := by decide +kernel
theorem dX7_readBooking_56 : decode cX7_readBooking 56 = .ok (.istore_n 2, 1) := by decide +kernel
theorem dX7_readBooking_57 : decode cX7_readBooking 57 = .ok (.aload_n 0, 1) := by decide +kernel
theorem dX7_readBooking_58 : decode cX7_readBooking 58 = .ok (.iconst 0, 1) := by decide +kernel
theorem dX7_readBooking_59 : decode cX7_readBooking 59 = .ok (.aload_n 0, 1) := by decide +kernel
theorem dX7_readBooking_60 : decode cX7_readBooking 60 = .ok (.getfield 13, 3) := by decide +kernel
theorem dX7_readBooking_63 : decode cX7_readBooking 63 = .ok (.iconst 2, 1) := by decide +kernel
theorem dX7_readBooking_64 : decode cX7_readBooking 64 = .ok (.iaload, 1) := by decide +kernel
theorem dX7_readBooking_65 : decode cX7_readBooking 65 = .ok (.iconst 1, 1) := by decide +kernel
theorem dX7_readBooking_66 : decode cX7_readBooking 66 = .ok (.isub, 1) := by decide +kernel
theorem dX7_readBooking_67 : decode cX7_readBooking 67 = .ok (.invokevirtual 127, 3) := by decide +kernel
theorem dX7_readBooking_70 : decode cX7_readBooking 70 = .ok (.istore_n 3, 1) := by decide +kernel
theorem dX7_readBooking_71 : decode cX7_readBooking 71 = .ok (.aload_n 0, 1) := by decide +kernel
theorem dX7_readBooking_72 : decode cX7_readBooking 72 = .ok (.iconst 0, 1) := by decide +kernel
theorem dX7_readBooking_73 : decode cX7_readBooking 73 = .ok (.iconst 1, 1) := by decide +kernel
theorem dX7_readBooking_74 : decode cX7_readBooking 74 = .ok (.invokevirtual 127, 3) := by decide +kernel
theorem dX7_readBooking_77 : decode cX7_readBooking 77 = .ok (.istore 4, 2) := by decide +kernel
theorem dX7_readBooking_79 : decode cX7_readBooking 79 = .ok (.bipush 100, 2) := by decide +kernel
theorem dX7_readBooking_81 : decode cX7_readBooking 81 = .ok (.iload 4, 2) := by decide +kernel
theorem dX7_readBooking_83 : decode cX7_readBooking 83 = .ok (.imul, 1) := by decide +kernel
theorem dX7_readBooking_84 : decode cX7_readBooking 84 = .ok (.aload_n 0, 1) := by decide +kernel
theorem dX7_readBooking_85 : decode cX7_readBooking 85 = .ok (.iconst 0, 1) := by decide +kernel
theorem dX7_readBooking_86 : decode cX7_readBooking 86 = .ok (.bipush 99, 2) := by decide +kernel
theorem dX7_readBooking_88 : decode cX7_readBooking 88 = .ok (.invokevirtual 130, 3) := by decide +kernel
theorem dX7_readBooking_91 : decode cX7_readBooking 91 = .ok (.iadd, 1) := by decide +kernel
theorem dX7_readBooking_92 : decode cX7_readBooking 92 = .ok (.istore 5, 2) := by decide +kernel
theorem dX7_readBooking_94 : decode cX7_readBooking 94 = .ok (.aload_n 0, 1) := by decide +kernel
theorem dX7_readBooking_95 : decode cX7_readBooking 95 = .ok (.iconst 1, 1) := by decide +kernel
theorem dX7_readBooking_96 : decode cX7_readBooking 96 = .ok (.bipush 12, 2) := by decide +kernel
theorem dX7_readBooking_98 : decode cX7_readBooking 98 = .ok (.invokevirtual 130, 3) := by decide +kernel
theorem dX7_readBooking_101 : decode cX7_readBooking 101 = .ok (.istore 6, 2) := by decide +kernel
theorem dX7_readBooking_103 : decode cX7_readBooking 103 = .ok (.aload_n 0, 1) := by decide +kernel
theorem dX7_readBooking_104 : decode cX7_readBooking 104 = .ok (.bipush 12, 2) := by decide +kernel
theorem dX7_readBooking_106 : decode cX7_readBooking 106 = .ok (.bipush 25, 2) := by decide +kernel
theorem dX7_readBooking_108 : decode cX7_readBooking 108 = .ok (.invokevirtual 130, 3) := by decide +kernel
theorem dX7_readBooking_111 : decode cX7_readBooking 111 = .ok (.istore 7, 2) := by decide +kernel
theorem dX7_readBooking_113 : decode cX7_readBooking 113 = .ok (.aload_n 0, 1) := by decide +kernel
theorem dX7_readBooking_114 : decode cX7_readBooking 114 = .ok (.getfield 117, 3) := by decide +kernel
theorem dX7_readBooking_117 : decode cX7_readBooking 117 = .ok (.ifCond .eq 38, 3) := by decide +kernel
theorem dX7_readBooking_120 : decode cX7_readBooking 120 = .ok (.aload_n 0, 1) := by decide +kernel
theorem dX7_readBooking_121 : decode cX7_readBooking 121 = .ok (.aload_n 0, 1) := by decide +kernel
theorem dX7_readBooking_122 : decode cX7_readBooking 122 = .ok (.getfield 13, 3) := by decide +kernel
theorem dX7_readBooking_125 : decode cX7_readBooking 125 = .ok (.iload_n 2, 1) := by decide +kernel
theorem dX7_readBooking_126 : decode cX7_readBooking 126 = .ok (.iload 5, 2) := by decide +kernel
theorem dX7_readBooking_128 : decode cX7_readBooking 128 = .ok (.iload 6, 2) := by decide +kernel
theorem dX7_readBooking_130 : decode cX7_readBooking 130 = .ok (.invokestatic 97, 3) := by decide +kernel
theorem dX7_readBooking_133 : decode cX7_readBooking 133 = .ok (.putfield 117, 3) := by decide +kernel
theorem dX7_readBooking_136 : decode cX7_readBooking 136 = .ok (.aload_n 0, 1) := by decide +kernel
theorem dX7_readBooking_137 : decode cX7_readBooking 137 = .ok (.aload_n 0, 1) := by decide +kernel
theorem dX7_readBooking_138 : decode cX7_readBooking 138 = .ok (.getfield 117, 3) := by decide +kernel
theorem dX7_readBooking_141 : decode cX7_readBooking 141 = .ok (.ifCond .eq 10, 3) := by decide +kernel
theorem dX7_readBooking_144 : decode cX7_readBooking 144 = .ok (.aload_n 0, 1) := by decide +kernel
theorem dX7_readBooking_145 : decode cX7_readBooking 145 = .ok (.getfield 114, 3) := by decide +kernel
theorem dX7_readBooking_148 : decode cX7_readBooking 148 = .ok (.goto 4, 3) := by decide +kernel
theorem dX7_readBooking_151 : decode cX7_readBooking 151 = .ok (.iload_n 1, 1) := by decide +kernel
theorem dX7_readBooking_152 : decode cX7_readBooking 152 = .ok (.putfield 114, 3) := by decide +kernel
theorem dX7_readBooking_155 : decode cX7_readBooking 155 = .ok (.aload_n 0, 1) := by decide +kernel
theorem dX7_readBooking_156 : decode cX7_readBooking 156 = .ok (.getfield 117, 3) := by decide +kernel
theorem dX7_readBooking_159 : decode cX7_readBooking 159 = .ok (.ifCond .eq 18, 3) := by decide +kernel
theorem dX7_readBooking_162 : decode cX7_readBooking 162 = .ok (.aload_n 0, 1) := by decide +kernel
theorem dX7_readBooking_163 : decode cX7_readBooking 163 = .ok (.getfield 13, 3) := by decide +kernel
theorem dX7_readBooking_166 : decode cX7_readBooking 166 = .ok (.iload_n 2, 1) := by decide +kernel
theorem dX7_readBooking_167 : decode cX7_readBooking 167 = .ok (.iload_n 3, 1) := by decide +kernel
theorem dX7_readBooking_168 : decode cX7_readBooking 168 = .ok (.iload 5, 2) := by decide +kernel
theorem dX7_readBooking_170 : decode cX7_readBooking 170 = .ok (.iload 6, 2) := by decide +kernel
theorem dX7_readBooking_172 : decode cX7_readBooking 172 = .ok (.iload 7, 2) := by decide +kernel
theorem dX7_readBooking_174 : decode cX7_readBooking 174 = .ok (.invokestatic 140, 3) := by decide +kernel
theorem dX7_readBooking_177 : decode cX7_readBooking 177 = .ok (.return_, 1) := by decide +kernel
theorem dX7_readText_0 : decode cX7_readText 0 = .ok (.aload_n 0, 1) := by decide +kernel
theorem dX7_readText_1 : decode cX7_readText 1 = .ok (.iconst 0, 1) := by decide +kernel
theorem dX7_readText_2 : decode cX7_readText 2 = .ok (.putfield 114, 3) := by decide +kernel
theorem dX7_readText_5 : decode cX7_readText 5 = .ok (.aload_n 0, 1) := by decide +kernel
theorem dX7_readText_6 : decode cX7_readText 6 = .ok (.iconst 1, 1) := by decide +kernel
theorem dX7_readText_7 : decode cX7_readText 7 = .ok (.putfield 117, 3) := by decide +kernel
theorem dX7_readText_10 : decode cX7_readText 10 = .ok (.aload_n 0, 1) := by decide +kernel
theorem dX7_readText_11 : decode cX7_readText 11 = .ok (.getfield 13, 3) := by decide +kernel
theorem dX7_readText_14 : decode cX7_readText 14 = .ok (.invokestatic 32, 3) := by decide +kernel
theorem dX7_readText_17 : decode cX7_readText 17 = .ok (.aload_n 0, 1) := by decide +kernel
theorem dX7_readText_18 : decode cX7_readText 18 = .ok (.aload_n 0, 1) := by decide +kernel
theorem dX7_readText_19 : decode cX7_readText 19 = .ok (.bipush 72, 2) := by decide +kernel
theorem dX7_readText_21 : decode cX7_readText 21 = .ok (.invokevirtual 137, 3) := by decide +kernel
theorem dX7_readText_24 : decode cX7_readText 24 = .ok (.invokevirtual 123, 3) := by decide +kernel
theorem dX7_readText_27 : decode cX7_readText 27 = .ok (.aload_n 0, 1) := by decide +kernel
theorem dX7_readText_28 : decode cX7_readText 28 = .ok (.getfield 117, 3) := by decide +kernel
theorem dX7_readText_31 : decode cX7_readText 31 = .ok (.ifCond .eq 106, 3) := by decide +kernel
theorem dX7_readText_34 : decode cX7_readText 34 = .ok (.aload_n 0, 1) := by decide +kernel
theorem dX7_readText_35 : decode cX7_readText 35 = .ok (.getfield 114, 3) := by decide +kernel
theorem dX7_readText_38 : decode cX7_readText 38 = .ok (.aload_n 0, 1) := by decide +kernel
theorem dX7_readText_39 : decode cX7_readText 39 = .ok (.getfield 107, 3) := by decide +kernel
theorem dX7_readText_42 : decode cX7_readText 42 = .ok (.if_icmp .ge 95, 3) := by decide +kernel
theorem dX7_readText_45 : decode cX7_readText 45 = .ok (.aload_n 0, 1) := by decide +kernel
theorem dX7_readText_46 : decode cX7_readText 46 = .ok (.bipush 114, 2) := by decide +kernel
theorem dX7_readText_48 : decode cX7_readText 48 = .ok (.invokevirtual 137, 3) := by decide +kernel
theorem dX7_readText_51 : decode cX7_readText 51 = .ok (.ifCond .eq 10, 3) := by decide +kernel
theorem dX7_readText_54 : decode cX7_readText 54 = .ok (.aload_n 0, 1) := by decide +kernel
theorem dX7_readText_55 : decode cX7_readText 55 = .ok (.invokevirtual 144, 3) := by decide +kernel
theorem dX7_readText_58 : decode cX7_readText 58 = .ok (.goto (-31), 3) := by decide +kernel
theorem dX7_readText_61 : decode cX7_readText 61 = .ok (.aload_n 0, 1) := by decide +kernel
theorem dX7_readText_62 : decode cX7_readText 62 = .ok (.bipush 98, 2) := by decide +kernel
theorem dX7_readText_64 : decode cX7_readText 64 = .ok (.invokevirtual 137, 3) := by decide +kernel
theorem dX7_readText_67 : decode cX7_readText 67 = .ok (.ifCond .eq 10, 3) := by decide +kernel
theorem dX7_readText_70 : decode cX7_readText 70 = .ok (.aload_n 0, 1) := by decide +kernel
theorem dX7_readText_71 : decode cX7_readText 71 = .ok (.invokevirtual 147, 3) := by decide +kernel
theorem dX7_readText_74 : decode cX7_readText 74 = .ok (.goto (-47), 3) := by decide +kernel
theorem dX7_readText_77 : decode cX7_readText 77 = .ok (.aload_n 0, 1) := by decide +kernel
theorem dX7_readText_78 : decode cX7_readText 78 = .ok (.bipush 103, 2) := by decide +kernel
theorem dX7_readText_80 : decode cX7_readText 80 = .ok (.invokevirtual 137, 3) := by decide +kernel
theorem dX7_readText_83 : decode cX7_readText 83 = .ok (.ifCond .eq 47, 3) := by decide +kernel
theorem dX7_readText_86 : decode cX7_readText 86 = .ok (.aload_n 0, 1) := by decide +kernel
theorem dX7_readText_87 : decode cX7_readText 87 = .ok (.aload_n 0, 1) := by decide +kernel
theorem dX7_readText_88 : decode cX7_readText 88 = .ok (.getfield 13, 3) := by decide +kernel
theorem dX7_readText_91 : decode cX7_readText 91 = .ok (.iconst 2, 1) := by decide +kernel
theorem dX7_readText_92 : decode cX7_readText 92 = .ok (.iaload, 1) := by decide +kernel
theorem dX7_readText_93 : decode cX7_readText 93 = .ok (.bipush 6, 2) := by decide +kernel
theorem dX7_readText_95 : decode cX7_readText 95 = .ok (.if_icmp .ge 7, 3) := by decide +kernel
theorem dX7_readText_98 : decode cX7_readText 98 = .ok (.iconst 1, 1) := by decide +kernel
theorem dX7_readText_99 : decode cX7_readText 99 = .ok (.goto 4, 3) := by decide +kernel
theorem dX7_readText_102 : decode cX7_readText 102 = .ok (.iconst 0, 1) := by decide +kernel
theorem dX7_readText_103 : decode cX7_readText 103 = .ok (.invokevirtual 123, 3) := by decide +kernel
theorem dX7_readText_106 : decode cX7_readText 106 = .ok (.aload_n 0, 1) := by decide +kernel
theorem dX7_readText_107 : decode cX7_readText 107 = .ok (.getfield 13, 3) := by decide +kernel
theorem dX7_readText_110 : decode cX7_readText 110 = .ok (.iconst 2, 1) := by decide +kernel
theorem dX7_readText_111 : decode cX7_readText 111 = .ok (.dup2, 1) := by decide +kernel
theorem dX7_readText_112 : decode cX7_readText 112 = .ok (.iaload, 1) := by decide +kernel
theorem dX7_readText_113 : decode cX7_readText 113 = .ok (.aload_n 0, 1) := by decide +kernel
theorem dX7_readText_114 : decode cX7_readText 114 = .ok (.getfield 117, 3) := by decide +kernel
theorem dX7_readText_117 : decode cX7_readText 117 = .ok (.ifCond .eq 7, 3) := by decide +kernel
theorem dX7_readText_120 : decode cX7_readText 120 = .ok (.iconst 1, 1) := by decide +kernel
theorem dX7_readText_121 : decode cX7_readText 121 = .ok (.goto 4, 3) := by decide +kernel
theorem dX7_readText_124 : decode cX7_readText 124 = .ok (.iconst 0, 1) := by decide +kernel
theorem dX7_readText_125 : decode cX7_readText 125 = .ok (.iadd, 1) := by decide +kernel
theorem dX7_readText_126 : decode cX7_readText 126 = .ok (.iastore, 1) := by decide +kernel
theorem dX7_readText_127 : decode cX7_readText 127 = .ok (.goto (-100), 3) := by decide +kernel
theorem dX7_readText_130 : decode cX7_readText 130 = .ok (.aload_n 0, 1) := by decide +kernel
theorem dX7_readText_131 : decode cX7_readText 131 = .ok (.invokevirtual 150, 3) := by decide +kernel
theorem dX7_readText_134 : decode cX7_readText 134 = .ok (.goto (-107), 3) := by decide +kernel
theorem dX7_readText_137 : decode cX7_readText 137 = .ok (.aload_n 0, 1) := by decide +kernel
theorem dX7_readText_138 : decode cX7_readText 138 = .ok (.getfield 117, 3) := by decide +kernel
theorem dX7_readText_141 : decode cX7_readText 141 = .ok (.ifCond .eq 8, 3) := by decide +kernel
theorem dX7_readText_144 : decode cX7_readText 144 = .ok (.bipush (-99), 2) := by decide +kernel
theorem dX7_readText_146 : decode cX7_readText 146 = .ok (.goto 7, 3) := by decide +kernel
theorem dX7_readText_149 : decode cX7_readText 149 = .ok (.aload_n 0, 1) := by decide +kernel
theorem dX7_readText_150 : decode cX7_readText 150 = .ok (.getfield 114, 3) := by decide +kernel
theorem dX7_readText_153 : decode cX7_readText 153 = .ok (.ireturn, 1) := by decide +kernel
theorem dX7_errorPosition_0 : decode cX7_errorPosition 0 = .ok (.aload_n 0, 1) := by decide +kernel
theorem dX7_errorPosition_1 : decode cX7_errorPosition 1 = .ok (.iconst 0, 1) := by decide +kernel
theorem dX7_errorPosition_2 : decode cX7_errorPosition 2 = .ok (.putfield 36, 3) := by decide +kernel
theorem dX7_errorPosition_5 : decode cX7_errorPosition 5 = .ok (.aload_n 0, 1) := by decide +kernel
theorem dX7_errorPosition_6 : decode cX7_errorPosition 6 = .ok (.invokevirtual 153, 3) := by decide +kernel
theorem dX7_errorPosition_9 : decode cX7_errorPosition 9 = .ok (.ireturn, 1) := by decide +kernel
theorem dX7_load_0 : decode cX7_load 0 = .ok (.aload_n 0, 1) := by decide +kernel
theorem dX7_load_1 : decode cX7_load 1 = .ok (.aload_n 0, 1) := by decide +kernel
theorem dX7_load_2 : decode cX7_load 2 = .ok (.invokevirtual 153, 3) := by decide +kernel
theorem dX7_load_5 : decode cX7_load 5 = .ok (.bipush (-99), 2) := by decide +kernel
theorem dX7_load_7 : decode cX7_load 7 = .ok (.if_icmp .ne 7, 3) := by decide +kernel
theorem dX7_load_10 : decode cX7_load 10 = .ok (.iconst 0, 1) := by decide +kernel
theorem dX7_load_11 : decode cX7_load 11 = .ok (.goto 4, 3) := by decide +kernel
theorem dX7_load_14 : decode cX7_load 14 = .ok (.iconst 1, 1) := by decide +kernel
theorem dX7_load_15 : decode cX7_load 15 = .ok (.invokevirtual 110, 3) := by decide +kernel
theorem dX7_load_18 : decode cX7_load 18 = .ok (.ifCond .eq 5, 3) := by decide +kernel
theorem dX7_load_21 : decode cX7_load 21 = .ok (.iconst 0, 1) := by decide +kernel
theorem dX7_load_22 : decode cX7_load 22 = .ok (.ireturn, 1) := by decide +kernel
theorem dX7_load_23 : decode cX7_load 23 = .ok (.aload_n 0, 1) := by decide +kernel
theorem dX7_load_24 : decode cX7_load 24 = .ok (.getfield 13, 3) := by decide +kernel
theorem dX7_load_27 : decode cX7_load 27 = .ok (.iconst 0, 1) := by decide +kernel
theorem dX7_load_28 : decode cX7_load 28 = .ok (.aload_n 0, 1) := by decide +kernel
theorem dX7_load_29 : decode cX7_load 29 = .ok (.getfield 16, 3) := by decide +kernel
theorem dX7_load_32 : decode cX7_load 32 = .ok (.iconst 0, 1) := by decide +kernel
theorem dX7_load_33 : decode cX7_load 33 = .ok (.sipush 151, 3) := by decide +kernel
theorem dX7_load_36 : decode cX7_load 36 = .ok (.invokestatic 45, 3) := by decide +kernel
theorem dX7_load_39 : decode cX7_load 39 = .ok (.aload_n 0, 1) := by decide +kernel
theorem dX7_load_40 : decode cX7_load 40 = .ok (.iconst 0, 1) := by decide +kernel
theorem dX7_load_41 : decode cX7_load 41 = .ok (.putfield 42, 3) := by decide +kernel
theorem dX7_load_44 : decode cX7_load 44 = .ok (.aload_n 0, 1) := by decide +kernel
theorem dX7_load_45 : decode cX7_load 45 = .ok (.getfield 28, 3) := by decide +kernel
theorem dX7_load_48 : decode cX7_load 48 = .ok (.iconst 0, 1) := by decide +kernel
theorem dX7_load_49 : decode cX7_load 49 = .ok (.iconst 0, 1) := by decide +kernel
theorem dX7_load_50 : decode cX7_load 50 = .ok (.bastore, 1) := by decide +kernel
theorem dX7_load_51 : decode cX7_load 51 = .ok (.aload_n 0, 1) := by decide +kernel
theorem dX7_load_52 : decode cX7_load 52 = .ok (.getfield 28, 3) := by decide +kernel
theorem dX7_load_55 : decode cX7_load 55 = .ok (.iconst 1, 1) := by decide +kernel
theorem dX7_load_56 : decode cX7_load 56 = .ok (.iconst 0, 1) := by decide +kernel
theorem dX7_load_57 : decode cX7_load 57 = .ok (.bastore, 1) := by decide +kernel
theorem dX7_load_58 : decode cX7_load 58 = .ok (.aload_n 0, 1) := by decide +kernel
theorem dX7_load_59 : decode cX7_load 59 = .ok (.getfield 16, 3) := by decide +kernel
theorem dX7_load_62 : decode cX7_load 62 = .ok (.iconst 1, 1) := by decide +kernel
theorem dX7_load_63 : decode cX7_load 63 = .ok (.iaload, 1) := by decide +kernel
theorem dX7_load_64 : decode cX7_load 64 = .ok (.ireturn, 1) := by decide +kernel
theorem dX7_about_0 : decode cX7_about 0 = .ok (.aload_n 0, 1) := by decide +kernel
theorem dX7_about_1 : decode cX7_about 1 = .ok (.iload_n 1, 1) := by decide +kernel
theorem dX7_about_2 : decode cX7_about 2 = .ok (.i2l, 1) := by decide +kernel
theorem dX7_about_3 : decode cX7_about 3 = .ok (.lconst 0, 1) := by decide +kernel
theorem dX7_about_4 : decode cX7_about 4 = .ok (.ldc2_w 121, 3) := by decide +kernel
theorem dX7_about_7 : decode cX7_about 7 = .ok (.invokestatic 103, 3) := by decide +kernel
theorem dX7_about_10 : decode cX7_about 10 = .ok (.ifCond .eq 7, 3) := by decide +kernel
theorem dX7_about_13 : decode cX7_about 13 = .ok (.iconst 0, 1) := by decide +kernel
theorem dX7_about_14 : decode cX7_about 14 = .ok (.goto 4, 3) := by decide +kernel
theorem dX7_about_17 : decode cX7_about 17 = .ok (.iconst 1, 1) := by decide +kernel
theorem dX7_about_18 : decode cX7_about 18 = .ok (.invokevirtual 110, 3) := by decide +kernel
theorem dX7_about_21 : decode cX7_about 21 = .ok (.ifCond .eq 5, 3) := by decide +kernel
theorem dX7_about_24 : decode cX7_about 24 = .ok (.iconst 0, 1) := by decide +kernel
theorem dX7_about_25 : decode cX7_about 25 = .ok (.ireturn, 1) := by decide +kernel
theorem dX7_about_26 : decode cX7_about 26 = .ok (.iload_n 1, 1) := by decide +kernel
theorem dX7_about_27 : decode cX7_about 27 = .ok (.bipush 8, 2) := by decide +kernel
theorem dX7_about_29 : decode cX7_about 29 = .ok (.if_icmp .ge 12, 3) := by decide +kernel
theorem dX7_about_32 : decode cX7_about 32 = .ok (.aload_n 0, 1) := by decide +kernel
theorem dX7_about_33 : decode cX7_about 33 = .ok (.getfield 16, 3) := by decide +kernel
theorem dX7_about_36 : decode cX7_about 36 = .ok (.iload_n 1, 1) := by decide +kernel
theorem dX7_about_37 : decode cX7_about 37 = .ok (.iaload, 1) := by decide +kernel
theorem dX7_about_38 : decode cX7_about 38 = .ok (.goto 41, 3) := by decide +kernel
theorem dX7_about_41 : decode cX7_about 41 = .ok (.iload_n 1, 1) := by decide +kernel
theorem dX7_about_42 : decode cX7_about 42 = .ok (.bipush 8, 2) := by decide +kernel
theorem dX7_about_44 : decode cX7_about 44 = .ok (.if_icmp .ne 28, 3) := by decide +kernel
theorem dX7_about_47 : decode cX7_about 47 = .ok (.aload_n 0, 1) := by decide +kernel
theorem dX7_about_48 : decode cX7_about 48 = .ok (.getfield 16, 3) := by decide +kernel
theorem dX7_about_51 : decode cX7_about 51 = .ok (.iconst 5, 1) := by decide +kernel
theorem dX7_about_52 : decode cX7_about 52 = .ok (.iaload, 1) := by decide +kernel
theorem dX7_about_53 : decode cX7_about 53 = .ok (.aload_n 0, 1) := by decide +kernel
theorem dX7_about_54 : decode cX7_about 54 = .ok (.getfield 16, 3) := by decide +kernel
theorem dX7_about_57 : decode cX7_about 57 = .ok (.bipush 6, 2) := by decide +kernel
theorem dX7_about_59 : decode cX7_about 59 = .ok (.iaload, 1) := by decide +kernel
theorem dX7_about_60 : decode cX7_about 60 = .ok (.isub, 1) := by decide +kernel
theorem dX7_about_61 : decode cX7_about 61 = .ok (.aload_n 0, 1) := by decide +kernel
theorem dX7_about_62 : decode cX7_about 62 = .ok (.getfield 16, 3) := by decide +kernel
theorem dX7_about_65 : decode cX7_about 65 = .ok (.bipush 7, 2) := by decide +kernel
theorem dX7_about_67 : decode cX7_about 67 = .ok (.iaload, 1) := by decide +kernel
theorem dX7_about_68 : decode cX7_about 68 = .ok (.isub, 1) := by decide +kernel
theorem dX7_about_69 : decode cX7_about 69 = .ok (.goto 10, 3) := by decide +kernel
theorem dX7_about_72 : decode cX7_about 72 = .ok (.aload_n 0, 1) := by decide +kernel
theorem dX7_about_73 : decode cX7_about 73 = .ok (.getfield 16, 3) := by decide +kernel
theorem dX7_about_76 : decode cX7_about 76 = .ok (.bipush 8, 2) := by decide +kernel
theorem dX7_about_78 : decode cX7_about 78 = .ok (.iaload, 1) := by decide +kernel
theorem dX7_about_79 : decode cX7_about 79 = .ok (.ireturn, 1) := by decide +kernel
theorem dX7_isRoom_0 : decode cX7_isRoom 0 = .ok (.iload_n 1, 1) := by decide +kernel
theorem dX7_isRoom_1 : decode cX7_isRoom 1 = .ok (.i2l, 1) := by decide +kernel
theorem dX7_isRoom_2 : decode cX7_isRoom 2 = .ok (.lconst 0, 1) := by decide +kernel
theorem dX7_isRoom_3 : decode cX7_isRoom 3 = .ok (.aload_n 0, 1) := by decide +kernel
theorem dX7_isRoom_4 : decode cX7_isRoom 4 = .ok (.getfield 16, 3) := by decide +kernel
theorem dX7_isRoom_7 : decode cX7_isRoom 7 = .ok (.iconst 1, 1) := by decide +kernel
theorem dX7_isRoom_8 : decode cX7_isRoom 8 = .ok (.iaload, 1) := by decide +kernel
theorem dX7_isRoom_9 : decode cX7_isRoom 9 = .ok (.iconst 1, 1) := by decide +kernel
theorem dX7_isRoom_10 : decode cX7_isRoom 10 = .ok (.isub, 1) := by decide +kernel
theorem dX7_isRoom_11 : decode cX7_isRoom 11 = .ok (.i2l, 1) := by decide +kernel
theorem dX7_isRoom_12 : decode cX7_isRoom 12 = .ok (.invokestatic 103, 3) := by decide +kernel
theorem dX7_isRoom_15 : decode cX7_isRoom 15 = .ok (.ireturn, 1) := by decide +kernel
theorem dX7_isGroup_0 : decode cX7_isGroup 0 = .ok (.iload_n 1, 1) := by decide +kernel
theorem dX7_isGroup_1 : decode cX7_isGroup 1 = .ok (.i2l, 1) := by decide +kernel
theorem dX7_isGroup_2 : decode cX7_isGroup 2 = .ok (.lconst 0, 1) := by decide +kernel
theorem dX7_isGroup_3 : decode cX7_isGroup 3 = .ok (.aload_n 0, 1) := by decide +kernel
theorem dX7_isGroup_4 : decode cX7_isGroup 4 = .ok (.getfield 16, 3) := by decide +kernel
theorem dX7_isGroup_7 : decode cX7_isGroup 7 = .ok (.iconst 2, 1) := by decide +kernel
theorem dX7_isGroup_8 : decode cX7_isGroup 8 = .ok (.iaload, 1) := by decide +kernel
theorem dX7_isGroup_9 : decode cX7_isGroup 9 = .ok (.iconst 1, 1) := by decide +kernel
theorem dX7_isGroup_10 : decode cX7_isGroup 10 = .ok (.isub, 1) := by decide +kernel
theorem dX7_isGroup_11 : decode cX7_isGroup 11 = .ok (.i2l, 1) := by decide +kernel
theorem dX7_isGroup_12 : decode cX7_isGroup 12 = .ok (.invokestatic 103, 3) := by decide +kernel
theorem dX7_isGroup_15 : decode cX7_isGroup 15 = .ok (.ireturn, 1) := by decide +kernel
theorem dX7_isBooking_0 : decode cX7_isBooking 0 = .ok (.iload_n 1, 1) := by decide +kernel
theorem dX7_isBooking_1 : decode cX7_isBooking 1 = .ok (.i2l, 1) := by decide +kernel
theorem dX7_isBooking_2 : decode cX7_isBooking 2 = .ok (.lconst 0, 1) := by decide +kernel
theorem dX7_isBooking_3 : decode cX7_isBooking 3 = .ok (.aload_n 0, 1) := by decide +kernel
theorem dX7_isBooking_4 : decode cX7_isBooking 4 = .ok (.getfield 16, 3) := by decide +kernel
theorem dX7_isBooking_7 : decode cX7_isBooking 7 = .ok (.iconst 3, 1) := by decide +kernel
theorem dX7_isBooking_8 : decode cX7_isBooking 8 = .ok (.iaload, 1) := by decide +kernel
theorem dX7_isBooking_9 : decode cX7_isBooking 9 = .ok (.iconst 1, 1) := by decide +kernel
theorem dX7_isBooking_10 : decode cX7_isBooking 10 = .ok (.isub, 1) := by decide +kernel
theorem dX7_isBooking_11 : decode cX7_isBooking 11 = .ok (.i2l, 1) := by decide +kernel
theorem dX7_isBooking_12 : decode cX7_isBooking 12 = .ok (.invokestatic 103, 3) := by decide +kernel
theorem dX7_isBooking_15 : decode cX7_isBooking 15 = .ok (.ireturn, 1) := by decide +kernel
theorem dX7_room_0 : decode cX7_room 0 = .ok (.aload_n 0, 1) := by decide +kernel
theorem dX7_room_1 : decode cX7_room 1 = .ok (.aload_n 0, 1) := by decide +kernel
theorem dX7_room_2 : decode cX7_room 2 = .ok (.iload_n 1, 1) := by decide +kernel
theorem dX7_room_3 : decode cX7_room 3 = .ok (.invokevirtual 157, 3) := by decide +kernel
theorem dX7_room_6 : decode cX7_room 6 = .ok (.ifCond .ne 7, 3) := by decide +kernel
theorem dX7_room_9 : decode cX7_room 9 = .ok (.iconst 1, 1) := by decide +kernel
theorem dX7_room_10 : decode cX7_room 10 = .ok (.goto 20, 3) := by decide +kernel
theorem dX7_room_13 : decode cX7_room 13 = .ok (.iload_n 2, 1) := by decide +kernel
theorem dX7_room_14 : decode cX7_room 14 = .ok (.i2l, 1) := by decide +kernel
theorem dX7_room_15 : decode cX7_room 15 = .ok (.lconst 0, 1) := by decide +kernel
theorem dX7_room_16 : decode cX7_room 16 = .ok (.ldc2_w 160, 3) := by decide +kernel
theorem dX7_room_19 : decode cX7_room 19 = .ok (.invokestatic 103, 3) := by decide +kernel
theorem dX7_room_22 : decode cX7_room 22 = .ok (.ifCond .eq 7, 3) := by decide +kernel
theorem dX7_room_25 : decode cX7_room 25 = .ok (.iconst 0, 1) := by decide +kernel
theorem dX7_room_26 : decode cX7_room 26 = .ok (.goto 4, 3) := by decide +kernel
theorem dX7_room_29 : decode cX7_room 29 = .ok (.iconst 2, 1) := by decide +kernel
theorem dX7_room_30 : decode cX7_room 30 = .ok (.invokevirtual 110, 3) := by decide +kernel
theorem dX7_room_33 : decode cX7_room 33 = .ok (.ifCond .eq 5, 3) := by decide +kernel
theorem dX7_room_36 : decode cX7_room 36 = .ok (.iconst 0, 1) := by decide +kernel
theorem dX7_room_37 : decode cX7_room 37 = .ok (.ireturn, 1) := by decide +kernel
theorem dX7_room_38 : decode cX7_room 38 = .ok (.iload_n 2, 1) := by decide +kernel
theorem dX7_room_39 : decode cX7_room 39 = .ok (.iconst 4, 1) := by decide +kernel
theorem dX7_room_40 : decode cX7_room 40 = .ok (.if_icmp .ge 16, 3) := by decide +kernel
theorem dX7_room_43 : decode cX7_room 43 = .ok (.aload_n 0, 1) := by decide +kernel
theorem dX7_room_44 : decode cX7_room 44 = .ok (.getfield 16, 3) := by decide +kernel
theorem dX7_room_47 : decode cX7_room 47 = .ok (.iload_n 1, 1) := by decide +kernel
theorem dX7_room_48 : decode cX7_room 48 = .ok (.iload_n 2, 1) := by decide +kernel
theorem dX7_room_49 : decode cX7_room 49 = .ok (.invokestatic 61, 3) := by decide +kernel
theorem dX7_room_52 : decode cX7_room 52 = .ok (.iaload, 1) := by decide +kernel
theorem dX7_room_53 : decode cX7_room 53 = .ok (.goto 43, 3) := by decide +kernel
theorem dX7_room_56 : decode cX7_room 56 = .ok (.iload_n 2, 1) := by decide +kernel
theorem dX7_room_57 : decode cX7_room 57 = .ok (.iconst 4, 1) := by decide +kernel
theorem dX7_room_58 : decode cX7_room 58 = .ok (.if_icmp .ne 14, 3) := by decide +kernel
theorem dX7_room_61 : decode cX7_room 61 = .ok (.aload_n 0, 1) := by decide +kernel
theorem dX7_room_62 : decode cX7_room 62 = .ok (.getfield 16, 3) := by decide +kernel
theorem dX7_room_65 : decode cX7_room 65 = .ok (.iload_n 1, 1) := by decide +kernel
theorem dX7_room_66 : decode cX7_room 66 = .ok (.invokestatic 67, 3) := by decide +kernel
theorem dX7_room_69 : decode cX7_room 69 = .ok (.goto 27, 3) := by decide +kernel
theorem dX7_room_72 : decode cX7_room 72 = .ok (.iload_n 2, 1) := by decide +kernel
theorem dX7_room_73 : decode cX7_room 73 = .ok (.iconst 5, 1) := by decide +kernel
theorem dX7_room_74 : decode cX7_room 74 = .ok (.if_icmp .ne 14, 3) := by decide +kernel
theorem dX7_room_77 : decode cX7_room 77 = .ok (.aload_n 0, 1) := by decide +kernel
theorem dX7_room_78 : decode cX7_room 78 = .ok (.getfield 16, 3) := by decide +kernel
theorem dX7_room_81 : decode cX7_room 81 = .ok (.iload_n 1, 1) := by decide +kernel
theorem dX7_room_82 : decode cX7_room 82 = .ok (.invokestatic 70, 3) := by decide +kernel
theorem dX7_room_85 : decode cX7_room 85 = .ok (.goto 11, 3) := by decide +kernel
theorem dX7_room_88 : decode cX7_room 88 = .ok (.aload_n 0, 1) := by decide +kernel
theorem dX7_room_89 : decode cX7_room 89 = .ok (.getfield 16, 3) := by decide +kernel
theorem dX7_room_92 : decode cX7_room 92 = .ok (.iload_n 1, 1) := by decide +kernel
theorem dX7_room_93 : decode cX7_room 93 = .ok (.invokestatic 77, 3) := by decide +kernel
theorem dX7_room_96 : decode cX7_room 96 = .ok (.ireturn, 1) := by decide +kernel
theorem dX7_owes_0 : decode cX7_owes 0 = .ok (.aload_n 0, 1) := by decide +kernel
theorem dX7_owes_1 : decode cX7_owes 1 = .ok (.aload_n 0, 1) := by decide +kernel
theorem dX7_owes_2 : decode cX7_owes 2 = .ok (.iload_n 1, 1) := by decide +kernel
theorem dX7_owes_3 : decode cX7_owes 3 = .ok (.invokevirtual 162, 3) := by decide +kernel
theorem dX7_owes_6 : decode cX7_owes 6 = .ok (.ifCond .eq 7, 3) := by decide +kernel
theorem dX7_owes_9 : decode cX7_owes 9 = .ok (.iconst 0, 1) := by decide +kernel
theorem dX7_owes_10 : decode cX7_owes 10 = .ok (.goto 4, 3) := by decide +kernel
theorem dX7_owes_13 : decode cX7_owes 13 = .ok (.iconst 1, 1) := by decide +kernel
theorem dX7_owes_14 : decode cX7_owes 14 = .ok (.invokevirtual 110, 3) := by decide +kernel
theorem dX7_owes_17 : decode cX7_owes 17 = .ok (.ifCond .eq 7, 3) := by decide +kernel
theorem dX7_owes_20 : decode cX7_owes 20 = .ok (.iconst 0, 1) := by decide +kernel
theorem dX7_owes_21 : decode cX7_owes 21 = .ok (.goto 12, 3) := by decide +kernel
theorem dX7_owes_24 : decode cX7_owes 24 = .ok (.aload_n 0, 1) := by decide +kernel
theorem dX7_owes_25 : decode cX7_owes 25 = .ok (.getfield 16, 3) := by decide +kernel
theorem dX7_owes_28 : decode cX7_owes 28 = .ok (.bipush 25, 2) := by decide +kernel
theorem dX7_owes_30 : decode cX7_owes 30 = .ok (.iload_n 1, 1) := by decide +kernel
theorem dX7_owes_31 : decode cX7_owes 31 = .ok (.iadd, 1) := by decide +kernel
theorem dX7_owes_32 : decode cX7_owes 32 = .ok (.iaload, 1) := by decide +kernel
theorem dX7_owes_33 : decode cX7_owes 33 = .ok (.ireturn, 1) := by decide +kernel
theorem dX7_booking_0 : decode cX7_booking 0 = .ok (.aload_n 0, 1) := by decide +kernel
theorem dX7_booking_1 : decode cX7_booking 1 = .ok (.aload_n 0, 1) := by decide +kernel
theorem dX7_booking_2 : decode cX7_booking 2 = .ok (.iload_n 1, 1) := by decide +kernel
theorem dX7_booking_3 : decode cX7_booking 3 = .ok (.invokevirtual 165, 3) := by decide +kernel
theorem dX7_booking_6 : decode cX7_booking 6 = .ok (.ifCond .ne 7, 3) := by decide +kernel
theorem dX7_booking_9 : decode cX7_booking 9 = .ok (.iconst 1, 1) := by decide +kernel
theorem dX7_booking_10 : decode cX7_booking 10 = .ok (.goto 20, 3) := by decide +kernel
theorem dX7_booking_13 : decode cX7_booking 13 = .ok (.iload_n 2, 1) := by decide +kernel
theorem dX7_booking_14 : decode cX7_booking 14 = .ok (.i2l, 1) := by decide +kernel
theorem dX7_booking_15 : decode cX7_booking 15 = .ok (.lconst 0, 1) := by decide +kernel
theorem dX7_booking_16 : decode cX7_booking 16 = .ok (.ldc2_w 121, 3) := by decide +kernel
theorem dX7_booking_19 : decode cX7_booking 19 = .ok (.invokestatic 103, 3) := by decide +kernel
theorem dX7_booking_22 : decode cX7_booking 22 = .ok (.ifCond .eq 7, 3) := by decide +kernel
theorem dX7_booking_25 : decode cX7_booking 25 = .ok (.iconst 0, 1) := by decide +kernel
theorem dX7_booking_26 : decode cX7_booking 26 = .ok (.goto 4, 3) := by decide +kernel
theorem dX7_booking_29 : decode cX7_booking 29 = .ok (.iconst 2, 1) := by decide +kernel
theorem dX7_booking_30 : decode cX7_booking 30 = .ok (.invokevirtual 110, 3) := by decide +kernel
theorem dX7_booking_33 : decode cX7_booking 33 = .ok (.ifCond .eq 5, 3) := by decide +kernel
theorem dX7_booking_36 : decode cX7_booking 36 = .ok (.iconst 0, 1) := by decide +kernel
theorem dX7_booking_37 : decode cX7_booking 37 = .ok (.ireturn, 1) := by decide +kernel
theorem dX7_booking_38 : decode cX7_booking 38 = .ok (.iload_n 2, 1) := by decide +kernel
theorem dX7_booking_39 : decode cX7_booking 39 = .ok (.bipush 9, 2) := by decide +kernel
theorem dX7_booking_41 : decode cX7_booking 41 = .ok (.if_icmp .ge 16, 3) := by decide +kernel
theorem dX7_booking_44 : decode cX7_booking 44 = .ok (.aload_n 0, 1) := by decide +kernel
theorem dX7_booking_45 : decode cX7_booking 45 = .ok (.getfield 16, 3) := by decide +kernel
theorem dX7_booking_48 : decode cX7_booking 48 = .ok (.iload_n 1, 1) := by decide +kernel
theorem dX7_booking_49 : decode cX7_booking 49 = .ok (.iload_n 2, 1) := by decide +kernel
theorem dX7_booking_50 : decode cX7_booking 50 = .ok (.invokestatic 49, 3) := by decide +kernel
theorem dX7_booking_53 : decode cX7_booking 53 = .ok (.iaload, 1) := by decide +kernel
theorem dX7_booking_54 : decode cX7_booking 54 = .ok (.goto 19, 3) := by decide +kernel
theorem dX7_booking_57 : decode cX7_booking 57 = .ok (.aload_n 0, 1) := by decide +kernel
theorem dX7_booking_58 : decode cX7_booking 58 = .ok (.getfield 16, 3) := by decide +kernel
theorem dX7_booking_61 : decode cX7_booking 61 = .ok (.iload_n 1, 1) := by decide +kernel
theorem dX7_booking_62 : decode cX7_booking 62 = .ok (.invokestatic 57, 3) := by decide +kernel
theorem dX7_booking_65 : decode cX7_booking 65 = .ok (.ifCond .eq 7, 3) := by decide +kernel
theorem dX7_booking_68 : decode cX7_booking 68 = .ok (.iconst 1, 1) := by decide +kernel
theorem dX7_booking_69 : decode cX7_booking 69 = .ok (.goto 4, 3) := by decide +kernel
theorem dX7_booking_72 : decode cX7_booking 72 = .ok (.iconst 0, 1) := by decide +kernel
theorem dX7_booking_73 : decode cX7_booking 73 = .ok (.ireturn, 1) := by decide +kernel
theorem dX7_addRoom_0 : decode cX7_addRoom 0 = .ok (.iload_n 1, 1) := by decide +kernel
theorem dX7_addRoom_1 : decode cX7_addRoom 1 = .ok (.i2l, 1) := by decide +kernel
theorem dX7_addRoom_2 : decode cX7_addRoom 2 = .ok (.lconst 1, 1) := by decide +kernel
theorem dX7_addRoom_3 : decode cX7_addRoom 3 = .ok (.ldc2_w 121, 3) := by decide +kernel
theorem dX7_addRoom_6 : decode cX7_addRoom 6 = .ok (.invokestatic 103, 3) := by decide +kernel
theorem dX7_addRoom_9 : decode cX7_addRoom 9 = .ok (.ifCond .eq 46, 3) := by decide +kernel
theorem dX7_addRoom_12 : decode cX7_addRoom 12 = .ok (.iload_n 2, 1) := by decide +kernel
theorem dX7_addRoom_13 : decode cX7_addRoom 13 = .ok (.i2l, 1) := by decide +kernel
theorem dX7_addRoom_14 : decode cX7_addRoom 14 = .ok (.lconst 1, 1) := by decide +kernel
theorem dX7_addRoom_15 : decode cX7_addRoom 15 = .ok (.ldc2_w 121, 3) := by decide +kernel
theorem dX7_addRoom_18 : decode cX7_addRoom 18 = .ok (.invokestatic 103, 3) := by decide +kernel
theorem dX7_addRoom_21 : decode cX7_addRoom 21 = .ok (.ifCond .eq 34, 3) := by decide +kernel
theorem dX7_addRoom_24 : decode cX7_addRoom 24 = .ok (.iload_n 3, 1) := by decide +kernel
theorem dX7_addRoom_25 : decode cX7_addRoom 25 = .ok (.i2l, 1) := by decide +kernel
theorem dX7_addRoom_26 : decode cX7_addRoom 26 = .ok (.lconst 1, 1) := by decide +kernel
theorem dX7_addRoom_27 : decode cX7_addRoom 27 = .ok (.ldc2_w 121, 3) := by decide +kernel
theorem dX7_addRoom_30 : decode cX7_addRoom 30 = .ok (.invokestatic 103, 3) := by decide +kernel
theorem dX7_addRoom_33 : decode cX7_addRoom 33 = .ok (.ifCond .eq 22, 3) := by decide +kernel
theorem dX7_addRoom_36 : decode cX7_addRoom 36 = .ok (.iload 4, 2) := by decide +kernel
theorem dX7_addRoom_38 : decode cX7_addRoom 38 = .ok (.i2l, 1) := by decide +kernel
theorem dX7_addRoom_39 : decode cX7_addRoom 39 = .ok (.ldc2_w 168, 3) := by decide +kernel
theorem dX7_addRoom_42 : decode cX7_addRoom 42 = .ok (.ldc2_w 170, 3) := by decide +kernel
theorem dX7_addRoom_45 : decode cX7_addRoom 45 = .ok (.invokestatic 103, 3) := by decide +kernel
theorem dX7_addRoom_48 : decode cX7_addRoom 48 = .ok (.ifCond .eq 7, 3) := by decide +kernel
theorem dX7_addRoom_51 : decode cX7_addRoom 51 = .ok (.iconst 1, 1) := by decide +kernel
theorem dX7_addRoom_52 : decode cX7_addRoom 52 = .ok (.goto 4, 3) := by decide +kernel
theorem dX7_addRoom_55 : decode cX7_addRoom 55 = .ok (.iconst 0, 1) := by decide +kernel
theorem dX7_addRoom_56 : decode cX7_addRoom 56 = .ok (.istore 5, 2) := by decide +kernel
theorem dX7_addRoom_58 : decode cX7_addRoom 58 = .ok (.aload_n 0, 1) := by decide +kernel
theorem dX7_addRoom_59 : decode cX7_addRoom 59 = .ok (.iload 5, 2) := by decide +kernel
theorem dX7_addRoom_61 : decode cX7_addRoom 61 = .ok (.ifCond .ne 7, 3) := by decide +kernel
theorem dX7_addRoom_64 : decode cX7_addRoom 64 = .ok (.iconst 1, 1) := by decide +kernel
theorem dX7_addRoom_65 : decode cX7_addRoom 65 = .ok (.goto 18, 3) := by decide +kernel
theorem dX7_addRoom_68 : decode cX7_addRoom 68 = .ok (.aload_n 0, 1) := by decide +kernel
theorem dX7_addRoom_69 : decode cX7_addRoom 69 = .ok (.getfield 16, 3) := by decide +kernel
theorem dX7_addRoom_72 : decode cX7_addRoom 72 = .ok (.iconst 1, 1) := by decide +kernel
theorem dX7_addRoom_73 : decode cX7_addRoom 73 = .ok (.iaload, 1) := by decide +kernel
theorem dX7_addRoom_74 : decode cX7_addRoom 74 = .ok (.iconst 4, 1) := by decide +kernel
theorem dX7_addRoom_75 : decode cX7_addRoom 75 = .ok (.if_icmp .ne 7, 3) := by decide +kernel
theorem dX7_addRoom_78 : decode cX7_addRoom 78 = .ok (.iconst 2, 1) := by decide +kernel
theorem dX7_addRoom_79 : decode cX7_addRoom 79 = .ok (.goto 4, 3) := by decide +kernel
theorem dX7_addRoom_82 : decode cX7_addRoom 82 = .ok (.iconst 0, 1) := by decide +kernel
theorem dX7_addRoom_83 : decode cX7_addRoom 83 = .ok (.invokevirtual 110, 3) := by decide +kernel
theorem dX7_addRoom_86 : decode cX7_addRoom 86 = .ok (.ifCond .eq 5, 3) := by decide +kernel
theorem dX7_addRoom_89 : decode cX7_addRoom 89 = .ok (.iconst 0, 1) := by decide +kernel
theorem dX7_addRoom_90 : decode cX7_addRoom 90 = .ok (.ireturn, 1) := by decide +kernel
theorem dX7_addRoom_91 : decode cX7_addRoom 91 = .ok (.aload_n 0, 1) := by decide +kernel
theorem dX7_addRoom_92 : decode cX7_addRoom 92 = .ok (.invokevirtual 172, 3) := by decide +kernel
theorem dX7_addRoom_95 : decode cX7_addRoom 95 = .ok (.aload_n 0, 1) := by decide +kernel
theorem dX7_addRoom_96 : decode cX7_addRoom 96 = .ok (.getfield 16, 3) := by decide +kernel
theorem dX7_addRoom_99 : decode cX7_addRoom 99 = .ok (.iload_n 1, 1) := by decide +kernel
theorem dX7_addRoom_100 : decode cX7_addRoom 100 = .ok (.iload_n 2, 1) := by decide +kernel
theorem dX7_addRoom_101 : decode cX7_addRoom 101 = .ok (.iload_n 3, 1) := by decide +kernel
theorem dX7_addRoom_102 : decode cX7_addRoom 102 = .ok (.iload 4, 2) := by decide +kernel
theorem dX7_addRoom_104 : decode cX7_addRoom 104 = .ok (.invokestatic 133, 3) := by decide +kernel
theorem dX7_addRoom_107 : decode cX7_addRoom 107 = .ok (.aload_n 0, 1) := by decide +kernel
theorem dX7_addRoom_108 : decode cX7_addRoom 108 = .ok (.getfield 16, 3) := by decide +kernel
theorem dX7_addRoom_111 : decode cX7_addRoom 111 = .ok (.iconst 1, 1) := by decide +kernel
theorem dX7_addRoom_112 : decode cX7_addRoom 112 = .ok (.iaload, 1) := by decide +kernel
theorem dX7_addRoom_113 : decode cX7_addRoom 113 = .ok (.iconst 1, 1) := by decide +kernel
theorem dX7_addRoom_114 : decode cX7_addRoom 114 = .ok (.isub, 1) := by decide +kernel
theorem dX7_addRoom_115 : decode cX7_addRoom 115 = .ok (.ireturn, 1) := by decide +kernel
theorem dX7_addGroup_0 : decode cX7_addGroup 0 = .ok (.aload_n 0, 1) := by decide +kernel
theorem dX7_addGroup_1 : decode cX7_addGroup 1 = .ok (.aload_n 0, 1) := by decide +kernel
theorem dX7_addGroup_2 : decode cX7_addGroup 2 = .ok (.getfield 16, 3) := by decide +kernel
theorem dX7_addGroup_5 : decode cX7_addGroup 5 = .ok (.iconst 2, 1) := by decide +kernel
theorem dX7_addGroup_6 : decode cX7_addGroup 6 = .ok (.iaload, 1) := by decide +kernel
theorem dX7_addGroup_7 : decode cX7_addGroup 7 = .ok (.bipush 6, 2) := by decide +kernel
theorem dX7_addGroup_9 : decode cX7_addGroup 9 = .ok (.if_icmp .ne 7, 3) := by decide +kernel
theorem dX7_addGroup_12 : decode cX7_addGroup 12 = .ok (.iconst 1, 1) := by decide +kernel
theorem dX7_addGroup_13 : decode cX7_addGroup 13 = .ok (.goto 4, 3) := by decide +kernel
theorem dX7_addGroup_16 : decode cX7_addGroup 16 = .ok (.iconst 0, 1) := by decide +kernel
theorem dX7_addGroup_17 : decode cX7_addGroup 17 = .ok (.invokevirtual 110, 3) := by decide +kernel
theorem dX7_addGroup_20 : decode cX7_addGroup 20 = .ok (.ifCond .eq 5, 3) := by decide +kernel
theorem dX7_addGroup_23 : decode cX7_addGroup 23 = .ok (.iconst 0, 1) := by decide +kernel
theorem dX7_addGroup_24 : decode cX7_addGroup 24 = .ok (.ireturn, 1) := by decide +kernel
theorem dX7_addGroup_25 : decode cX7_addGroup 25 = .ok (.aload_n 0, 1) := by decide +kernel
theorem dX7_addGroup_26 : decode cX7_addGroup 26 = .ok (.invokevirtual 172, 3) := by decide +kernel
theorem dX7_addGroup_29 : decode cX7_addGroup 29 = .ok (.aload_n 0, 1) := by decide +kernel
theorem dX7_addGroup_30 : decode cX7_addGroup 30 = .ok (.getfield 16, 3) := by decide +kernel
theorem dX7_addGroup_33 : decode cX7_addGroup 33 = .ok (.bipush 25, 2) := by decide +kernel
theorem dX7_addGroup_35 : decode cX7_addGroup 35 = .ok (.aload_n 0, 1) := by decide +kernel
theorem dX7_addGroup_36 : decode cX7_addGroup 36 = .ok (.getfield 16, 3) := by decide +kernel
theorem dX7_addGroup_39 : decode cX7_addGroup 39 = .ok (.iconst 2, 1) := by decide +kernel
theorem dX7_addGroup_40 : decode cX7_addGroup 40 = .ok (.iaload, 1) := by decide +kernel
theorem dX7_addGroup_41 : decode cX7_addGroup 41 = .ok (.iadd, 1) := by decide +kernel
theorem dX7_addGroup_42 : decode cX7_addGroup 42 = .ok (.iconst 0, 1) := by decide +kernel
theorem dX7_addGroup_43 : decode cX7_addGroup 43 = .ok (.iastore, 1) := by decide +kernel
theorem dX7_addGroup_44 : decode cX7_addGroup 44 = .ok (.aload_n 0, 1) := by decide +kernel
theorem dX7_addGroup_45 : decode cX7_addGroup 45 = .ok (.getfield 16, 3) := by decide +kernel
theorem dX7_addGroup_48 : decode cX7_addGroup 48 = .ok (.iconst 2, 1) := by decide +kernel
theorem dX7_addGroup_49 : decode cX7_addGroup 49 = .ok (.dup2, 1) := by decide +kernel
theorem dX7_addGroup_50 : decode cX7_addGroup 50 = .ok (.iaload, 1) := by decide +kernel
theorem dX7_addGroup_51 : decode cX7_addGroup 51 = .ok (.iconst 1, 1) := by decide +kernel
theorem dX7_addGroup_52 : decode cX7_addGroup 52 = .ok (.iadd, 1) := by decide +kernel
theorem dX7_addGroup_53 : decode cX7_addGroup 53 = .ok (.iastore, 1) := by decide +kernel
theorem dX7_addGroup_54 : decode cX7_addGroup 54 = .ok (.aload_n 0, 1) := by decide +kernel
theorem dX7_addGroup_55 : decode cX7_addGroup 55 = .ok (.getfield 16, 3) := by decide +kernel
theorem dX7_addGroup_58 : decode cX7_addGroup 58 = .ok (.iconst 2, 1) := by decide +kernel
theorem dX7_addGroup_59 : decode cX7_addGroup 59 = .ok (.iaload, 1) := by decide +kernel
theorem dX7_addGroup_60 : decode cX7_addGroup 60 = .ok (.iconst 1, 1) := by decide +kernel
theorem dX7_addGroup_61 : decode cX7_addGroup 61 = .ok (.isub, 1) := by decide +kernel
theorem dX7_addGroup_62 : decode cX7_addGroup 62 = .ok (.ireturn, 1) := by decide +kernel
theorem dX7_isSound_0 : decode cX7_isSound 0 = .ok (.iload_n 1, 1) := by decide +kernel
theorem dX7_isSound_1 : decode cX7_isSound 1 = .ok (.i2l, 1) := by decide +kernel
theorem dX7_isSound_2 : decode cX7_isSound 2 = .ok (.aload_n 0, 1) := by decide +kernel
theorem dX7_isSound_3 : decode cX7_isSound 3 = .ok (.getfield 16, 3) := by decide +kernel
theorem dX7_isSound_6 : decode cX7_isSound 6 = .ok (.iconst 0, 1) := by decide +kernel
theorem dX7_isSound_7 : decode cX7_isSound 7 = .ok (.iaload, 1) := by decide +kernel
theorem dX7_isSound_8 : decode cX7_isSound 8 = .ok (.i2l, 1) := by decide +kernel
theorem dX7_isSound_9 : decode cX7_isSound 9 = .ok (.ldc2_w 175, 3) := by decide +kernel
theorem dX7_isSound_12 : decode cX7_isSound 12 = .ok (.invokestatic 103, 3) := by decide +kernel
theorem dX7_isSound_15 : decode cX7_isSound 15 = .ok (.ifCond .eq 33, 3) := by decide +kernel
theorem dX7_isSound_18 : decode cX7_isSound 18 = .ok (.iload_n 2, 1) := by decide +kernel
theorem dX7_isSound_19 : decode cX7_isSound 19 = .ok (.i2l, 1) := by decide +kernel
theorem dX7_isSound_20 : decode cX7_isSound 20 = .ok (.lconst 1, 1) := by decide +kernel
theorem dX7_isSound_21 : decode cX7_isSound 21 = .ok (.ldc2_w 177, 3) := by decide +kernel
theorem dX7_isSound_24 : decode cX7_isSound 24 = .ok (.invokestatic 103, 3) := by decide +kernel
theorem dX7_isSound_27 : decode cX7_isSound 27 = .ok (.ifCond .eq 21, 3) := by decide +kernel
theorem dX7_isSound_30 : decode cX7_isSound 30 = .ok (.iload_n 3, 1) := by decide +kernel
theorem dX7_isSound_31 : decode cX7_isSound 31 = .ok (.i2l, 1) := by decide +kernel
theorem dX7_isSound_32 : decode cX7_isSound 32 = .ok (.ldc2_w 177, 3) := by decide +kernel
theorem dX7_isSound_35 : decode cX7_isSound 35 = .ok (.ldc2_w 179, 3) := by decide +kernel
theorem dX7_isSound_38 : decode cX7_isSound 38 = .ok (.invokestatic 103, 3) := by decide +kernel
theorem dX7_isSound_41 : decode cX7_isSound 41 = .ok (.ifCond .eq 7, 3) := by decide +kernel
theorem dX7_isSound_44 : decode cX7_isSound 44 = .ok (.iconst 1, 1) := by decide +kernel
theorem dX7_isSound_45 : decode cX7_isSound 45 = .ok (.goto 4, 3) := by decide +kernel
theorem dX7_isSound_48 : decode cX7_isSound 48 = .ok (.iconst 0, 1) := by decide +kernel
theorem dX7_isSound_49 : decode cX7_isSound 49 = .ok (.ireturn, 1) := by decide +kernel
theorem dX7_book_0 : decode cX7_book 0 = .ok (.aload_n 0, 1) := by decide +kernel
theorem dX7_book_1 : decode cX7_book 1 = .ok (.iload_n 1, 1) := by decide +kernel
theorem dX7_book_2 : decode cX7_book 2 = .ok (.invokevirtual 157, 3) := by decide +kernel
theorem dX7_book_5 : decode cX7_book 5 = .ok (.ifCond .eq 15, 3) := by decide +kernel
theorem dX7_book_8 : decode cX7_book 8 = .ok (.aload_n 0, 1) := by decide +kernel
theorem dX7_book_9 : decode cX7_book 9 = .ok (.iload_n 2, 1) := by decide +kernel
theorem dX7_book_10 : decode cX7_book 10 = .ok (.invokevirtual 162, 3) := by decide +kernel
theorem dX7_book_13 : decode cX7_book 13 = .ok (.ifCond .eq 7, 3) := by decide +kernel
theorem dX7_book_16 : decode cX7_book 16 = .ok (.iconst 1, 1) := by decide +kernel
theorem dX7_book_17 : decode cX7_book 17 = .ok (.goto 4, 3) := by decide +kernel
theorem dX7_book_20 : decode cX7_book 20 = .ok (.iconst 0, 1) := by decide +kernel
theorem dX7_book_21 : decode cX7_book 21 = .ok (.istore 6, 2) := by decide +kernel
theorem dX7_book_23 : decode cX7_book 23 = .ok (.aload_n 0, 1) := by decide +kernel
theorem dX7_book_24 : decode cX7_book 24 = .ok (.iload 6, 2) := by decide +kernel
theorem dX7_book_26 : decode cX7_book 26 = .ok (.ifCond .ne 7, 3) := by decide +kernel
theorem dX7_book_29 : decode cX7_book 29 = .ok (.iconst 1, 1) := by decide +kernel
theorem dX7_book_30 : decode cX7_book 30 = .ok (.goto 38, 3) := by decide +kernel
theorem dX7_book_33 : decode cX7_book 33 = .ok (.aload_n 0, 1) := by decide +kernel
theorem dX7_book_34 : decode cX7_book 34 = .ok (.iload_n 3, 1) := by decide +kernel
theorem dX7_book_35 : decode cX7_book 35 = .ok (.iload 4, 2) := by decide +kernel
theorem dX7_book_37 : decode cX7_book 37 = .ok (.iload 5, 2) := by decide +kernel
theorem dX7_book_39 : decode cX7_book 39 = .ok (.invokevirtual 181, 3) := by decide +kernel
theorem dX7_book_42 : decode cX7_book 42 = .ok (.ifCond .ne 7, 3) := by decide +kernel
theorem dX7_book_45 : decode cX7_book 45 = .ok (.iconst 2, 1) := by decide +kernel
theorem dX7_book_46 : decode cX7_book 46 = .ok (.goto 22, 3) := by decide +kernel
theorem dX7_book_49 : decode cX7_book 49 = .ok (.aload_n 0, 1) := by decide +kernel
theorem dX7_book_50 : decode cX7_book 50 = .ok (.getfield 16, 3) := by decide +kernel
theorem dX7_book_53 : decode cX7_book 53 = .ok (.iload_n 1, 1) := by decide +kernel
theorem dX7_book_54 : decode cX7_book 54 = .ok (.iload_n 3, 1) := by decide +kernel
theorem dX7_book_55 : decode cX7_book 55 = .ok (.iload 4, 2) := by decide +kernel
theorem dX7_book_57 : decode cX7_book 57 = .ok (.invokestatic 185, 3) := by decide +kernel
theorem dX7_book_60 : decode cX7_book 60 = .ok (.ifCond .eq 7, 3) := by decide +kernel
theorem dX7_book_63 : decode cX7_book 63 = .ok (.iconst 0, 1) := by decide +kernel
theorem dX7_book_64 : decode cX7_book 64 = .ok (.goto 4, 3) := by decide +kernel
theorem dX7_book_67 : decode cX7_book 67 = .ok (.iconst 3, 1) := by decide +kernel
theorem dX7_book_68 : decode cX7_book 68 = .ok (.invokevirtual 110, 3) := by decide +kernel
theorem dX7_book_71 : decode cX7_book 71 = .ok (.ifCond .eq 5, 3) := by decide +kernel
theorem dX7_book_74 : decode cX7_book 74 = .ok (.iconst 0, 1) := by decide +kernel
theorem dX7_book_75 : decode cX7_book 75 = .ok (.ireturn, 1) := by decide +kernel
theorem dX7_book_76 : decode cX7_book 76 = .ok (.aload_n 0, 1) := by decide +kernel
theorem dX7_book_77 : decode cX7_book 77 = .ok (.invokevirtual 172, 3) := by decide +kernel
theorem dX7_book_80 : decode cX7_book 80 = .ok (.aload_n 0, 1) := by decide +kernel
theorem dX7_book_81 : decode cX7_book 81 = .ok (.getfield 16, 3) := by decide +kernel
theorem dX7_book_84 : decode cX7_book 84 = .ok (.iload_n 1, 1) := by decide +kernel
theorem dX7_book_85 : decode cX7_book 85 = .ok (.iload_n 2, 1) := by decide +kernel
theorem dX7_book_86 : decode cX7_book 86 = .ok (.iload_n 3, 1) := by decide +kernel
theorem dX7_book_87 : decode cX7_book 87 = .ok (.iload 4, 2) := by decide +kernel
theorem dX7_book_89 : decode cX7_book 89 = .ok (.iload 5, 2) := by decide +kernel
theorem dX7_book_91 : decode cX7_book 91 = .ok (.invokestatic 140, 3) := by decide +kernel
theorem dX7_book_94 : decode cX7_book 94 = .ok (.aload_n 0, 1) := by decide +kernel
theorem dX7_book_95 : decode cX7_book 95 = .ok (.getfield 16, 3) := by decide +kernel
theorem dX7_book_98 : decode cX7_book 98 = .ok (.iconst 3, 1) := by decide +kernel
theorem dX7_book_99 : decode cX7_book 99 = .ok (.iaload, 1) := by decide +kernel
theorem dX7_book_100 : decode cX7_book 100 = .ok (.iconst 1, 1) := by decide +kernel
theorem dX7_book_101 : decode cX7_book 101 = .ok (.isub, 1) := by decide +kernel
theorem dX7_book_102 : decode cX7_book 102 = .ok (.ireturn, 1) := by decide +kernel
theorem dX7_cancel_0 : decode cX7_cancel 0 = .ok (.aload_n 0, 1) := by decide +kernel
theorem dX7_cancel_1 : decode cX7_cancel 1 = .ok (.aload_n 0, 1) := by decide +kernel
theorem dX7_cancel_2 : decode cX7_cancel 2 = .ok (.iload_n 1, 1) := by decide +kernel
theorem dX7_cancel_3 : decode cX7_cancel 3 = .ok (.invokevirtual 165, 3) := by decide +kernel
theorem dX7_cancel_6 : decode cX7_cancel 6 = .ok (.ifCond .ne 7, 3) := by decide +kernel
theorem dX7_cancel_9 : decode cX7_cancel 9 = .ok (.iconst 1, 1) := by decide +kernel
theorem dX7_cancel_10 : decode cX7_cancel 10 = .ok (.goto 19, 3) := by decide +kernel
theorem dX7_cancel_13 : decode cX7_cancel 13 = .ok (.aload_n 0, 1) := by decide +kernel
theorem dX7_cancel_14 : decode cX7_cancel 14 = .ok (.getfield 16, 3) := by decide +kernel
theorem dX7_cancel_17 : decode cX7_cancel 17 = .ok (.iload_n 1, 1) := by decide +kernel
theorem dX7_cancel_18 : decode cX7_cancel 18 = .ok (.invokestatic 188, 3) := by decide +kernel
theorem dX7_cancel_21 : decode cX7_cancel 21 = .ok (.ifCond .eq 7, 3) := by decide +kernel
theorem dX7_cancel_24 : decode cX7_cancel 24 = .ok (.iconst 0, 1) := by decide +kernel
theorem dX7_cancel_25 : decode cX7_cancel 25 = .ok (.goto 4, 3) := by decide +kernel
theorem dX7_cancel_28 : decode cX7_cancel 28 = .ok (.iconst 2, 1) := by decide +kernel
theorem dX7_cancel_29 : decode cX7_cancel 29 = .ok (.invokevirtual 110, 3) := by decide +kernel
theorem dX7_cancel_32 : decode cX7_cancel 32 = .ok (.ifCond .eq 5, 3) := by decide +kernel
theorem dX7_cancel_35 : decode cX7_cancel 35 = .ok (.iconst 0, 1) := by decide +kernel
theorem dX7_cancel_36 : decode cX7_cancel 36 = .ok (.ireturn, 1) := by decide +kernel
theorem dX7_cancel_37 : decode cX7_cancel 37 = .ok (.aload_n 0, 1) := by decide +kernel
theorem dX7_cancel_38 : decode cX7_cancel 38 = .ok (.invokevirtual 172, 3) := by decide +kernel
theorem dX7_cancel_41 : decode cX7_cancel 41 = .ok (.aload_n 0, 1) := by decide +kernel
theorem dX7_cancel_42 : decode cX7_cancel 42 = .ok (.getfield 16, 3) := by decide +kernel
theorem dX7_cancel_45 : decode cX7_cancel 45 = .ok (.iload_n 1, 1) := by decide +kernel
theorem dX7_cancel_46 : decode cX7_cancel 46 = .ok (.invokestatic 191, 3) := by decide +kernel
theorem dX7_cancel_49 : decode cX7_cancel 49 = .ok (.aload_n 0, 1) := by decide +kernel
theorem dX7_cancel_50 : decode cX7_cancel 50 = .ok (.getfield 16, 3) := by decide +kernel
theorem dX7_cancel_53 : decode cX7_cancel 53 = .ok (.iconst 3, 1) := by decide +kernel
theorem dX7_cancel_54 : decode cX7_cancel 54 = .ok (.iaload, 1) := by decide +kernel
theorem dX7_cancel_55 : decode cX7_cancel 55 = .ok (.ireturn, 1) := by decide +kernel
theorem dX7_prove_0 : decode cX7_prove 0 = .ok (.aload_n 0, 1) := by decide +kernel
theorem dX7_prove_1 : decode cX7_prove 1 = .ok (.aload_n 0, 1) := by decide +kernel
theorem dX7_prove_2 : decode cX7_prove 2 = .ok (.iload_n 1, 1) := by decide +kernel
theorem dX7_prove_3 : decode cX7_prove 3 = .ok (.invokevirtual 157, 3) := by decide +kernel
theorem dX7_prove_6 : decode cX7_prove 6 = .ok (.ifCond .ne 7, 3) := by decide +kernel
theorem dX7_prove_9 : decode cX7_prove 9 = .ok (.iconst 1, 1) := by decide +kernel
theorem dX7_prove_10 : decode cX7_prove 10 = .ok (.goto 21, 3) := by decide +kernel
theorem dX7_prove_13 : decode cX7_prove 13 = .ok (.aload_n 0, 1) := by decide +kernel
theorem dX7_prove_14 : decode cX7_prove 14 = .ok (.getfield 16, 3) := by decide +kernel
theorem dX7_prove_17 : decode cX7_prove 17 = .ok (.iload_n 1, 1) := by decide +kernel
theorem dX7_prove_18 : decode cX7_prove 18 = .ok (.invokestatic 67, 3) := by decide +kernel
theorem dX7_prove_21 : decode cX7_prove 21 = .ok (.bipush (-99), 2) := by decide +kernel
theorem dX7_prove_23 : decode cX7_prove 23 = .ok (.if_icmp .ne 7, 3) := by decide +kernel
theorem dX7_prove_26 : decode cX7_prove 26 = .ok (.iconst 2, 1) := by decide +kernel
theorem dX7_prove_27 : decode cX7_prove 27 = .ok (.goto 4, 3) := by decide +kernel
theorem dX7_prove_30 : decode cX7_prove 30 = .ok (.iconst 0, 1) := by decide +kernel
theorem dX7_prove_31 : decode cX7_prove 31 = .ok (.invokevirtual 110, 3) := by decide +kernel
theorem dX7_prove_34 : decode cX7_prove 34 = .ok (.ifCond .eq 5, 3) := by decide +kernel
theorem dX7_prove_37 : decode cX7_prove 37 = .ok (.iconst 0, 1) := by decide +kernel
theorem dX7_prove_38 : decode cX7_prove 38 = .ok (.ireturn, 1) := by decide +kernel
theorem dX7_prove_39 : decode cX7_prove 39 = .ok (.aload_n 0, 1) := by decide +kernel
theorem dX7_prove_40 : decode cX7_prove 40 = .ok (.invokevirtual 172, 3) := by decide +kernel
theorem dX7_prove_43 : decode cX7_prove 43 = .ok (.aload_n 0, 1) := by decide +kernel
theorem dX7_prove_44 : decode cX7_prove 44 = .ok (.getfield 16, 3) := by decide +kernel
theorem dX7_prove_47 : decode cX7_prove 47 = .ok (.iload_n 1, 1) := by decide +kernel
theorem dX7_prove_48 : decode cX7_prove 48 = .ok (.invokestatic 67, 3) := by decide +kernel
theorem dX7_prove_51 : decode cX7_prove 51 = .ok (.istore_n 3, 1) := by decide +kernel
theorem dX7_prove_52 : decode cX7_prove 52 = .ok (.aload_n 0, 1) := by decide +kernel
theorem dX7_prove_53 : decode cX7_prove 53 = .ok (.getfield 16, 3) := by decide +kernel
theorem dX7_prove_56 : decode cX7_prove 56 = .ok (.iload_n 3, 1) := by decide +kernel
theorem dX7_prove_57 : decode cX7_prove 57 = .ok (.bipush 7, 2) := by decide +kernel
theorem dX7_prove_59 : decode cX7_prove 59 = .ok (.invokestatic 49, 3) := by decide +kernel
theorem dX7_prove_62 : decode cX7_prove 62 = .ok (.iload_n 2, 1) := by decide +kernel
theorem dX7_prove_63 : decode cX7_prove 63 = .ok (.ifCond .eq 7, 3) := by decide +kernel
theorem dX7_prove_66 : decode cX7_prove 66 = .ok (.iconst 1, 1) := by decide +kernel
theorem dX7_prove_67 : decode cX7_prove 67 = .ok (.goto 4, 3) := by decide +kernel
theorem dX7_prove_70 : decode cX7_prove 70 = .ok (.iconst 0, 1) := by decide +kernel
theorem dX7_prove_71 : decode cX7_prove 71 = .ok (.iastore, 1) := by decide +kernel
theorem dX7_prove_72 : decode cX7_prove 72 = .ok (.iload_n 3, 1) := by decide +kernel
theorem dX7_prove_73 : decode cX7_prove 73 = .ok (.ireturn, 1) := by decide +kernel
theorem dX7_isOutside_0 : decode cX7_isOutside 0 = .ok (.iload_n 0, 1) := by decide +kernel
theorem dX7_isOutside_1 : decode cX7_isOutside 1 = .ok (.i2l, 1) := by decide +kernel
theorem dX7_isOutside_2 : decode cX7_isOutside 2 = .ok (.ldc2_w 194, 3) := by decide +kernel
theorem dX7_isOutside_5 : decode cX7_isOutside 5 = .ok (.ldc2_w 179, 3) := by decide +kernel
theorem dX7_isOutside_8 : decode cX7_isOutside 8 = .ok (.invokestatic 103, 3) := by decide +kernel
theorem dX7_isOutside_11 : decode cX7_isOutside 11 = .ok (.ireturn, 1) := by decide +kernel
theorem dX7_outside_0 : decode cX7_outside 0 = .ok (.aload_n 0, 1) := by decide +kernel
theorem dX7_outside_1 : decode cX7_outside 1 = .ok (.iload_n 1, 1) := by decide +kernel
theorem dX7_outside_2 : decode cX7_outside 2 = .ok (.invokestatic 196, 3) := by decide +kernel
theorem dX7_outside_5 : decode cX7_outside 5 = .ok (.ifCond .eq 7, 3) := by decide +kernel
theorem dX7_outside_8 : decode cX7_outside 8 = .ok (.iconst 0, 1) := by decide +kernel
theorem dX7_outside_9 : decode cX7_outside 9 = .ok (.goto 4, 3) := by decide +kernel
theorem dX7_outside_12 : decode cX7_outside 12 = .ok (.iconst 1, 1) := by decide +kernel
theorem dX7_outside_13 : decode cX7_outside 13 = .ok (.invokevirtual 110, 3) := by decide +kernel
theorem dX7_outside_16 : decode cX7_outside 16 = .ok (.ifCond .eq 5, 3) := by decide +kernel
theorem dX7_outside_19 : decode cX7_outside 19 = .ok (.iconst 0, 1) := by decide +kernel
theorem dX7_outside_20 : decode cX7_outside 20 = .ok (.ireturn, 1) := by decide +kernel
theorem dX7_outside_21 : decode cX7_outside 21 = .ok (.aload_n 0, 1) := by decide +kernel
theorem dX7_outside_22 : decode cX7_outside 22 = .ok (.invokevirtual 172, 3) := by decide +kernel
theorem dX7_outside_25 : decode cX7_outside 25 = .ok (.aload_n 0, 1) := by decide +kernel
theorem dX7_outside_26 : decode cX7_outside 26 = .ok (.getfield 16, 3) := by decide +kernel
theorem dX7_outside_29 : decode cX7_outside 29 = .ok (.iconst 4, 1) := by decide +kernel
theorem dX7_outside_30 : decode cX7_outside 30 = .ok (.iaload, 1) := by decide +kernel
theorem dX7_outside_31 : decode cX7_outside 31 = .ok (.istore_n 2, 1) := by decide +kernel
theorem dX7_outside_32 : decode cX7_outside 32 = .ok (.aload_n 0, 1) := by decide +kernel
theorem dX7_outside_33 : decode cX7_outside 33 = .ok (.getfield 16, 3) := by decide +kernel
theorem dX7_outside_36 : decode cX7_outside 36 = .ok (.iconst 4, 1) := by decide +kernel
theorem dX7_outside_37 : decode cX7_outside 37 = .ok (.iload_n 1, 1) := by decide +kernel
theorem dX7_outside_38 : decode cX7_outside 38 = .ok (.iastore, 1) := by decide +kernel
theorem dX7_outside_39 : decode cX7_outside 39 = .ok (.iload_n 2, 1) := by decide +kernel
theorem dX7_outside_40 : decode cX7_outside 40 = .ok (.ireturn, 1) := by decide +kernel
theorem dX7_pay_0 : decode cX7_pay 0 = .ok (.aload_n 0, 1) := by decide +kernel
theorem dX7_pay_1 : decode cX7_pay 1 = .ok (.aload_n 0, 1) := by decide +kernel
theorem dX7_pay_2 : decode cX7_pay 2 = .ok (.iload_n 1, 1) := by decide +kernel
theorem dX7_pay_3 : decode cX7_pay 3 = .ok (.invokevirtual 162, 3) := by decide +kernel
theorem dX7_pay_6 : decode cX7_pay 6 = .ok (.ifCond .eq 7, 3) := by decide +kernel
theorem dX7_pay_9 : decode cX7_pay 9 = .ok (.iconst 0, 1) := by decide +kernel
theorem dX7_pay_10 : decode cX7_pay 10 = .ok (.goto 4, 3) := by decide +kernel
theorem dX7_pay_13 : decode cX7_pay 13 = .ok (.iconst 1, 1) := by decide +kernel
theorem dX7_pay_14 : decode cX7_pay 14 = .ok (.invokevirtual 110, 3) := by decide +kernel
theorem dX7_pay_17 : decode cX7_pay 17 = .ok (.ifCond .eq 5, 3) := by decide +kernel
theorem dX7_pay_20 : decode cX7_pay 20 = .ok (.iconst 0, 1) := by decide +kernel
theorem dX7_pay_21 : decode cX7_pay 21 = .ok (.ireturn, 1) := by decide +kernel
theorem dX7_pay_22 : decode cX7_pay 22 = .ok (.aload_n 0, 1) := by decide +kernel
theorem dX7_pay_23 : decode cX7_pay 23 = .ok (.invokevirtual 172, 3) := by decide +kernel
theorem dX7_pay_26 : decode cX7_pay 26 = .ok (.aload_n 0, 1) := by decide +kernel
theorem dX7_pay_27 : decode cX7_pay 27 = .ok (.getfield 16, 3) := by decide +kernel
theorem dX7_pay_30 : decode cX7_pay 30 = .ok (.bipush 25, 2) := by decide +kernel
theorem dX7_pay_32 : decode cX7_pay 32 = .ok (.iload_n 1, 1) := by decide +kernel
theorem dX7_pay_33 : decode cX7_pay 33 = .ok (.iadd, 1) := by decide +kernel
theorem dX7_pay_34 : decode cX7_pay 34 = .ok (.iaload, 1) := by decide +kernel
theorem dX7_pay_35 : decode cX7_pay 35 = .ok (.istore_n 2, 1) := by decide +kernel
theorem dX7_pay_36 : decode cX7_pay 36 = .ok (.aload_n 0, 1) := by decide +kernel
theorem dX7_pay_37 : decode cX7_pay 37 = .ok (.getfield 16, 3) := by decide +kernel
theorem dX7_pay_40 : decode cX7_pay 40 = .ok (.bipush 25, 2) := by decide +kernel
theorem dX7_pay_42 : decode cX7_pay 42 = .ok (.iload_n 1, 1) := by decide +kernel
theorem dX7_pay_43 : decode cX7_pay 43 = .ok (.iadd, 1) := by decide +kernel
theorem dX7_pay_44 : decode cX7_pay 44 = .ok (.iconst 0, 1) := by decide +kernel
theorem dX7_pay_45 : decode cX7_pay 45 = .ok (.iastore, 1) := by decide +kernel
theorem dX7_pay_46 : decode cX7_pay 46 = .ok (.iload_n 2, 1) := by decide +kernel
theorem dX7_pay_47 : decode cX7_pay 47 = .ok (.ireturn, 1) := by decide +kernel
theorem dX7_pass_0 : decode cX7_pass 0 = .ok (.aload_n 0, 1) := by decide +kernel
theorem dX7_pass_1 : decode cX7_pass 1 = .ok (.iload_n 1, 1) := by decide +kernel
theorem dX7_pass_2 : decode cX7_pass 2 = .ok (.i2l, 1) := by decide +kernel
theorem dX7_pass_3 : decode cX7_pass 3 = .ok (.lconst 1, 1) := by decide +kernel
theorem dX7_pass_4 : decode cX7_pass 4 = .ok (.ldc2_w 199, 3) := by decide +kernel
theorem dX7_pass_7 : decode cX7_pass 7 = .ok (.invokestatic 103, 3) := by decide +kernel
theorem dX7_pass_10 : decode cX7_pass 10 = .ok (.ifCond .ne 7, 3) := by decide +kernel
theorem dX7_pass_13 : decode cX7_pass 13 = .ok (.iconst 1, 1) := by decide +kernel
theorem dX7_pass_14 : decode cX7_pass 14 = .ok (.goto 22, 3) := by decide +kernel
theorem dX7_pass_17 : decode cX7_pass 17 = .ok (.aload_n 0, 1) := by decide +kernel
theorem dX7_pass_18 : decode cX7_pass 18 = .ok (.getfield 16, 3) := by decide +kernel
theorem dX7_pass_21 : decode cX7_pass 21 = .ok (.iconst 0, 1) := by decide +kernel
theorem dX7_pass_22 : decode cX7_pass 22 = .ok (.iaload, 1) := by decide +kernel
theorem dX7_pass_23 : decode cX7_pass 23 = .ok (.iload_n 1, 1) := by decide +kernel
theorem dX7_pass_24 : decode cX7_pass 24 = .ok (.iadd, 1) := by decide +kernel
theorem dX7_pass_25 : decode cX7_pass 25 = .ok (.sipush 240, 3) := by decide +kernel
theorem dX7_pass_28 : decode cX7_pass 28 = .ok (.if_icmp .le 7, 3) := by decide +kernel
theorem dX7_pass_31 : decode cX7_pass 31 = .ok (.iconst 2, 1) := by decide +kernel
theorem dX7_pass_32 : decode cX7_pass 32 = .ok (.goto 4, 3) := by decide +kernel
theorem dX7_pass_35 : decode cX7_pass 35 = .ok (.iconst 0, 1) := by decide +kernel
theorem dX7_pass_36 : decode cX7_pass 36 = .ok (.invokevirtual 110, 3) := by decide +kernel
theorem dX7_pass_39 : decode cX7_pass 39 = .ok (.ifCond .eq 5, 3) := by decide +kernel
theorem dX7_pass_42 : decode cX7_pass 42 = .ok (.iconst 0, 1) := by decide +kernel
theorem dX7_pass_43 : decode cX7_pass 43 = .ok (.ireturn, 1) := by decide +kernel
theorem dX7_pass_44 : decode cX7_pass 44 = .ok (.aload_n 0, 1) := by decide +kernel
theorem dX7_pass_45 : decode cX7_pass 45 = .ok (.invokevirtual 172, 3) := by decide +kernel
theorem dX7_pass_48 : decode cX7_pass 48 = .ok (.aload_n 0, 1) := by decide +kernel
theorem dX7_pass_49 : decode cX7_pass 49 = .ok (.getfield 16, 3) := by decide +kernel
theorem dX7_pass_52 : decode cX7_pass 52 = .ok (.iconst 5, 1) := by decide +kernel
theorem dX7_pass_53 : decode cX7_pass 53 = .ok (.iaload, 1) := by decide +kernel
theorem dX7_pass_54 : decode cX7_pass 54 = .ok (.istore_n 2, 1) := by decide +kernel
theorem dX7_pass_55 : decode cX7_pass 55 = .ok (.aload_n 0, 1) := by decide +kernel
theorem dX7_pass_56 : decode cX7_pass 56 = .ok (.getfield 16, 3) := by decide +kernel
theorem dX7_pass_59 : decode cX7_pass 59 = .ok (.iload_n 1, 1) := by decide +kernel
theorem dX7_pass_60 : decode cX7_pass 60 = .ok (.invokestatic 94, 3) := by decide +kernel
theorem dX7_pass_63 : decode cX7_pass 63 = .ok (.aload_n 0, 1) := by decide +kernel
theorem dX7_pass_64 : decode cX7_pass 64 = .ok (.getfield 16, 3) := by decide +kernel
theorem dX7_pass_67 : decode cX7_pass 67 = .ok (.iconst 5, 1) := by decide +kernel
theorem dX7_pass_68 : decode cX7_pass 68 = .ok (.iaload, 1) := by decide +kernel
theorem dX7_pass_69 : decode cX7_pass 69 = .ok (.iload_n 2, 1) := by decide +kernel
theorem dX7_pass_70 : decode cX7_pass 70 = .ok (.isub, 1) := by decide +kernel
theorem dX7_pass_71 : decode cX7_pass 71 = .ok (.ireturn, 1) := by decide +kernel
theorem dX7_undo_0 : decode cX7_undo 0 = .ok (.aload_n 0, 1) := by decide +kernel
theorem dX7_undo_1 : decode cX7_undo 1 = .ok (.aload_n 0, 1) := by decide +kernel
theorem dX7_undo_2 : decode cX7_undo 2 = .ok (.getfield 42, 3) := by decide +kernel
theorem dX7_undo_5 : decode cX7_undo 5 = .ok (.ifCond .ne 7, 3) := by decide +kernel
theorem dX7_undo_8 : decode cX7_undo 8 = .ok (.iconst 1, 1) := by decide +kernel
theorem dX7_undo_9 : decode cX7_undo 9 = .ok (.goto 4, 3) := by decide +kernel
theorem dX7_undo_12 : decode cX7_undo 12 = .ok (.iconst 0, 1) := by decide +kernel
theorem dX7_undo_13 : decode cX7_undo 13 = .ok (.invokevirtual 110, 3) := by decide +kernel
theorem dX7_undo_16 : decode cX7_undo 16 = .ok (.ifCond .eq 5, 3) := by decide +kernel
theorem dX7_undo_19 : decode cX7_undo 19 = .ok (.iconst 0, 1) := by decide +kernel
theorem dX7_undo_20 : decode cX7_undo 20 = .ok (.ireturn, 1) := by decide +kernel
theorem dX7_undo_21 : decode cX7_undo 21 = .ok (.aload_n 0, 1) := by decide +kernel
theorem dX7_undo_22 : decode cX7_undo 22 = .ok (.dup, 1) := by decide +kernel
theorem dX7_undo_23 : decode cX7_undo 23 = .ok (.getfield 42, 3) := by decide +kernel
theorem dX7_undo_26 : decode cX7_undo 26 = .ok (.iconst 1, 1) := by decide +kernel
theorem dX7_undo_27 : decode cX7_undo 27 = .ok (.isub, 1) := by decide +kernel
theorem dX7_undo_28 : decode cX7_undo 28 = .ok (.putfield 42, 3) := by decide +kernel
theorem dX7_undo_31 : decode cX7_undo 31 = .ok (.aload_n 0, 1) := by decide +kernel
theorem dX7_undo_32 : decode cX7_undo 32 = .ok (.getfield 22, 3) := by decide +kernel
theorem dX7_undo_35 : decode cX7_undo 35 = .ok (.sipush 151, 3) := by decide +kernel
theorem dX7_undo_38 : decode cX7_undo 38 = .ok (.aload_n 0, 1) := by decide +kernel
theorem dX7_undo_39 : decode cX7_undo 39 = .ok (.getfield 42, 3) := by decide +kernel
theorem dX7_undo_42 : decode cX7_undo 42 = .ok (.imul, 1) := by decide +kernel
theorem dX7_undo_43 : decode cX7_undo 43 = .ok (.aload_n 0, 1) := by decide +kernel
theorem dX7_undo_44 : decode cX7_undo 44 = .ok (.getfield 16, 3) := by decide +kernel
theorem dX7_undo_47 : decode cX7_undo 47 = .ok (.iconst 0, 1) := by decide +kernel
theorem dX7_undo_48 : decode cX7_undo 48 = .ok (.sipush 151, 3) := by decide +kernel
theorem dX7_undo_51 : decode cX7_undo 51 = .ok (.invokestatic 45, 3) := by decide +kernel
theorem dX7_undo_54 : decode cX7_undo 54 = .ok (.aload_n 0, 1) := by decide +kernel
theorem dX7_undo_55 : decode cX7_undo 55 = .ok (.getfield 42, 3) := by decide +kernel
theorem dX7_undo_58 : decode cX7_undo 58 = .ok (.ireturn, 1) := by decide +kernel
theorem dX7_later_0 : decode cX7_later 0 = .ok (.aload_n 0, 1) := by decide +kernel
theorem dX7_later_1 : decode cX7_later 1 = .ok (.aload_n 0, 1) := by decide +kernel
theorem dX7_later_2 : decode cX7_later 2 = .ok (.iload_n 1, 1) := by decide +kernel
theorem dX7_later_3 : decode cX7_later 3 = .ok (.invokevirtual 157, 3) := by decide +kernel
theorem dX7_later_6 : decode cX7_later 6 = .ok (.ifCond .ne 7, 3) := by decide +kernel
theorem dX7_later_9 : decode cX7_later 9 = .ok (.iconst 1, 1) := by decide +kernel
theorem dX7_later_10 : decode cX7_later 10 = .ok (.goto 20, 3) := by decide +kernel
theorem dX7_later_13 : decode cX7_later 13 = .ok (.iload_n 2, 1) := by decide +kernel
theorem dX7_later_14 : decode cX7_later 14 = .ok (.i2l, 1) := by decide +kernel
theorem dX7_later_15 : decode cX7_later 15 = .ok (.lconst 0, 1) := by decide +kernel
theorem dX7_later_16 : decode cX7_later 16 = .ok (.ldc2_w 199, 3) := by decide +kernel
theorem dX7_later_19 : decode cX7_later 19 = .ok (.invokestatic 103, 3) := by decide +kernel
theorem dX7_later_22 : decode cX7_later 22 = .ok (.ifCond .eq 7, 3) := by decide +kernel
theorem dX7_later_25 : decode cX7_later 25 = .ok (.iconst 0, 1) := by decide +kernel
theorem dX7_later_26 : decode cX7_later 26 = .ok (.goto 4, 3) := by decide +kernel
theorem dX7_later_29 : decode cX7_later 29 = .ok (.iconst 2, 1) := by decide +kernel
theorem dX7_later_30 : decode cX7_later 30 = .ok (.invokevirtual 110, 3) := by decide +kernel
theorem dX7_later_33 : decode cX7_later 33 = .ok (.ifCond .eq 5, 3) := by decide +kernel
theorem dX7_later_36 : decode cX7_later 36 = .ok (.iconst 0, 1) := by decide +kernel
theorem dX7_later_37 : decode cX7_later 37 = .ok (.ireturn, 1) := by decide +kernel
theorem dX7_later_38 : decode cX7_later 38 = .ok (.aload_n 0, 1) := by decide +kernel
theorem dX7_later_39 : decode cX7_later 39 = .ok (.invokevirtual 201, 3) := by decide +kernel
theorem dX7_later_42 : decode cX7_later 42 = .ok (.aload_n 0, 1) := by decide +kernel
theorem dX7_later_43 : decode cX7_later 43 = .ok (.getfield 19, 3) := by decide +kernel
theorem dX7_later_46 : decode cX7_later 46 = .ok (.iload_n 2, 1) := by decide +kernel
theorem dX7_later_47 : decode cX7_later 47 = .ok (.invokestatic 94, 3) := by decide +kernel
theorem dX7_later_50 : decode cX7_later 50 = .ok (.aload_n 0, 1) := by decide +kernel
theorem dX7_later_51 : decode cX7_later 51 = .ok (.getfield 19, 3) := by decide +kernel
theorem dX7_later_54 : decode cX7_later 54 = .ok (.iload_n 1, 1) := by decide +kernel
theorem dX7_later_55 : decode cX7_later 55 = .ok (.iconst 3, 1) := by decide +kernel
theorem dX7_later_56 : decode cX7_later 56 = .ok (.invokestatic 61, 3) := by decide +kernel
theorem dX7_later_59 : decode cX7_later 59 = .ok (.iaload, 1) := by decide +kernel
theorem dX7_later_60 : decode cX7_later 60 = .ok (.ireturn, 1) := by decide +kernel
theorem dX7_begins_0 : decode cX7_begins 0 = .ok (.aload_n 0, 1) := by decide +kernel
theorem dX7_begins_1 : decode cX7_begins 1 = .ok (.aload_n 0, 1) := by decide +kernel
theorem dX7_begins_2 : decode cX7_begins 2 = .ok (.iload_n 1, 1) := by decide +kernel
theorem dX7_begins_3 : decode cX7_begins 3 = .ok (.invokevirtual 165, 3) := by decide +kernel
theorem dX7_begins_6 : decode cX7_begins 6 = .ok (.ifCond .eq 7, 3) := by decide +kernel
theorem dX7_begins_9 : decode cX7_begins 9 = .ok (.iconst 0, 1) := by decide +kernel
theorem dX7_begins_10 : decode cX7_begins 10 = .ok (.goto 4, 3) := by decide +kernel
theorem dX7_begins_13 : decode cX7_begins 13 = .ok (.iconst 1, 1) := by decide +kernel
theorem dX7_begins_14 : decode cX7_begins 14 = .ok (.invokevirtual 110, 3) := by decide +kernel
theorem dX7_begins_17 : decode cX7_begins 17 = .ok (.ifCond .eq 5, 3) := by decide +kernel
theorem dX7_begins_20 : decode cX7_begins 20 = .ok (.iconst 0, 1) := by decide +kernel
theorem dX7_begins_21 : decode cX7_begins 21 = .ok (.ireturn, 1) := by decide +kernel
theorem dX7_begins_22 : decode cX7_begins 22 = .ok (.aload_n 0, 1) := by decide +kernel
theorem dX7_begins_23 : decode cX7_begins 23 = .ok (.invokevirtual 201, 3) := by decide +kernel
theorem dX7_begins_26 : decode cX7_begins 26 = .ok (.aload_n 0, 1) := by decide +kernel
theorem dX7_begins_27 : decode cX7_begins 27 = .ok (.getfield 19, 3) := by decide +kernel
theorem dX7_begins_30 : decode cX7_begins 30 = .ok (.iload_n 1, 1) := by decide +kernel
theorem dX7_begins_31 : decode cX7_begins 31 = .ok (.invokestatic 57, 3) := by decide +kernel
theorem dX7_begins_34 : decode cX7_begins 34 = .ok (.ifCond .ne 41, 3) := by decide +kernel
theorem dX7_begins_37 : decode cX7_begins 37 = .ok (.aload_n 0, 1) := by decide +kernel
theorem dX7_begins_38 : decode cX7_begins 38 = .ok (.getfield 19, 3) := by decide +kernel
theorem dX7_begins_41 : decode cX7_begins 41 = .ok (.aload_n 0, 1) := by decide +kernel
theorem dX7_begins_42 : decode cX7_begins 42 = .ok (.getfield 19, 3) := by decide +kernel
theorem dX7_begins_45 : decode cX7_begins 45 = .ok (.iload_n 1, 1) := by decide +kernel
theorem dX7_begins_46 : decode cX7_begins 46 = .ok (.iconst 0, 1) := by decide +kernel
theorem dX7_begins_47 : decode cX7_begins 47 = .ok (.invokestatic 49, 3) := by decide +kernel
theorem dX7_begins_50 : decode cX7_begins 50 = .ok (.iaload, 1) := by decide +kernel
theorem dX7_begins_51 : decode cX7_begins 51 = .ok (.invokestatic 77, 3) := by decide +kernel
theorem dX7_begins_54 : decode cX7_begins 54 = .ok (.iload_n 1, 1) := by decide +kernel
theorem dX7_begins_55 : decode cX7_begins 55 = .ok (.if_icmp .ne 10, 3) := by decide +kernel
theorem dX7_begins_58 : decode cX7_begins 58 = .ok (.aload_n 0, 1) := by decide +kernel
theorem dX7_begins_59 : decode cX7_begins 59 = .ok (.getfield 19, 3) := by decide +kernel
theorem dX7_begins_62 : decode cX7_begins 62 = .ok (.iconst 0, 1) := by decide +kernel
theorem dX7_begins_63 : decode cX7_begins 63 = .ok (.iaload, 1) := by decide +kernel
theorem dX7_begins_64 : decode cX7_begins 64 = .ok (.ireturn, 1) := by decide +kernel
theorem dX7_begins_65 : decode cX7_begins 65 = .ok (.aload_n 0, 1) := by decide +kernel
theorem dX7_begins_66 : decode cX7_begins 66 = .ok (.getfield 19, 3) := by decide +kernel
theorem dX7_begins_69 : decode cX7_begins 69 = .ok (.invokestatic 91, 3) := by decide +kernel
theorem dX7_begins_72 : decode cX7_begins 72 = .ok (.goto (-46), 3) := by decide +kernel
theorem dX7_begins_75 : decode cX7_begins 75 = .ok (.bipush (-99), 2) := by decide +kernel
theorem dX7_begins_77 : decode cX7_begins 77 = .ok (.ireturn, 1) := by decide +kernel
theorem dX7_cost_0 : decode cX7_cost 0 = .ok (.aload_n 0, 1) := by decide +kernel
theorem dX7_cost_1 : decode cX7_cost 1 = .ok (.iload_n 1, 1) := by decide +kernel
theorem dX7_cost_2 : decode cX7_cost 2 = .ok (.invokevirtual 157, 3) := by decide +kernel
theorem dX7_cost_5 : decode cX7_cost 5 = .ok (.ifCond .eq 15, 3) := by decide +kernel
theorem dX7_cost_8 : decode cX7_cost 8 = .ok (.aload_n 0, 1) := by decide +kernel
theorem dX7_cost_9 : decode cX7_cost 9 = .ok (.iload_n 2, 1) := by decide +kernel
theorem dX7_cost_10 : decode cX7_cost 10 = .ok (.invokevirtual 162, 3) := by decide +kernel
theorem dX7_cost_13 : decode cX7_cost 13 = .ok (.ifCond .eq 7, 3) := by decide +kernel
theorem dX7_cost_16 : decode cX7_cost 16 = .ok (.iconst 1, 1) := by decide +kernel
theorem dX7_cost_17 : decode cX7_cost 17 = .ok (.goto 4, 3) := by decide +kernel
theorem dX7_cost_20 : decode cX7_cost 20 = .ok (.iconst 0, 1) := by decide +kernel
theorem dX7_cost_21 : decode cX7_cost 21 = .ok (.istore 6, 2) := by decide +kernel
theorem dX7_cost_23 : decode cX7_cost 23 = .ok (.aload_n 0, 1) := by decide +kernel
theorem dX7_cost_24 : decode cX7_cost 24 = .ok (.iload 6, 2) := by decide +kernel
theorem dX7_cost_26 : decode cX7_cost 26 = .ok (.ifCond .ne 7, 3) := by decide +kernel
theorem dX7_cost_29 : decode cX7_cost 29 = .ok (.iconst 1, 1) := by decide +kernel
theorem dX7_cost_30 : decode cX7_cost 30 = .ok (.goto 20, 3) := by decide +kernel
theorem dX7_cost_33 : decode cX7_cost 33 = .ok (.aload_n 0, 1) := by decide +kernel
theorem dX7_cost_34 : decode cX7_cost 34 = .ok (.iload_n 3, 1) := by decide +kernel
theorem dX7_cost_35 : decode cX7_cost 35 = .ok (.iload 4, 2) := by decide +kernel
theorem dX7_cost_37 : decode cX7_cost 37 = .ok (.iload 5, 2) := by decide +kernel
theorem dX7_cost_39 : decode cX7_cost 39 = .ok (.invokevirtual 181, 3) := by decide +kernel
theorem dX7_cost_42 : decode cX7_cost 42 = .ok (.ifCond .eq 7, 3) := by decide +kernel
theorem dX7_cost_45 : decode cX7_cost 45 = .ok (.iconst 0, 1) := by decide +kernel
theorem dX7_cost_46 : decode cX7_cost 46 = .ok (.goto 4, 3) := by decide +kernel
theorem dX7_cost_49 : decode cX7_cost 49 = .ok (.iconst 2, 1) := by decide +kernel
theorem dX7_cost_50 : decode cX7_cost 50 = .ok (.invokevirtual 110, 3) := by decide +kernel
theorem dX7_cost_53 : decode cX7_cost 53 = .ok (.ifCond .eq 5, 3) := by decide +kernel
theorem dX7_cost_56 : decode cX7_cost 56 = .ok (.iconst 0, 1) := by decide +kernel
theorem dX7_cost_57 : decode cX7_cost 57 = .ok (.ireturn, 1) := by decide +kernel
theorem dX7_cost_58 : decode cX7_cost 58 = .ok (.aload_n 0, 1) := by decide +kernel
theorem dX7_cost_59 : decode cX7_cost 59 = .ok (.getfield 16, 3) := by decide +kernel
theorem dX7_cost_62 : decode cX7_cost 62 = .ok (.iload_n 1, 1) := by decide +kernel
theorem dX7_cost_63 : decode cX7_cost 63 = .ok (.iload_n 3, 1) := by decide +kernel
theorem dX7_cost_64 : decode cX7_cost 64 = .ok (.iload 4, 2) := by decide +kernel
theorem dX7_cost_66 : decode cX7_cost 66 = .ok (.invokestatic 185, 3) := by decide +kernel
theorem dX7_cost_69 : decode cX7_cost 69 = .ok (.ifCond .ne 6, 3) := by decide +kernel
theorem dX7_cost_72 : decode cX7_cost 72 = .ok (.bipush (-99), 2) := by decide +kernel
theorem dX7_cost_74 : decode cX7_cost 74 = .ok (.ireturn, 1) := by decide +kernel
theorem dX7_cost_75 : decode cX7_cost 75 = .ok (.aload_n 0, 1) := by decide +kernel
theorem dX7_cost_76 : decode cX7_cost 76 = .ok (.invokevirtual 201, 3) := by decide +kernel
theorem dX7_cost_79 : decode cX7_cost 79 = .ok (.aload_n 0, 1) := by decide +kernel
theorem dX7_cost_80 : decode cX7_cost 80 = .ok (.getfield 19, 3) := by decide +kernel
theorem dX7_cost_83 : decode cX7_cost 83 = .ok (.iload_n 3, 1) := by decide +kernel
theorem dX7_cost_84 : decode cX7_cost 84 = .ok (.iload 4, 2) := by decide +kernel
theorem dX7_cost_86 : decode cX7_cost 86 = .ok (.iadd, 1) := by decide +kernel
theorem dX7_cost_87 : decode cX7_cost 87 = .ok (.aload_n 0, 1) := by decide +kernel
theorem dX7_cost_88 : decode cX7_cost 88 = .ok (.getfield 16, 3) := by decide +kernel
theorem dX7_cost_91 : decode cX7_cost 91 = .ok (.iconst 0, 1) := by decide +kernel
theorem dX7_cost_92 : decode cX7_cost 92 = .ok (.iaload, 1) := by decide +kernel
theorem dX7_cost_93 : decode cX7_cost 93 = .ok (.isub, 1) := by decide +kernel
theorem dX7_cost_94 : decode cX7_cost 94 = .ok (.invokestatic 94, 3) := by decide +kernel
theorem dX7_cost_97 : decode cX7_cost 97 = .ok (.aload_n 0, 1) := by decide +kernel
theorem dX7_cost_98 : decode cX7_cost 98 = .ok (.getfield 19, 3) := by decide +kernel
theorem dX7_cost_101 : decode cX7_cost 101 = .ok (.iconst 5, 1) := by decide +kernel
theorem dX7_cost_102 : decode cX7_cost 102 = .ok (.iaload, 1) := by decide +kernel
theorem dX7_cost_103 : decode cX7_cost 103 = .ok (.istore 7, 2) := by decide +kernel
theorem dX7_cost_105 : decode cX7_cost 105 = .ok (.aload_n 0, 1) := by decide +kernel
theorem dX7_cost_106 : decode cX7_cost 106 = .ok (.invokevirtual 201, 3) := by decide +kernel
theorem dX7_cost_109 : decode cX7_cost 109 = .ok (.aload_n 0, 1) := by decide +kernel
theorem dX7_cost_110 : decode cX7_cost 110 = .ok (.getfield 19, 3) := by decide +kernel
theorem dX7_cost_113 : decode cX7_cost 113 = .ok (.iload_n 1, 1) := by decide +kernel
theorem dX7_cost_114 : decode cX7_cost 114 = .ok (.iload_n 2, 1) := by decide +kernel
theorem dX7_cost_115 : decode cX7_cost 115 = .ok (.iload_n 3, 1) := by decide +kernel
theorem dX7_cost_116 : decode cX7_cost 116 = .ok (.iload 4, 2) := by decide +kernel
theorem dX7_cost_118 : decode cX7_cost 118 = .ok (.iload 5, 2) := by decide +kernel
theorem dX7_cost_120 : decode cX7_cost 120 = .ok (.invokestatic 140, 3) := by decide +kernel
theorem dX7_cost_123 : decode cX7_cost 123 = .ok (.aload_n 0, 1) := by decide +kernel
theorem dX7_cost_124 : decode cX7_cost 124 = .ok (.getfield 19, 3) := by decide +kernel
theorem dX7_cost_127 : decode cX7_cost 127 = .ok (.iload_n 3, 1) := by decide +kernel
theorem dX7_cost_128 : decode cX7_cost 128 = .ok (.iload 4, 2) := by decide +kernel
theorem dX7_cost_130 : decode cX7_cost 130 = .ok (.iadd, 1) := by decide +kernel
theorem dX7_cost_131 : decode cX7_cost 131 = .ok (.aload_n 0, 1) := by decide +kernel
theorem dX7_cost_132 : decode cX7_cost 132 = .ok (.getfield 16, 3) := by decide +kernel
theorem dX7_cost_135 : decode cX7_cost 135 = .ok (.iconst 0, 1) := by decide +kernel
theorem dX7_cost_136 : decode cX7_cost 136 = .ok (.iaload, 1) := by decide +kernel
theorem dX7_cost_137 : decode cX7_cost 137 = .ok (.isub, 1) := by decide +kernel
theorem dX7_cost_138 : decode cX7_cost 138 = .ok (.invokestatic 94, 3) := by decide +kernel
theorem dX7_cost_141 : decode cX7_cost 141 = .ok (.aload_n 0, 1) := by decide +kernel
theorem dX7_cost_142 : decode cX7_cost 142 = .ok (.getfield 19, 3) := by decide +kernel
theorem dX7_cost_145 : decode cX7_cost 145 = .ok (.iconst 5, 1) := by decide +kernel
theorem dX7_cost_146 : decode cX7_cost 146 = .ok (.iaload, 1) := by decide +kernel
theorem dX7_cost_147 : decode cX7_cost 147 = .ok (.iload 7, 2) := by decide +kernel
theorem dX7_cost_149 : decode cX7_cost 149 = .ok (.isub, 1) := by decide +kernel
theorem dX7_cost_150 : decode cX7_cost 150 = .ok (.ireturn, 1) := by decide +kernel
theorem dX7_willOwe_0 : decode cX7_willOwe 0 = .ok (.aload_n 0, 1) := by decide +kernel
theorem dX7_willOwe_1 : decode cX7_willOwe 1 = .ok (.aload_n 0, 1) := by decide +kernel
theorem dX7_willOwe_2 : decode cX7_willOwe 2 = .ok (.iload_n 1, 1) := by decide +kernel
theorem dX7_willOwe_3 : decode cX7_willOwe 3 = .ok (.invokevirtual 162, 3) := by decide +kernel
theorem dX7_willOwe_6 : decode cX7_willOwe 6 = .ok (.ifCond .eq 7, 3) := by decide +kernel
theorem dX7_willOwe_9 : decode cX7_willOwe 9 = .ok (.iconst 0, 1) := by decide +kernel
theorem dX7_willOwe_10 : decode cX7_willOwe 10 = .ok (.goto 4, 3) := by decide +kernel
theorem dX7_willOwe_13 : decode cX7_willOwe 13 = .ok (.iconst 1, 1) := by decide +kernel
theorem dX7_willOwe_14 : decode cX7_willOwe 14 = .ok (.invokevirtual 110, 3) := by decide +kernel
theorem dX7_willOwe_17 : decode cX7_willOwe 17 = .ok (.ifCond .eq 5, 3) := by decide +kernel
theorem dX7_willOwe_20 : decode cX7_willOwe 20 = .ok (.iconst 0, 1) := by decide +kernel
theorem dX7_willOwe_21 : decode cX7_willOwe 21 = .ok (.ireturn, 1) := by decide +kernel
theorem dX7_willOwe_22 : decode cX7_willOwe 22 = .ok (.aload_n 0, 1) := by decide +kernel
theorem dX7_willOwe_23 : decode cX7_willOwe 23 = .ok (.invokevirtual 201, 3) := by decide +kernel
theorem dX7_willOwe_26 : decode cX7_willOwe 26 = .ok (.aload_n 0, 1) := by decide +kernel
theorem dX7_willOwe_27 : decode cX7_willOwe 27 = .ok (.getfield 19, 3) := by decide +kernel
theorem dX7_willOwe_30 : decode cX7_willOwe 30 = .ok (.invokestatic 204, 3) := by decide +kernel
theorem dX7_willOwe_33 : decode cX7_willOwe 33 = .ok (.aload_n 0, 1) := by decide +kernel
theorem dX7_willOwe_34 : decode cX7_willOwe 34 = .ok (.getfield 19, 3) := by decide +kernel
theorem dX7_willOwe_37 : decode cX7_willOwe 37 = .ok (.bipush 25, 2) := by decide +kernel
theorem dX7_willOwe_39 : decode cX7_willOwe 39 = .ok (.iload_n 1, 1) := by decide +kernel
theorem dX7_willOwe_40 : decode cX7_willOwe 40 = .ok (.iadd, 1) := by decide +kernel
theorem dX7_willOwe_41 : decode cX7_willOwe 41 = .ok (.iaload, 1) := by decide +kernel
theorem dX7_willOwe_42 : decode cX7_willOwe 42 = .ok (.ireturn, 1) := by decide +kernel
theorem dX7_coldest_0 : decode cX7_coldest 0 = .ok (.aload_n 0, 1) := by decide +kernel
theorem dX7_coldest_1 : decode cX7_coldest 1 = .ok (.iconst 0, 1) := by decide +kernel
theorem dX7_coldest_2 : decode cX7_coldest 2 = .ok (.putfield 36, 3) := by decide +kernel
theorem dX7_coldest_5 : decode cX7_coldest 5 = .ok (.aload_n 0, 1) := by decide +kernel
theorem dX7_coldest_6 : decode cX7_coldest 6 = .ok (.invokevirtual 201, 3) := by decide +kernel
theorem dX7_coldest_9 : decode cX7_coldest 9 = .ok (.aload_n 0, 1) := by decide +kernel
theorem dX7_coldest_10 : decode cX7_coldest 10 = .ok (.getfield 19, 3) := by decide +kernel
theorem dX7_coldest_13 : decode cX7_coldest 13 = .ok (.invokestatic 204, 3) := by decide +kernel
theorem dX7_coldest_16 : decode cX7_coldest 16 = .ok (.bipush (-99), 2) := by decide +kernel
theorem dX7_coldest_18 : decode cX7_coldest 18 = .ok (.istore_n 1, 1) := by decide +kernel
theorem dX7_coldest_19 : decode cX7_coldest 19 = .ok (.iconst 0, 1) := by decide +kernel
theorem dX7_coldest_20 : decode cX7_coldest 20 = .ok (.istore_n 2, 1) := by decide +kernel
theorem dX7_coldest_21 : decode cX7_coldest 21 = .ok (.iload_n 2, 1) := by decide +kernel
theorem dX7_coldest_22 : decode cX7_coldest 22 = .ok (.aload_n 0, 1) := by decide +kernel
theorem dX7_coldest_23 : decode cX7_coldest 23 = .ok (.getfield 19, 3) := by decide +kernel
theorem dX7_coldest_26 : decode cX7_coldest 26 = .ok (.iconst 3, 1) := by decide +kernel
theorem dX7_coldest_27 : decode cX7_coldest 27 = .ok (.iaload, 1) := by decide +kernel
theorem dX7_coldest_28 : decode cX7_coldest 28 = .ok (.if_icmp .ge 46, 3) := by decide +kernel
theorem dX7_coldest_31 : decode cX7_coldest 31 = .ok (.iload_n 1, 1) := by decide +kernel
theorem dX7_coldest_32 : decode cX7_coldest 32 = .ok (.bipush (-99), 2) := by decide +kernel
theorem dX7_coldest_34 : decode cX7_coldest 34 = .ok (.if_icmp .eq 28, 3) := by decide +kernel
theorem dX7_coldest_37 : decode cX7_coldest 37 = .ok (.aload_n 0, 1) := by decide +kernel
theorem dX7_coldest_38 : decode cX7_coldest 38 = .ok (.getfield 19, 3) := by decide +kernel
theorem dX7_coldest_41 : decode cX7_coldest 41 = .ok (.iload_n 2, 1) := by decide +kernel
theorem dX7_coldest_42 : decode cX7_coldest 42 = .ok (.bipush 8, 2) := by decide +kernel
theorem dX7_coldest_44 : decode cX7_coldest 44 = .ok (.invokestatic 49, 3) := by decide +kernel
theorem dX7_coldest_47 : decode cX7_coldest 47 = .ok (.iaload, 1) := by decide +kernel
theorem dX7_coldest_48 : decode cX7_coldest 48 = .ok (.aload_n 0, 1) := by decide +kernel
theorem dX7_coldest_49 : decode cX7_coldest 49 = .ok (.getfield 19, 3) := by decide +kernel
theorem dX7_coldest_52 : decode cX7_coldest 52 = .ok (.iload_n 1, 1) := by decide +kernel
theorem dX7_coldest_53 : decode cX7_coldest 53 = .ok (.bipush 8, 2) := by decide +kernel
theorem dX7_coldest_55 : decode cX7_coldest 55 = .ok (.invokestatic 49, 3) := by decide +kernel
theorem dX7_coldest_58 : decode cX7_coldest 58 = .ok (.iaload, 1) := by decide +kernel
theorem dX7_coldest_59 : decode cX7_coldest 59 = .ok (.if_icmp .le 7, 3) := by decide +kernel
theorem dX7_coldest_62 : decode cX7_coldest 62 = .ok (.iload_n 2, 1) := by decide +kernel
theorem dX7_coldest_63 : decode cX7_coldest 63 = .ok (.goto 4, 3) := by decide +kernel
theorem dX7_coldest_66 : decode cX7_coldest 66 = .ok (.iload_n 1, 1) := by decide +kernel
theorem dX7_coldest_67 : decode cX7_coldest 67 = .ok (.istore_n 1, 1) := by decide +kernel
theorem dX7_coldest_68 : decode cX7_coldest 68 = .ok (.iinc 2 1, 3) := by decide +kernel
theorem dX7_coldest_71 : decode cX7_coldest 71 = .ok (.goto (-50), 3) := by decide +kernel
theorem dX7_coldest_74 : decode cX7_coldest 74 = .ok (.iload_n 1, 1) := by decide +kernel
theorem dX7_coldest_75 : decode cX7_coldest 75 = .ok (.ireturn, 1) := by decide +kernel
theorem dX7_does_0 : decode cX7_does 0 = .ok (.iload_n 1, 1) := by decide +kernel
theorem dX7_does_1 : decode cX7_does 1 = .ok (.sipush 10000, 3) := by decide +kernel
theorem dX7_does_4 : decode cX7_does 4 = .ok (.idiv, 1) := by decide +kernel
theorem dX7_does_5 : decode cX7_does 5 = .ok (.istore_n 2, 1) := by decide +kernel
theorem dX7_does_6 : decode cX7_does 6 = .ok (.iload_n 1, 1) := by decide +kernel
theorem dX7_does_7 : decode cX7_does 7 = .ok (.sipush 1000, 3) := by decide +kernel
theorem dX7_does_10 : decode cX7_does 10 = .ok (.idiv, 1) := by decide +kernel
theorem dX7_does_11 : decode cX7_does 11 = .ok (.bipush 10, 2) := by decide +kernel
theorem dX7_does_13 : decode cX7_does 13 = .ok (.irem, 1) := by decide +kernel
theorem dX7_does_14 : decode cX7_does 14 = .ok (.istore_n 3, 1) := by decide +kernel
theorem dX7_does_15 : decode cX7_does 15 = .ok (.iload_n 1, 1) := by decide +kernel
theorem dX7_does_16 : decode cX7_does 16 = .ok (.bipush 100, 2) := by decide +kernel
theorem dX7_does_18 : decode cX7_does 18 = .ok (.idiv, 1) := by decide +kernel
theorem dX7_does_19 : decode cX7_does 19 = .ok (.bipush 10, 2) := by decide +kernel
theorem dX7_does_21 : decode cX7_does 21 = .ok (.irem, 1) := by decide +kernel
theorem dX7_does_22 : decode cX7_does 22 = .ok (.istore 4, 2) := by decide +kernel
theorem dX7_does_24 : decode cX7_does 24 = .ok (.iload_n 1, 1) := by decide +kernel
theorem dX7_does_25 : decode cX7_does 25 = .ok (.bipush 100, 2) := by decide +kernel
theorem dX7_does_27 : decode cX7_does 27 = .ok (.irem, 1) := by decide +kernel
theorem dX7_does_28 : decode cX7_does 28 = .ok (.istore 5, 2) := by decide +kernel
theorem dX7_does_30 : decode cX7_does 30 = .ok (.iload_n 1, 1) := by decide +kernel
theorem dX7_does_31 : decode cX7_does 31 = .ok (.bipush 100, 2) := by decide +kernel
theorem dX7_does_33 : decode cX7_does 33 = .ok (.idiv, 1) := by decide +kernel
theorem dX7_does_34 : decode cX7_does 34 = .ok (.bipush 100, 2) := by decide +kernel
theorem dX7_does_36 : decode cX7_does 36 = .ok (.irem, 1) := by decide +kernel
theorem dX7_does_37 : decode cX7_does 37 = .ok (.istore 6, 2) := by decide +kernel
theorem dX7_does_39 : decode cX7_does 39 = .ok (.iload_n 1, 1) := by decide +kernel
theorem dX7_does_40 : decode cX7_does 40 = .ok (.sipush 1000, 3) := by decide +kernel
theorem dX7_does_43 : decode cX7_does 43 = .ok (.irem, 1) := by decide +kernel
theorem dX7_does_44 : decode cX7_does 44 = .ok (.istore 7, 2) := by decide +kernel
theorem dX7_does_46 : decode cX7_does 46 = .ok (.iload_n 2, 1) := by decide +kernel
theorem dX7_does_47 : decode cX7_does 47 = .ok (.tableswitch 409 1 9 #[49, 95, 149, 207, 236, 277, 313, 343, 389], 49) := by decide +kernel
theorem dX7_does_96 : decode cX7_does 96 = .ok (.iload 6, 2) := by decide +kernel
theorem dX7_does_98 : decode cX7_does 98 = .ok (.ifCond .ne 31, 3) := by decide +kernel
theorem dX7_does_101 : decode cX7_does 101 = .ok (.iload 5, 2) := by decide +kernel
theorem dX7_does_103 : decode cX7_does 103 = .ok (.i2l, 1) := by decide +kernel
theorem dX7_does_104 : decode cX7_does 104 = .ok (.lconst 1, 1) := by decide +kernel
theorem dX7_does_105 : decode cX7_does 105 = .ok (.ldc2_w 199, 3) := by decide +kernel
theorem dX7_does_108 : decode cX7_does 108 = .ok (.invokestatic 103, 3) := by decide +kernel
theorem dX7_does_111 : decode cX7_does 111 = .ok (.ifCond .eq 18, 3) := by decide +kernel
theorem dX7_does_114 : decode cX7_does 114 = .ok (.aload_n 0, 1) := by decide +kernel
theorem dX7_does_115 : decode cX7_does 115 = .ok (.getfield 19, 3) := by decide +kernel
theorem dX7_does_118 : decode cX7_does 118 = .ok (.iconst 0, 1) := by decide +kernel
theorem dX7_does_119 : decode cX7_does 119 = .ok (.iaload, 1) := by decide +kernel
theorem dX7_does_120 : decode cX7_does 120 = .ok (.iload 5, 2) := by decide +kernel
theorem dX7_does_122 : decode cX7_does 122 = .ok (.iadd, 1) := by decide +kernel
theorem dX7_does_123 : decode cX7_does 123 = .ok (.sipush 240, 3) := by decide +kernel
theorem dX7_does_126 : decode cX7_does 126 = .ok (.if_icmp .le 5, 3) := by decide +kernel
theorem dX7_does_129 : decode cX7_does 129 = .ok (.iconst 0, 1) := by decide +kernel
theorem dX7_does_130 : decode cX7_does 130 = .ok (.ireturn, 1) := by decide +kernel
theorem dX7_does_131 : decode cX7_does 131 = .ok (.aload_n 0, 1) := by decide +kernel
theorem dX7_does_132 : decode cX7_does 132 = .ok (.getfield 19, 3) := by decide +kernel
theorem dX7_does_135 : decode cX7_does 135 = .ok (.iload 5, 2) := by decide +kernel
theorem dX7_does_137 : decode cX7_does 137 = .ok (.invokestatic 94, 3) := by decide +kernel
theorem dX7_does_140 : decode cX7_does 140 = .ok (.iconst 1, 1) := by decide +kernel
theorem dX7_does_141 : decode cX7_does 141 = .ok (.ireturn, 1) := by decide +kernel
theorem dX7_does_142 : decode cX7_does 142 = .ok (.iload_n 3, 1) := by decide +kernel
theorem dX7_does_143 : decode cX7_does 143 = .ok (.ifCond .ne 29, 3) := by decide +kernel
theorem dX7_does_146 : decode cX7_does 146 = .ok (.iload 4, 2) := by decide +kernel
theorem dX7_does_148 : decode cX7_does 148 = .ok (.iconst 1, 1) := by decide +kernel
theorem dX7_does_149 : decode cX7_does 149 = .ok (.if_icmp .gt 23, 3) := by decide +kernel
theorem dX7_does_152 : decode cX7_does 152 = .ok (.iload 4, 2) := by decide +kernel
theorem dX7_does_154 : decode cX7_does 154 = .ok (.iconst 1, 1) := by decide +kernel
theorem dX7_does_155 : decode cX7_does 155 = .ok (.if_icmp .ne 9, 3) := by decide +kernel
theorem dX7_does_158 : decode cX7_does 158 = .ok (.iload 5, 2) := by decide +kernel
theorem dX7_does_160 : decode cX7_does 160 = .ok (.ineg, 1) := by decide +kernel
theorem dX7_does_161 : decode cX7_does 161 = .ok (.goto 5, 3) := by decide +kernel
theorem dX7_does_164 : decode cX7_does 164 = .ok (.iload 5, 2) := by decide +kernel
theorem dX7_does_166 : decode cX7_does 166 = .ok (.invokestatic 196, 3) := by decide +kernel
theorem dX7_does_169 : decode cX7_does 169 = .ok (.ifCond .ne 5, 3) := by decide +kernel
theorem dX7_does_172 : decode cX7_does 172 = .ok (.iconst 0, 1) := by decide +kernel
theorem dX7_does_173 : decode cX7_does 173 = .ok (.ireturn, 1) := by decide +kernel
theorem dX7_does_174 : decode cX7_does 174 = .ok (.aload_n 0, 1) := by decide +kernel
theorem dX7_does_175 : decode cX7_does 175 = .ok (.getfield 19, 3) := by decide +kernel
theorem dX7_does_178 : decode cX7_does 178 = .ok (.iconst 4, 1) := by decide +kernel
theorem dX7_does_179 : decode cX7_does 179 = .ok (.iload 4, 2) := by decide +kernel
theorem dX7_does_181 : decode cX7_does 181 = .ok (.iconst 1, 1) := by decide +kernel
theorem dX7_does_182 : decode cX7_does 182 = .ok (.if_icmp .ne 9, 3) := by decide +kernel
theorem dX7_does_185 : decode cX7_does 185 = .ok (.iload 5, 2) := by decide +kernel
theorem dX7_does_187 : decode cX7_does 187 = .ok (.ineg, 1) := by decide +kernel
theorem dX7_does_188 : decode cX7_does 188 = .ok (.goto 5, 3) := by decide +kernel
theorem dX7_does_191 : decode cX7_does 191 = .ok (.iload 5, 2) := by decide +kernel
theorem dX7_does_193 : decode cX7_does 193 = .ok (.iastore, 1) := by decide +kernel
theorem dX7_does_194 : decode cX7_does 194 = .ok (.iconst 1, 1) := by decide +kernel
theorem dX7_does_195 : decode cX7_does 195 = .ok (.ireturn, 1) := by decide +kernel
theorem dX7_does_196 : decode cX7_does 196 = .ok (.iload_n 3, 1) := by decide +kernel
theorem dX7_does_197 : decode cX7_does 197 = .ok (.aload_n 0, 1) := by decide +kernel
theorem dX7_does_198 : decode cX7_does 198 = .ok (.getfield 19, 3) := by decide +kernel
theorem dX7_does_201 : decode cX7_does 201 = .ok (.iconst 1, 1) := by decide +kernel
theorem dX7_does_202 : decode cX7_does 202 = .ok (.iaload, 1) := by decide +kernel
theorem dX7_does_203 : decode cX7_does 203 = .ok (.if_icmp .ge 27, 3) := by decide +kernel
theorem dX7_does_206 : decode cX7_does 206 = .ok (.iload 4, 2) := by decide +kernel
theorem dX7_does_208 : decode cX7_does 208 = .ok (.iconst 1, 1) := by decide +kernel
theorem dX7_does_209 : decode cX7_does 209 = .ok (.if_icmp .gt 21, 3) := by decide +kernel
theorem dX7_does_212 : decode cX7_does 212 = .ok (.iload 5, 2) := by decide +kernel
theorem dX7_does_214 : decode cX7_does 214 = .ok (.ifCond .ne 16, 3) := by decide +kernel
theorem dX7_does_217 : decode cX7_does 217 = .ok (.aload_n 0, 1) := by decide +kernel
theorem dX7_does_218 : decode cX7_does 218 = .ok (.getfield 19, 3) := by decide +kernel
theorem dX7_does_221 : decode cX7_does 221 = .ok (.iload_n 3, 1) := by decide +kernel
theorem dX7_does_222 : decode cX7_does 222 = .ok (.invokestatic 67, 3) := by decide +kernel
theorem dX7_does_225 : decode cX7_does 225 = .ok (.bipush (-99), 2) := by decide +kernel
theorem dX7_does_227 : decode cX7_does 227 = .ok (.if_icmp .ne 5, 3) := by decide +kernel
theorem dX7_does_230 : decode cX7_does 230 = .ok (.iconst 0, 1) := by decide +kernel
theorem dX7_does_231 : decode cX7_does 231 = .ok (.ireturn, 1) := by decide +kernel
theorem dX7_does_232 : decode cX7_does 232 = .ok (.aload_n 0, 1) := by decide +kernel
theorem dX7_does_233 : decode cX7_does 233 = .ok (.getfield 19, 3) := by decide +kernel
theorem dX7_does_236 : decode cX7_does 236 = .ok (.aload_n 0, 1) := by decide +kernel
theorem dX7_does_237 : decode cX7_does 237 = .ok (.getfield 19, 3) := by decide +kernel
theorem dX7_does_240 : decode cX7_does 240 = .ok (.iload_n 3, 1) := by decide +kernel
theorem dX7_does_241 : decode cX7_does 241 = .ok (.invokestatic 67, 3) := by decide +kernel
theorem dX7_does_244 : decode cX7_does 244 = .ok (.bipush 7, 2) := by decide +kernel
theorem dX7_does_246 : decode cX7_does 246 = .ok (.invokestatic 49, 3) := by decide +kernel
theorem dX7_does_249 : decode cX7_does 249 = .ok (.iload 4, 2) := by decide +kernel
theorem dX7_does_251 : decode cX7_does 251 = .ok (.iastore, 1) := by decide +kernel
theorem dX7_does_252 : decode cX7_does 252 = .ok (.iconst 1, 1) := by decide +kernel
theorem dX7_does_253 : decode cX7_does 253 = .ok (.ireturn, 1) := by decide +kernel
theorem dX7_does_254 : decode cX7_does 254 = .ok (.iload_n 3, 1) := by decide +kernel
theorem dX7_does_255 : decode cX7_does 255 = .ok (.aload_n 0, 1) := by decide +kernel
theorem dX7_does_256 : decode cX7_does 256 = .ok (.getfield 19, 3) := by decide +kernel
theorem dX7_does_259 : decode cX7_does 259 = .ok (.iconst 2, 1) := by decide +kernel
theorem dX7_does_260 : decode cX7_does 260 = .ok (.iaload, 1) := by decide +kernel
theorem dX7_does_261 : decode cX7_does 261 = .ok (.if_icmp .ge 8, 3) := by decide +kernel
theorem dX7_does_264 : decode cX7_does 264 = .ok (.iload 7, 2) := by decide +kernel
theorem dX7_does_266 : decode cX7_does 266 = .ok (.ifCond .eq 5, 3) := by decide +kernel
theorem dX7_does_269 : decode cX7_does 269 = .ok (.iconst 0, 1) := by decide +kernel
theorem dX7_does_270 : decode cX7_does 270 = .ok (.ireturn, 1) := by decide +kernel
theorem dX7_does_271 : decode cX7_does 271 = .ok (.aload_n 0, 1) := by decide +kernel
theorem dX7_does_272 : decode cX7_does 272 = .ok (.getfield 19, 3) := by decide +kernel
theorem dX7_does_275 : decode cX7_does 275 = .ok (.bipush 25, 2) := by decide +kernel
theorem dX7_does_277 : decode cX7_does 277 = .ok (.iload_n 3, 1) := by decide +kernel
theorem dX7_does_278 : decode cX7_does 278 = .ok (.iadd, 1) := by decide +kernel
theorem dX7_does_279 : decode cX7_does 279 = .ok (.iconst 0, 1) := by decide +kernel
theorem dX7_does_280 : decode cX7_does 280 = .ok (.iastore, 1) := by decide +kernel
theorem dX7_does_281 : decode cX7_does 281 = .ok (.iconst 1, 1) := by decide +kernel
theorem dX7_does_282 : decode cX7_does 282 = .ok (.ireturn, 1) := by decide +kernel
theorem dX7_does_283 : decode cX7_does 283 = .ok (.iload 6, 2) := by decide +kernel
theorem dX7_does_285 : decode cX7_does 285 = .ok (.aload_n 0, 1) := by decide +kernel
theorem dX7_does_286 : decode cX7_does 286 = .ok (.getfield 19, 3) := by decide +kernel
theorem dX7_does_289 : decode cX7_does 289 = .ok (.iconst 3, 1) := by decide +kernel
theorem dX7_does_290 : decode cX7_does 290 = .ok (.iaload, 1) := by decide +kernel
theorem dX7_does_291 : decode cX7_does 291 = .ok (.if_icmp .ge 20, 3) := by decide +kernel
theorem dX7_does_294 : decode cX7_does 294 = .ok (.iload 5, 2) := by decide +kernel
theorem dX7_does_296 : decode cX7_does 296 = .ok (.ifCond .ne 15, 3) := by decide +kernel
theorem dX7_does_299 : decode cX7_does 299 = .ok (.aload_n 0, 1) := by decide +kernel
theorem dX7_does_300 : decode cX7_does 300 = .ok (.getfield 19, 3) := by decide +kernel
theorem dX7_does_303 : decode cX7_does 303 = .ok (.iload 6, 2) := by decide +kernel
theorem dX7_does_305 : decode cX7_does 305 = .ok (.invokestatic 188, 3) := by decide +kernel
theorem dX7_does_308 : decode cX7_does 308 = .ok (.ifCond .ne 5, 3) := by decide +kernel
theorem dX7_does_311 : decode cX7_does 311 = .ok (.iconst 0, 1) := by decide +kernel
theorem dX7_does_312 : decode cX7_does 312 = .ok (.ireturn, 1) := by decide +kernel
theorem dX7_does_313 : decode cX7_does 313 = .ok (.aload_n 0, 1) := by decide +kernel
theorem dX7_does_314 : decode cX7_does 314 = .ok (.getfield 19, 3) := by decide +kernel
theorem dX7_does_317 : decode cX7_does 317 = .ok (.iload 6, 2) := by decide +kernel
theorem dX7_does_319 : decode cX7_does 319 = .ok (.invokestatic 191, 3) := by decide +kernel
theorem dX7_does_322 : decode cX7_does 322 = .ok (.iconst 1, 1) := by decide +kernel
theorem dX7_does_323 : decode cX7_does 323 = .ok (.ireturn, 1) := by decide +kernel
theorem dX7_does_324 : decode cX7_does 324 = .ok (.iload_n 3, 1) := by decide +kernel
theorem dX7_does_325 : decode cX7_does 325 = .ok (.aload_n 0, 1) := by decide +kernel
theorem dX7_does_326 : decode cX7_does 326 = .ok (.getfield 19, 3) := by decide +kernel
theorem dX7_does_329 : decode cX7_does 329 = .ok (.iconst 1, 1) := by decide +kernel
theorem dX7_does_330 : decode cX7_does 330 = .ok (.iaload, 1) := by decide +kernel
theorem dX7_does_331 : decode cX7_does 331 = .ok (.if_icmp .ge 27, 3) := by decide +kernel
theorem dX7_does_334 : decode cX7_does 334 = .ok (.iload 4, 2) := by decide +kernel
theorem dX7_does_336 : decode cX7_does 336 = .ok (.ifCond .ne 22, 3) := by decide +kernel
theorem dX7_does_339 : decode cX7_does 339 = .ok (.aload_n 0, 1) := by decide +kernel
theorem dX7_does_340 : decode cX7_does 340 = .ok (.getfield 19, 3) := by decide +kernel
theorem dX7_does_343 : decode cX7_does 343 = .ok (.iload_n 3, 1) := by decide +kernel
theorem dX7_does_344 : decode cX7_does 344 = .ok (.iconst 3, 1) := by decide +kernel
theorem dX7_does_345 : decode cX7_does 345 = .ok (.invokestatic 61, 3) := by decide +kernel
theorem dX7_does_348 : decode cX7_does 348 = .ok (.iaload, 1) := by decide +kernel
theorem dX7_does_349 : decode cX7_does 349 = .ok (.iload 5, 2) := by decide +kernel
theorem dX7_does_351 : decode cX7_does 351 = .ok (.if_icmp .lt 7, 3) := by decide +kernel
theorem dX7_does_354 : decode cX7_does 354 = .ok (.iconst 1, 1) := by decide +kernel
theorem dX7_does_355 : decode cX7_does 355 = .ok (.goto 4, 3) := by decide +kernel
theorem dX7_does_358 : decode cX7_does 358 = .ok (.iconst 0, 1) := by decide +kernel
theorem dX7_does_359 : decode cX7_does 359 = .ok (.ireturn, 1) := by decide +kernel
theorem dX7_does_360 : decode cX7_does 360 = .ok (.iload_n 3, 1) := by decide +kernel
theorem dX7_does_361 : decode cX7_does 361 = .ok (.aload_n 0, 1) := by decide +kernel
theorem dX7_does_362 : decode cX7_does 362 = .ok (.getfield 19, 3) := by decide +kernel
theorem dX7_does_365 : decode cX7_does 365 = .ok (.iconst 2, 1) := by decide +kernel
theorem dX7_does_366 : decode cX7_does 366 = .ok (.iaload, 1) := by decide +kernel
theorem dX7_does_367 : decode cX7_does 367 = .ok (.if_icmp .ge 21, 3) := by decide +kernel
theorem dX7_does_370 : decode cX7_does 370 = .ok (.aload_n 0, 1) := by decide +kernel
theorem dX7_does_371 : decode cX7_does 371 = .ok (.getfield 19, 3) := by decide +kernel
theorem dX7_does_374 : decode cX7_does 374 = .ok (.bipush 25, 2) := by decide +kernel
theorem dX7_does_376 : decode cX7_does 376 = .ok (.iload_n 3, 1) := by decide +kernel
theorem dX7_does_377 : decode cX7_does 377 = .ok (.iadd, 1) := by decide +kernel
theorem dX7_does_378 : decode cX7_does 378 = .ok (.iaload, 1) := by decide +kernel
theorem dX7_does_379 : decode cX7_does 379 = .ok (.iload 7, 2) := by decide +kernel
theorem dX7_does_381 : decode cX7_does 381 = .ok (.if_icmp .gt 7, 3) := by decide +kernel
theorem dX7_does_384 : decode cX7_does 384 = .ok (.iconst 1, 1) := by decide +kernel
theorem dX7_does_385 : decode cX7_does 385 = .ok (.goto 4, 3) := by decide +kernel
theorem dX7_does_388 : decode cX7_does 388 = .ok (.iconst 0, 1) := by decide +kernel
theorem dX7_does_389 : decode cX7_does 389 = .ok (.ireturn, 1) := by decide +kernel
theorem dX7_does_390 : decode cX7_does 390 = .ok (.iload 6, 2) := by decide +kernel
theorem dX7_does_392 : decode cX7_does 392 = .ok (.aload_n 0, 1) := by decide +kernel
theorem dX7_does_393 : decode cX7_does 393 = .ok (.getfield 19, 3) := by decide +kernel
theorem dX7_does_396 : decode cX7_does 396 = .ok (.iconst 3, 1) := by decide +kernel
theorem dX7_does_397 : decode cX7_does 397 = .ok (.iaload, 1) := by decide +kernel
theorem dX7_does_398 : decode cX7_does 398 = .ok (.if_icmp .ge 36, 3) := by decide +kernel
theorem dX7_does_401 : decode cX7_does 401 = .ok (.iload 5, 2) := by decide +kernel
theorem dX7_does_403 : decode cX7_does 403 = .ok (.iconst 2, 1) := by decide +kernel
theorem dX7_does_404 : decode cX7_does 404 = .ok (.if_icmp .ge 30, 3) := by decide +kernel
theorem dX7_does_407 : decode cX7_does 407 = .ok (.aload_n 0, 1) := by decide +kernel
theorem dX7_does_408 : decode cX7_does 408 = .ok (.getfield 19, 3) := by decide +kernel
theorem dX7_does_411 : decode cX7_does 411 = .ok (.iload 6, 2) := by decide +kernel
theorem dX7_does_413 : decode cX7_does 413 = .ok (.invokestatic 57, 3) := by decide +kernel
theorem dX7_does_416 : decode cX7_does 416 = .ok (.iload 5, 2) := by decide +kernel
theorem dX7_does_418 : decode cX7_does 418 = .ok (.iconst 1, 1) := by decide +kernel
theorem dX7_does_419 : decode cX7_does 419 = .ok (.if_icmp .ne 7, 3) := by decide +kernel
theorem dX7_does_422 : decode cX7_does 422 = .ok (.iconst 1, 1) := by decide +kernel
theorem dX7_does_423 : decode cX7_does 423 = .ok (.goto 4, 3) := by decide +kernel
theorem dX7_does_426 : decode cX7_does 426 = .ok (.iconst 0, 1) := by decide +kernel
theorem dX7_does_427 : decode cX7_does 427 = .ok (.if_icmp .ne 7, 3) := by decide +kernel
theorem dX7_does_430 : decode cX7_does 430 = .ok (.iconst 1, 1) := by decide +kernel
theorem dX7_does_431 : decode cX7_does 431 = .ok (.goto 4, 3) := by decide +kernel
theorem dX7_does_434 : decode cX7_does 434 = .ok (.iconst 0, 1) := by decide +kernel
theorem dX7_does_435 : decode cX7_does 435 = .ok (.ireturn, 1) := by decide +kernel
theorem dX7_does_436 : decode cX7_does 436 = .ok (.aload_n 0, 1) := by decide +kernel
theorem dX7_does_437 : decode cX7_does 437 = .ok (.getfield 19, 3) := by decide +kernel
theorem dX7_does_440 : decode cX7_does 440 = .ok (.iconst 5, 1) := by decide +kernel
theorem dX7_does_441 : decode cX7_does 441 = .ok (.iaload, 1) := by decide +kernel
theorem dX7_does_442 : decode cX7_does 442 = .ok (.iload_n 1, 1) := by decide +kernel
theorem dX7_does_443 : decode cX7_does 443 = .ok (.sipush 10000, 3) := by decide +kernel
theorem dX7_does_446 : decode cX7_does 446 = .ok (.irem, 1) := by decide +kernel
theorem dX7_does_447 : decode cX7_does 447 = .ok (.if_icmp .lt 7, 3) := by decide +kernel
theorem dX7_does_450 : decode cX7_does 450 = .ok (.iconst 1, 1) := by decide +kernel
theorem dX7_does_451 : decode cX7_does 451 = .ok (.goto 4, 3) := by decide +kernel
theorem dX7_does_454 : decode cX7_does 454 = .ok (.iconst 0, 1) := by decide +kernel
theorem dX7_does_455 : decode cX7_does 455 = .ok (.ireturn, 1) := by decide +kernel
theorem dX7_does_456 : decode cX7_does 456 = .ok (.iconst 0, 1) := by decide +kernel
theorem dX7_does_457 : decode cX7_does 457 = .ok (.ireturn, 1) := by decide +kernel
theorem dX7_runScript_0 : decode cX7_runScript 0 = .ok (.iload_n 1, 1) := by decide +kernel
theorem dX7_runScript_1 : decode cX7_runScript 1 = .ok (.i2l, 1) := by decide +kernel
theorem dX7_runScript_2 : decode cX7_runScript 2 = .ok (.lconst 1, 1) := by decide +kernel
theorem dX7_runScript_3 : decode cX7_runScript 3 = .ok (.ldc2_w 207, 3) := by decide +kernel
theorem dX7_runScript_6 : decode cX7_runScript 6 = .ok (.invokestatic 103, 3) := by decide +kernel
theorem dX7_runScript_9 : decode cX7_runScript 9 = .ok (.istore 4, 2) := by decide +kernel
theorem dX7_runScript_11 : decode cX7_runScript 11 = .ok (.aload_n 0, 1) := by decide +kernel
theorem dX7_runScript_12 : decode cX7_runScript 12 = .ok (.iload 4, 2) := by decide +kernel
theorem dX7_runScript_14 : decode cX7_runScript 14 = .ok (.ifCond .eq 32, 3) := by decide +kernel
theorem dX7_runScript_17 : decode cX7_runScript 17 = .ok (.lload_n 2, 1) := by decide +kernel
theorem dX7_runScript_18 : decode cX7_runScript 18 = .ok (.lconst 0, 1) := by decide +kernel
theorem dX7_runScript_19 : decode cX7_runScript 19 = .ok (.iload 4, 2) := by decide +kernel
theorem dX7_runScript_21 : decode cX7_runScript 21 = .ok (.ifCond .eq 9, 3) := by decide +kernel
theorem dX7_runScript_24 : decode cX7_runScript 24 = .ok (.iconst 5, 1) := by decide +kernel
theorem dX7_runScript_25 : decode cX7_runScript 25 = .ok (.iload_n 1, 1) := by decide +kernel
theorem dX7_runScript_26 : decode cX7_runScript 26 = .ok (.imul, 1) := by decide +kernel
theorem dX7_runScript_27 : decode cX7_runScript 27 = .ok (.goto 4, 3) := by decide +kernel
theorem dX7_runScript_30 : decode cX7_runScript 30 = .ok (.iconst 0, 1) := by decide +kernel
theorem dX7_runScript_31 : decode cX7_runScript 31 = .ok (.invokestatic 209, 3) := by decide +kernel
theorem dX7_runScript_34 : decode cX7_runScript 34 = .ok (.lconst 1, 1) := by decide +kernel
theorem dX7_runScript_35 : decode cX7_runScript 35 = .ok (.lsub, 1) := by decide +kernel
theorem dX7_runScript_36 : decode cX7_runScript 36 = .ok (.invokestatic 103, 3) := by decide +kernel
theorem dX7_runScript_39 : decode cX7_runScript 39 = .ok (.ifCond .eq 7, 3) := by decide +kernel
theorem dX7_runScript_42 : decode cX7_runScript 42 = .ok (.iconst 0, 1) := by decide +kernel
theorem dX7_runScript_43 : decode cX7_runScript 43 = .ok (.goto 4, 3) := by decide +kernel
theorem dX7_runScript_46 : decode cX7_runScript 46 = .ok (.iconst 1, 1) := by decide +kernel
theorem dX7_runScript_47 : decode cX7_runScript 47 = .ok (.invokevirtual 110, 3) := by decide +kernel
theorem dX7_runScript_50 : decode cX7_runScript 50 = .ok (.ifCond .eq 5, 3) := by decide +kernel
theorem dX7_runScript_53 : decode cX7_runScript 53 = .ok (.iconst 0, 1) := by decide +kernel
theorem dX7_runScript_54 : decode cX7_runScript 54 = .ok (.ireturn, 1) := by decide +kernel
theorem dX7_runScript_55 : decode cX7_runScript 55 = .ok (.aload_n 0, 1) := by decide +kernel
theorem dX7_runScript_56 : decode cX7_runScript 56 = .ok (.invokevirtual 201, 3) := by decide +kernel
theorem dX7_runScript_59 : decode cX7_runScript 59 = .ok (.iconst 0, 1) := by decide +kernel
theorem dX7_runScript_60 : decode cX7_runScript 60 = .ok (.istore 5, 2) := by decide +kernel
theorem dX7_runScript_62 : decode cX7_runScript 62 = .ok (.iload 5, 2) := by decide +kernel
theorem dX7_runScript_64 : decode cX7_runScript 64 = .ok (.iload_n 1, 1) := by decide +kernel
theorem dX7_runScript_65 : decode cX7_runScript 65 = .ok (.if_icmp .ge 37, 3) := by decide +kernel
theorem dX7_runScript_68 : decode cX7_runScript 68 = .ok (.aload_n 0, 1) := by decide +kernel
theorem dX7_runScript_69 : decode cX7_runScript 69 = .ok (.lload_n 2, 1) := by decide +kernel
theorem dX7_runScript_70 : decode cX7_runScript 70 = .ok (.iconst 5, 1) := by decide +kernel
theorem dX7_runScript_71 : decode cX7_runScript 71 = .ok (.iload_n 1, 1) := by decide +kernel
theorem dX7_runScript_72 : decode cX7_runScript 72 = .ok (.iconst 1, 1) := by decide +kernel
theorem dX7_runScript_73 : decode cX7_runScript 73 = .ok (.isub, 1) := by decide +kernel
theorem dX7_runScript_74 : decode cX7_runScript 74 = .ok (.iload 5, 2) := by decide +kernel
theorem dX7_runScript_76 : decode cX7_runScript 76 = .ok (.isub, 1) := by decide +kernel
theorem dX7_runScript_77 : decode cX7_runScript 77 = .ok (.imul, 1) := by decide +kernel
theorem dX7_runScript_78 : decode cX7_runScript 78 = .ok (.invokestatic 209, 3) := by decide +kernel
theorem dX7_runScript_81 : decode cX7_runScript 81 = .ok (.ldiv, 1) := by decide +kernel
theorem dX7_runScript_82 : decode cX7_runScript 82 = .ok (.ldc2_w 213, 3) := by decide +kernel
theorem dX7_runScript_85 : decode cX7_runScript 85 = .ok (.lrem, 1) := by decide +kernel
theorem dX7_runScript_86 : decode cX7_runScript 86 = .ok (.l2i, 1) := by decide +kernel
theorem dX7_runScript_87 : decode cX7_runScript 87 = .ok (.invokevirtual 215, 3) := by decide +kernel
theorem dX7_runScript_90 : decode cX7_runScript 90 = .ok (.ifCond .ne 6, 3) := by decide +kernel
theorem dX7_runScript_93 : decode cX7_runScript 93 = .ok (.iload 5, 2) := by decide +kernel
theorem dX7_runScript_95 : decode cX7_runScript 95 = .ok (.ireturn, 1) := by decide +kernel
theorem dX7_runScript_96 : decode cX7_runScript 96 = .ok (.iinc 5 1, 3) := by decide +kernel
theorem dX7_runScript_99 : decode cX7_runScript 99 = .ok (.goto (-37), 3) := by decide +kernel
theorem dX7_runScript_102 : decode cX7_runScript 102 = .ok (.bipush (-99), 2) := by decide +kernel
theorem dX7_runScript_104 : decode cX7_runScript 104 = .ok (.ireturn, 1) := by decide +kernel
theorem dX7_markAll_0 : decode cX7_markAll 0 = .ok (.iconst 0, 1) := by decide +kernel
theorem dX7_markAll_1 : decode cX7_markAll 1 = .ok (.istore_n 1, 1) := by decide +kernel
theorem dX7_markAll_2 : decode cX7_markAll 2 = .ok (.iload_n 1, 1) := by decide +kernel
theorem dX7_markAll_3 : decode cX7_markAll 3 = .ok (.aload_n 0, 1) := by decide +kernel
theorem dX7_markAll_4 : decode cX7_markAll 4 = .ok (.getfield 19, 3) := by decide +kernel
theorem dX7_markAll_7 : decode cX7_markAll 7 = .ok (.iconst 1, 1) := by decide +kernel
theorem dX7_markAll_8 : decode cX7_markAll 8 = .ok (.iaload, 1) := by decide +kernel
theorem dX7_markAll_9 : decode cX7_markAll 9 = .ok (.if_icmp .ge 36, 3) := by decide +kernel
theorem dX7_markAll_12 : decode cX7_markAll 12 = .ok (.aload_n 0, 1) := by decide +kernel
theorem dX7_markAll_13 : decode cX7_markAll 13 = .ok (.getfield 19, 3) := by decide +kernel
theorem dX7_markAll_16 : decode cX7_markAll 16 = .ok (.iload_n 1, 1) := by decide +kernel
theorem dX7_markAll_17 : decode cX7_markAll 17 = .ok (.invokestatic 67, 3) := by decide +kernel
theorem dX7_markAll_20 : decode cX7_markAll 20 = .ok (.istore_n 2, 1) := by decide +kernel
theorem dX7_markAll_21 : decode cX7_markAll 21 = .ok (.iload_n 2, 1) := by decide +kernel
theorem dX7_markAll_22 : decode cX7_markAll 22 = .ok (.bipush (-99), 2) := by decide +kernel
theorem dX7_markAll_24 : decode cX7_markAll 24 = .ok (.if_icmp .eq 15, 3) := by decide +kernel
theorem dX7_markAll_27 : decode cX7_markAll 27 = .ok (.aload_n 0, 1) := by decide +kernel
theorem dX7_markAll_28 : decode cX7_markAll 28 = .ok (.getfield 19, 3) := by decide +kernel
theorem dX7_markAll_31 : decode cX7_markAll 31 = .ok (.iload_n 2, 1) := by decide +kernel
theorem dX7_markAll_32 : decode cX7_markAll 32 = .ok (.bipush 7, 2) := by decide +kernel
theorem dX7_markAll_34 : decode cX7_markAll 34 = .ok (.invokestatic 49, 3) := by decide +kernel
theorem dX7_markAll_37 : decode cX7_markAll 37 = .ok (.iconst 1, 1) := by decide +kernel
theorem dX7_markAll_38 : decode cX7_markAll 38 = .ok (.iastore, 1) := by decide +kernel
theorem dX7_markAll_39 : decode cX7_markAll 39 = .ok (.iinc 1 1, 3) := by decide +kernel
theorem dX7_markAll_42 : decode cX7_markAll 42 = .ok (.goto (-40), 3) := by decide +kernel
theorem dX7_markAll_45 : decode cX7_markAll 45 = .ok (.return_, 1) := by decide +kernel
theorem dX7_simulate_0 : decode cX7_simulate 0 = .ok (.aload_n 0, 1) := by decide +kernel
theorem dX7_simulate_1 : decode cX7_simulate 1 = .ok (.iload_n 3, 1) := by decide +kernel
theorem dX7_simulate_2 : decode cX7_simulate 2 = .ok (.i2l, 1) := by decide +kernel
theorem dX7_simulate_3 : decode cX7_simulate 3 = .ok (.lconst 1, 1) := by decide +kernel
theorem dX7_simulate_4 : decode cX7_simulate 4 = .ok (.ldc2_w 218, 3) := by decide +kernel
theorem dX7_simulate_7 : decode cX7_simulate 7 = .ok (.invokestatic 103, 3) := by decide +kernel
theorem dX7_simulate_10 : decode cX7_simulate 10 = .ok (.ifCond .eq 7, 3) := by decide +kernel
theorem dX7_simulate_13 : decode cX7_simulate 13 = .ok (.iconst 0, 1) := by decide +kernel
theorem dX7_simulate_14 : decode cX7_simulate 14 = .ok (.goto 4, 3) := by decide +kernel
theorem dX7_simulate_17 : decode cX7_simulate 17 = .ok (.iconst 1, 1) := by decide +kernel
theorem dX7_simulate_18 : decode cX7_simulate 18 = .ok (.invokevirtual 110, 3) := by decide +kernel
theorem dX7_simulate_21 : decode cX7_simulate 21 = .ok (.ifCond .eq 5, 3) := by decide +kernel
theorem dX7_simulate_24 : decode cX7_simulate 24 = .ok (.iconst 0, 1) := by decide +kernel
theorem dX7_simulate_25 : decode cX7_simulate 25 = .ok (.ireturn, 1) := by decide +kernel
theorem dX7_simulate_26 : decode cX7_simulate 26 = .ok (.aload_n 0, 1) := by decide +kernel
theorem dX7_simulate_27 : decode cX7_simulate 27 = .ok (.invokevirtual 201, 3) := by decide +kernel
theorem dX7_simulate_30 : decode cX7_simulate 30 = .ok (.lload_n 1, 1) := by decide +kernel
theorem dX7_simulate_31 : decode cX7_simulate 31 = .ok (.lstore 4, 2) := by decide +kernel
theorem dX7_simulate_33 : decode cX7_simulate 33 = .ok (.iconst 0, 1) := by decide +kernel
theorem dX7_simulate_34 : decode cX7_simulate 34 = .ok (.istore 6, 2) := by decide +kernel
theorem dX7_simulate_36 : decode cX7_simulate 36 = .ok (.iload 6, 2) := by decide +kernel
theorem dX7_simulate_38 : decode cX7_simulate 38 = .ok (.iload_n 3, 1) := by decide +kernel
theorem dX7_simulate_39 : decode cX7_simulate 39 = .ok (.if_icmp .ge 77, 3) := by decide +kernel
theorem dX7_simulate_42 : decode cX7_simulate 42 = .ok (.aload_n 0, 1) := by decide +kernel
theorem dX7_simulate_43 : decode cX7_simulate 43 = .ok (.getfield 19, 3) := by decide +kernel
theorem dX7_simulate_46 : decode cX7_simulate 46 = .ok (.iconst 0, 1) := by decide +kernel
theorem dX7_simulate_47 : decode cX7_simulate 47 = .ok (.iaload, 1) := by decide +kernel
theorem dX7_simulate_48 : decode cX7_simulate 48 = .ok (.sipush 240, 3) := by decide +kernel
theorem dX7_simulate_51 : decode cX7_simulate 51 = .ok (.if_icmp .ge 65, 3) := by decide +kernel
theorem dX7_simulate_54 : decode cX7_simulate 54 = .ok (.lload 4, 2) := by decide +kernel
theorem dX7_simulate_56 : decode cX7_simulate 56 = .ok (.ldc2_w 220, 3) := by decide +kernel
theorem dX7_simulate_59 : decode cX7_simulate 59 = .ok (.lmul, 1) := by decide +kernel
theorem dX7_simulate_60 : decode cX7_simulate 60 = .ok (.ldc2_w 222, 3) := by decide +kernel
theorem dX7_simulate_63 : decode cX7_simulate 63 = .ok (.ladd, 1) := by decide +kernel
theorem dX7_simulate_64 : decode cX7_simulate 64 = .ok (.lstore 4, 2) := by decide +kernel
theorem dX7_simulate_66 : decode cX7_simulate 66 = .ok (.lload 4, 2) := by decide +kernel
theorem dX7_simulate_68 : decode cX7_simulate 68 = .ok (.bipush 33, 2) := by decide +kernel
theorem dX7_simulate_70 : decode cX7_simulate 70 = .ok (.lushr, 1) := by decide +kernel
theorem dX7_simulate_71 : decode cX7_simulate 71 = .ok (.l2i, 1) := by decide +kernel
theorem dX7_simulate_72 : decode cX7_simulate 72 = .ok (.istore 7, 2) := by decide +kernel
theorem dX7_simulate_74 : decode cX7_simulate 74 = .ok (.aload_n 0, 1) := by decide +kernel
theorem dX7_simulate_75 : decode cX7_simulate 75 = .ok (.getfield 19, 3) := by decide +kernel
theorem dX7_simulate_78 : decode cX7_simulate 78 = .ok (.iconst 4, 1) := by decide +kernel
theorem dX7_simulate_79 : decode cX7_simulate 79 = .ok (.iload 7, 2) := by decide +kernel
theorem dX7_simulate_81 : decode cX7_simulate 81 = .ok (.bipush 30, 2) := by decide +kernel
theorem dX7_simulate_83 : decode cX7_simulate 83 = .ok (.irem, 1) := by decide +kernel
theorem dX7_simulate_84 : decode cX7_simulate 84 = .ok (.bipush 10, 2) := by decide +kernel
theorem dX7_simulate_86 : decode cX7_simulate 86 = .ok (.isub, 1) := by decide +kernel
theorem dX7_simulate_87 : decode cX7_simulate 87 = .ok (.iastore, 1) := by decide +kernel
theorem dX7_simulate_88 : decode cX7_simulate 88 = .ok (.iload 7, 2) := by decide +kernel
theorem dX7_simulate_90 : decode cX7_simulate 90 = .ok (.bipush 64, 2) := by decide +kernel
theorem dX7_simulate_92 : decode cX7_simulate 92 = .ok (.idiv, 1) := by decide +kernel
theorem dX7_simulate_93 : decode cX7_simulate 93 = .ok (.bipush 8, 2) := by decide +kernel
theorem dX7_simulate_95 : decode cX7_simulate 95 = .ok (.irem, 1) := by decide +kernel
theorem dX7_simulate_96 : decode cX7_simulate 96 = .ok (.ifCond .ne 7, 3) := by decide +kernel
theorem dX7_simulate_99 : decode cX7_simulate 99 = .ok (.aload_n 0, 1) := by decide +kernel
theorem dX7_simulate_100 : decode cX7_simulate 100 = .ok (.invokevirtual 224, 3) := by decide +kernel
theorem dX7_simulate_103 : decode cX7_simulate 103 = .ok (.aload_n 0, 1) := by decide +kernel
theorem dX7_simulate_104 : decode cX7_simulate 104 = .ok (.getfield 19, 3) := by decide +kernel
theorem dX7_simulate_107 : decode cX7_simulate 107 = .ok (.invokestatic 91, 3) := by decide +kernel
theorem dX7_simulate_110 : decode cX7_simulate 110 = .ok (.iinc 6 1, 3) := by decide +kernel
theorem dX7_simulate_113 : decode cX7_simulate 113 = .ok (.goto (-77), 3) := by decide +kernel
theorem dX7_simulate_116 : decode cX7_simulate 116 = .ok (.aload_n 0, 1) := by decide +kernel
theorem dX7_simulate_117 : decode cX7_simulate 117 = .ok (.getfield 19, 3) := by decide +kernel
theorem dX7_simulate_120 : decode cX7_simulate 120 = .ok (.bipush 7, 2) := by decide +kernel
theorem dX7_simulate_122 : decode cX7_simulate 122 = .ok (.iaload, 1) := by decide +kernel
theorem dX7_simulate_123 : decode cX7_simulate 123 = .ok (.aload_n 0, 1) := by decide +kernel
theorem dX7_simulate_124 : decode cX7_simulate 124 = .ok (.getfield 16, 3) := by decide +kernel
theorem dX7_simulate_127 : decode cX7_simulate 127 = .ok (.bipush 7, 2) := by decide +kernel
theorem dX7_simulate_129 : decode cX7_simulate 129 = .ok (.iaload, 1) := by decide +kernel
theorem dX7_simulate_130 : decode cX7_simulate 130 = .ok (.isub, 1) := by decide +kernel
theorem dX7_simulate_131 : decode cX7_simulate 131 = .ok (.istore 6, 2) := by decide +kernel
theorem dX7_simulate_133 : decode cX7_simulate 133 = .ok (.sipush 1000, 3) := by decide +kernel
theorem dX7_simulate_136 : decode cX7_simulate 136 = .ok (.iload 6, 2) := by decide +kernel
theorem dX7_simulate_138 : decode cX7_simulate 138 = .ok (.sipush 9999, 3) := by decide +kernel
theorem dX7_simulate_141 : decode cX7_simulate 141 = .ok (.if_icmp .le 9, 3) := by decide +kernel
theorem dX7_simulate_144 : decode cX7_simulate 144 = .ok (.sipush 9999, 3) := by decide +kernel
theorem dX7_simulate_147 : decode cX7_simulate 147 = .ok (.goto 5, 3) := by decide +kernel
theorem dX7_simulate_150 : decode cX7_simulate 150 = .ok (.iload 6, 2) := by decide +kernel
theorem dX7_simulate_152 : decode cX7_simulate 152 = .ok (.imul, 1) := by decide +kernel
theorem dX7_simulate_153 : decode cX7_simulate 153 = .ok (.aload_n 0, 1) := by decide +kernel
theorem dX7_simulate_154 : decode cX7_simulate 154 = .ok (.getfield 19, 3) := by decide +kernel
theorem dX7_simulate_157 : decode cX7_simulate 157 = .ok (.bipush 8, 2) := by decide +kernel
theorem dX7_simulate_159 : decode cX7_simulate 159 = .ok (.iaload, 1) := by decide +kernel
theorem dX7_simulate_160 : decode cX7_simulate 160 = .ok (.iadd, 1) := by decide +kernel
theorem dX7_simulate_161 : decode cX7_simulate 161 = .ok (.aload_n 0, 1) := by decide +kernel
theorem dX7_simulate_162 : decode cX7_simulate 162 = .ok (.getfield 16, 3) := by decide +kernel
theorem dX7_simulate_165 : decode cX7_simulate 165 = .ok (.bipush 8, 2) := by decide +kernel
theorem dX7_simulate_167 : decode cX7_simulate 167 = .ok (.iaload, 1) := by decide +kernel
theorem dX7_simulate_168 : decode cX7_simulate 168 = .ok (.isub, 1) := by decide +kernel
theorem dX7_simulate_169 : decode cX7_simulate 169 = .ok (.ireturn, 1) := by decide +kernel
theorem dX7_save_0 : decode cX7_save 0 = .ok (.aload_n 0, 1) := by decide +kernel
theorem dX7_save_1 : decode cX7_save 1 = .ok (.iload_n 1, 1) := by decide +kernel
theorem dX7_save_2 : decode cX7_save 2 = .ok (.i2l, 1) := by decide +kernel
theorem dX7_save_3 : decode cX7_save 3 = .ok (.lconst 0, 1) := by decide +kernel
theorem dX7_save_4 : decode cX7_save 4 = .ok (.lconst 1, 1) := by decide +kernel
theorem dX7_save_5 : decode cX7_save 5 = .ok (.invokestatic 103, 3) := by decide +kernel
theorem dX7_save_8 : decode cX7_save 8 = .ok (.ifCond .eq 7, 3) := by decide +kernel
theorem dX7_save_11 : decode cX7_save 11 = .ok (.iconst 0, 1) := by decide +kernel
theorem dX7_save_12 : decode cX7_save 12 = .ok (.goto 4, 3) := by decide +kernel
theorem dX7_save_15 : decode cX7_save 15 = .ok (.iconst 1, 1) := by decide +kernel
theorem dX7_save_16 : decode cX7_save 16 = .ok (.invokevirtual 110, 3) := by decide +kernel
theorem dX7_save_19 : decode cX7_save 19 = .ok (.ifCond .eq 5, 3) := by decide +kernel
theorem dX7_save_22 : decode cX7_save 22 = .ok (.iconst 0, 1) := by decide +kernel
theorem dX7_save_23 : decode cX7_save 23 = .ok (.ireturn, 1) := by decide +kernel
theorem dX7_save_24 : decode cX7_save 24 = .ok (.aload_n 0, 1) := by decide +kernel
theorem dX7_save_25 : decode cX7_save 25 = .ok (.getfield 16, 3) := by decide +kernel
theorem dX7_save_28 : decode cX7_save 28 = .ok (.iconst 0, 1) := by decide +kernel
theorem dX7_save_29 : decode cX7_save 29 = .ok (.aload_n 0, 1) := by decide +kernel
theorem dX7_save_30 : decode cX7_save 30 = .ok (.getfield 25, 3) := by decide +kernel
theorem dX7_save_33 : decode cX7_save 33 = .ok (.sipush 151, 3) := by decide +kernel
theorem dX7_save_36 : decode cX7_save 36 = .ok (.iload_n 1, 1) := by decide +kernel
theorem dX7_save_37 : decode cX7_save 37 = .ok (.imul, 1) := by decide +kernel
theorem dX7_save_38 : decode cX7_save 38 = .ok (.sipush 151, 3) := by decide +kernel
theorem dX7_save_41 : decode cX7_save 41 = .ok (.invokestatic 45, 3) := by decide +kernel
theorem dX7_save_44 : decode cX7_save 44 = .ok (.aload_n 0, 1) := by decide +kernel
theorem dX7_save_45 : decode cX7_save 45 = .ok (.getfield 28, 3) := by decide +kernel
theorem dX7_save_48 : decode cX7_save 48 = .ok (.iload_n 1, 1) := by decide +kernel
theorem dX7_save_49 : decode cX7_save 49 = .ok (.iconst 1, 1) := by decide +kernel
theorem dX7_save_50 : decode cX7_save 50 = .ok (.bastore, 1) := by decide +kernel
theorem dX7_save_51 : decode cX7_save 51 = .ok (.aload_n 0, 1) := by decide +kernel
theorem dX7_save_52 : decode cX7_save 52 = .ok (.getfield 16, 3) := by decide +kernel
theorem dX7_save_55 : decode cX7_save 55 = .ok (.iconst 0, 1) := by decide +kernel
theorem dX7_save_56 : decode cX7_save 56 = .ok (.iaload, 1) := by decide +kernel
theorem dX7_save_57 : decode cX7_save 57 = .ok (.ireturn, 1) := by decide +kernel
theorem dX7_restore_0 : decode cX7_restore 0 = .ok (.aload_n 0, 1) := by decide +kernel
theorem dX7_restore_1 : decode cX7_restore 1 = .ok (.iload_n 1, 1) := by decide +kernel
theorem dX7_restore_2 : decode cX7_restore 2 = .ok (.i2l, 1) := by decide +kernel
theorem dX7_restore_3 : decode cX7_restore 3 = .ok (.lconst 0, 1) := by decide +kernel
theorem dX7_restore_4 : decode cX7_restore 4 = .ok (.lconst 1, 1) := by decide +kernel
theorem dX7_restore_5 : decode cX7_restore 5 = .ok (.invokestatic 103, 3) := by decide +kernel
theorem dX7_restore_8 : decode cX7_restore 8 = .ok (.ifCond .ne 7, 3) := by decide +kernel
theorem dX7_restore_11 : decode cX7_restore 11 = .ok (.iconst 1, 1) := by decide +kernel
theorem dX7_restore_12 : decode cX7_restore 12 = .ok (.goto 17, 3) := by decide +kernel
theorem dX7_restore_15 : decode cX7_restore 15 = .ok (.aload_n 0, 1) := by decide +kernel
theorem dX7_restore_16 : decode cX7_restore 16 = .ok (.getfield 28, 3) := by decide +kernel
theorem dX7_restore_19 : decode cX7_restore 19 = .ok (.iload_n 1, 1) := by decide +kernel
theorem dX7_restore_20 : decode cX7_restore 20 = .ok (.baload, 1) := by decide +kernel
theorem dX7_restore_21 : decode cX7_restore 21 = .ok (.ifCond .eq 7, 3) := by decide +kernel
theorem dX7_restore_24 : decode cX7_restore 24 = .ok (.iconst 0, 1) := by decide +kernel
theorem dX7_restore_25 : decode cX7_restore 25 = .ok (.goto 4, 3) := by decide +kernel
theorem dX7_restore_28 : decode cX7_restore 28 = .ok (.iconst 2, 1) := by decide +kernel
theorem dX7_restore_29 : decode cX7_restore 29 = .ok (.invokevirtual 110, 3) := by decide +kernel
theorem dX7_restore_32 : decode cX7_restore 32 = .ok (.ifCond .eq 5, 3) := by decide +kernel
theorem dX7_restore_35 : decode cX7_restore 35 = .ok (.iconst 0, 1) := by decide +kernel
theorem dX7_restore_36 : decode cX7_restore 36 = .ok (.ireturn, 1) := by decide +kernel
theorem dX7_restore_37 : decode cX7_restore 37 = .ok (.aload_n 0, 1) := by decide +kernel
theorem dX7_restore_38 : decode cX7_restore 38 = .ok (.getfield 25, 3) := by decide +kernel
theorem dX7_restore_41 : decode cX7_restore 41 = .ok (.sipush 151, 3) := by decide +kernel
theorem dX7_restore_44 : decode cX7_restore 44 = .ok (.iload_n 1, 1) := by decide +kernel
theorem dX7_restore_45 : decode cX7_restore 45 = .ok (.imul, 1) := by decide +kernel
theorem dX7_restore_46 : decode cX7_restore 46 = .ok (.aload_n 0, 1) := by decide +kernel
theorem dX7_restore_47 : decode cX7_restore 47 = .ok (.getfield 16, 3) := by decide +kernel
theorem dX7_restore_50 : decode cX7_restore 50 = .ok (.iconst 0, 1) := by decide +kernel
theorem dX7_restore_51 : decode cX7_restore 51 = .ok (.sipush 151, 3) := by decide +kernel
theorem dX7_restore_54 : decode cX7_restore 54 = .ok (.invokestatic 45, 3) := by decide +kernel
theorem dX7_restore_57 : decode cX7_restore 57 = .ok (.aload_n 0, 1) := by decide +kernel
theorem dX7_restore_58 : decode cX7_restore 58 = .ok (.iconst 0, 1) := by decide +kernel
theorem dX7_restore_59 : decode cX7_restore 59 = .ok (.putfield 42, 3) := by decide +kernel
theorem dX7_restore_62 : decode cX7_restore 62 = .ok (.aload_n 0, 1) := by decide +kernel
theorem dX7_restore_63 : decode cX7_restore 63 = .ok (.getfield 16, 3) := by decide +kernel
theorem dX7_restore_66 : decode cX7_restore 66 = .ok (.iconst 0, 1) := by decide +kernel
theorem dX7_restore_67 : decode cX7_restore 67 = .ok (.iaload, 1) := by decide +kernel
theorem dX7_restore_68 : decode cX7_restore 68 = .ok (.ireturn, 1) := by decide +kernel
theorem dL_append_0 : decode cL_append 0 = .ok (.aload_n 2, 1) := by decide +kernel
theorem dL_append_1 : decode cL_append 1 = .ok (.iconst 0, 1) := by decide +kernel
theorem dL_append_2 : decode cL_append 2 = .ok (.aload_n 0, 1) := by decide +kernel
theorem dL_append_3 : decode cL_append 3 = .ok (.iload_n 1, 1) := by decide +kernel
theorem dL_append_4 : decode cL_append 4 = .ok (.invokevirtual 7, 3) := by decide +kernel
theorem dL_append_7 : decode cL_append 7 = .ok (.i2l, 1) := by decide +kernel
theorem dL_append_8 : decode cL_append 8 = .ok (.lastore, 1) := by decide +kernel
theorem dL_append_9 : decode cL_append 9 = .ok (.goto 9, 3) := by decide +kernel
theorem dL_append_12 : decode cL_append 12 = .ok (.astore_n 3, 1) := by decide +kernel
theorem dL_append_13 : decode cL_append 13 = .ok (.iconst 1, 1) := by decide +kernel
theorem dL_append_14 : decode cL_append 14 = .ok (.ireturn, 1) := by decide +kernel
theorem dL_append_15 : decode cL_append 15 = .ok (.astore_n 3, 1) := by decide +kernel
theorem dL_append_16 : decode cL_append 16 = .ok (.iconst 2, 1) := by decide +kernel
theorem dL_append_17 : decode cL_append 17 = .ok (.ireturn, 1) := by decide +kernel
theorem dL_append_18 : decode cL_append 18 = .ok (.iconst 0, 1) := by decide +kernel
theorem dL_append_19 : decode cL_append 19 = .ok (.ireturn, 1) := by decide +kernel
theorem dL_load_0 : decode cL_load 0 = .ok (.aload_n 1, 1) := by decide +kernel
theorem dL_load_1 : decode cL_load 1 = .ok (.iconst 0, 1) := by decide +kernel
theorem dL_load_2 : decode cL_load 2 = .ok (.aload_n 0, 1) := by decide +kernel
theorem dL_load_3 : decode cL_load 3 = .ok (.invokevirtual 17, 3) := by decide +kernel
theorem dL_load_6 : decode cL_load 6 = .ok (.i2l, 1) := by decide +kernel
theorem dL_load_7 : decode cL_load 7 = .ok (.lastore, 1) := by decide +kernel
theorem dL_load_8 : decode cL_load 8 = .ok (.goto 6, 3) := by decide +kernel
theorem dL_load_11 : decode cL_load 11 = .ok (.astore_n 2, 1) := by decide +kernel
theorem dL_load_12 : decode cL_load 12 = .ok (.iconst 1, 1) := by decide +kernel
theorem dL_load_13 : decode cL_load 13 = .ok (.ireturn, 1) := by decide +kernel
theorem dL_load_14 : decode cL_load 14 = .ok (.iconst 0, 1) := by decide +kernel
theorem dL_load_15 : decode cL_load 15 = .ok (.ireturn, 1) := by decide +kernel
theorem dL_about_0 : decode cL_about 0 = .ok (.aload_n 2, 1) := by decide +kernel
theorem dL_about_1 : decode cL_about 1 = .ok (.iconst 0, 1) := by decide +kernel
theorem dL_about_2 : decode cL_about 2 = .ok (.aload_n 0, 1) := by decide +kernel
theorem dL_about_3 : decode cL_about 3 = .ok (.iload_n 1, 1) := by decide +kernel
theorem dL_about_4 : decode cL_about 4 = .ok (.invokevirtual 21, 3) := by decide +kernel
theorem dL_about_7 : decode cL_about 7 = .ok (.i2l, 1) := by decide +kernel
theorem dL_about_8 : decode cL_about 8 = .ok (.lastore, 1) := by decide +kernel
theorem dL_about_9 : decode cL_about 9 = .ok (.goto 6, 3) := by decide +kernel
theorem dL_about_12 : decode cL_about 12 = .ok (.astore_n 3, 1) := by decide +kernel
theorem dL_about_13 : decode cL_about 13 = .ok (.iconst 1, 1) := by decide +kernel
theorem dL_about_14 : decode cL_about 14 = .ok (.ireturn, 1) := by decide +kernel
theorem dL_about_15 : decode cL_about 15 = .ok (.iconst 0, 1) := by decide +kernel
theorem dL_about_16 : decode cL_about 16 = .ok (.ireturn, 1) := by decide +kernel
theorem dL_room_0 : decode cL_room 0 = .ok (.aload_n 3, 1) := by decide +kernel
theorem dL_room_1 : decode cL_room 1 = .ok (.iconst 0, 1) := by decide +kernel
theorem dL_room_2 : decode cL_room 2 = .ok (.aload_n 0, 1) := by decide +kernel
theorem dL_room_3 : decode cL_room 3 = .ok (.iload_n 1, 1) := by decide +kernel
theorem dL_room_4 : decode cL_room 4 = .ok (.iload_n 2, 1) := by decide +kernel
theorem dL_room_5 : decode cL_room 5 = .ok (.invokevirtual 24, 3) := by decide +kernel
theorem dL_room_8 : decode cL_room 8 = .ok (.i2l, 1) := by decide +kernel
theorem dL_room_9 : decode cL_room 9 = .ok (.lastore, 1) := by decide +kernel
theorem dL_room_10 : decode cL_room 10 = .ok (.goto 11, 3) := by decide +kernel
theorem dL_room_13 : decode cL_room 13 = .ok (.astore 4, 2) := by decide +kernel
theorem dL_room_15 : decode cL_room 15 = .ok (.iconst 1, 1) := by decide +kernel
theorem dL_room_16 : decode cL_room 16 = .ok (.ireturn, 1) := by decide +kernel
theorem dL_room_17 : decode cL_room 17 = .ok (.astore 4, 2) := by decide +kernel
theorem dL_room_19 : decode cL_room 19 = .ok (.iconst 2, 1) := by decide +kernel
theorem dL_room_20 : decode cL_room 20 = .ok (.ireturn, 1) := by decide +kernel
theorem dL_room_21 : decode cL_room 21 = .ok (.iconst 0, 1) := by decide +kernel
theorem dL_room_22 : decode cL_room 22 = .ok (.ireturn, 1) := by decide +kernel
theorem dL_owes_0 : decode cL_owes 0 = .ok (.aload_n 2, 1) := by decide +kernel
theorem dL_owes_1 : decode cL_owes 1 = .ok (.iconst 0, 1) := by decide +kernel
theorem dL_owes_2 : decode cL_owes 2 = .ok (.aload_n 0, 1) := by decide +kernel
theorem dL_owes_3 : decode cL_owes 3 = .ok (.iload_n 1, 1) := by decide +kernel
theorem dL_owes_4 : decode cL_owes 4 = .ok (.invokevirtual 30, 3) := by decide +kernel
theorem dL_owes_7 : decode cL_owes 7 = .ok (.i2l, 1) := by decide +kernel
theorem dL_owes_8 : decode cL_owes 8 = .ok (.lastore, 1) := by decide +kernel
theorem dL_owes_9 : decode cL_owes 9 = .ok (.goto 6, 3) := by decide +kernel
theorem dL_owes_12 : decode cL_owes 12 = .ok (.astore_n 3, 1) := by decide +kernel
theorem dL_owes_13 : decode cL_owes 13 = .ok (.iconst 1, 1) := by decide +kernel
theorem dL_owes_14 : decode cL_owes 14 = .ok (.ireturn, 1) := by decide +kernel
theorem dL_owes_15 : decode cL_owes 15 = .ok (.iconst 0, 1) := by decide +kernel
theorem dL_owes_16 : decode cL_owes 16 = .ok (.ireturn, 1) := by decide +kernel
theorem dL_booking_0 : decode cL_booking 0 = .ok (.aload_n 3, 1) := by decide +kernel
theorem dL_booking_1 : decode cL_booking 1 = .ok (.iconst 0, 1) := by decide +kernel
theorem dL_booking_2 : decode cL_booking 2 = .ok (.aload_n 0, 1) := by decide +kernel
theorem dL_booking_3 : decode cL_booking 3 = .ok (.iload_n 1, 1) := by decide +kernel
theorem dL_booking_4 : decode cL_booking 4 = .ok (.iload_n 2, 1) := by decide +kernel
theorem dL_booking_5 : decode cL_booking 5 = .ok (.invokevirtual 33, 3) := by decide +kernel
theorem dL_booking_8 : decode cL_booking 8 = .ok (.i2l, 1) := by decide +kernel
theorem dL_booking_9 : decode cL_booking 9 = .ok (.lastore, 1) := by decide +kernel
theorem dL_booking_10 : decode cL_booking 10 = .ok (.goto 11, 3) := by decide +kernel
theorem dL_booking_13 : decode cL_booking 13 = .ok (.astore 4, 2) := by decide +kernel
theorem dL_booking_15 : decode cL_booking 15 = .ok (.iconst 1, 1) := by decide +kernel
theorem dL_booking_16 : decode cL_booking 16 = .ok (.ireturn, 1) := by decide +kernel
theorem dL_booking_17 : decode cL_booking 17 = .ok (.astore 4, 2) := by decide +kernel
theorem dL_booking_19 : decode cL_booking 19 = .ok (.iconst 2, 1) := by decide +kernel
theorem dL_booking_20 : decode cL_booking 20 = .ok (.ireturn, 1) := by decide +kernel
theorem dL_booking_21 : decode cL_booking 21 = .ok (.iconst 0, 1) := by decide +kernel
theorem dL_booking_22 : decode cL_booking 22 = .ok (.ireturn, 1) := by decide +kernel
theorem dL_addRoom_0 : decode cL_addRoom 0 = .ok (.aload 5, 2) := by decide +kernel
theorem dL_addRoom_2 : decode cL_addRoom 2 = .ok (.iconst 0, 1) := by decide +kernel
theorem dL_addRoom_3 : decode cL_addRoom 3 = .ok (.aload_n 0, 1) := by decide +kernel
theorem dL_addRoom_4 : decode cL_addRoom 4 = .ok (.iload_n 1, 1) := by decide +kernel
theorem dL_addRoom_5 : decode cL_addRoom 5 = .ok (.iload_n 2, 1) := by decide +kernel
theorem dL_addRoom_6 : decode cL_addRoom 6 = .ok (.iload_n 3, 1) := by decide +kernel
theorem dL_addRoom_7 : decode cL_addRoom 7 = .ok (.iload 4, 2) := by decide +kernel
theorem dL_addRoom_9 : decode cL_addRoom 9 = .ok (.invokevirtual 36, 3) := by decide +kernel
theorem dL_addRoom_12 : decode cL_addRoom 12 = .ok (.i2l, 1) := by decide +kernel
theorem dL_addRoom_13 : decode cL_addRoom 13 = .ok (.lastore, 1) := by decide +kernel
theorem dL_addRoom_14 : decode cL_addRoom 14 = .ok (.goto 11, 3) := by decide +kernel
theorem dL_addRoom_17 : decode cL_addRoom 17 = .ok (.astore 6, 2) := by decide +kernel
theorem dL_addRoom_19 : decode cL_addRoom 19 = .ok (.iconst 1, 1) := by decide +kernel
theorem dL_addRoom_20 : decode cL_addRoom 20 = .ok (.ireturn, 1) := by decide +kernel
theorem dL_addRoom_21 : decode cL_addRoom 21 = .ok (.astore 6, 2) := by decide +kernel
theorem dL_addRoom_23 : decode cL_addRoom 23 = .ok (.iconst 2, 1) := by decide +kernel
theorem dL_addRoom_24 : decode cL_addRoom 24 = .ok (.ireturn, 1) := by decide +kernel
theorem dL_addRoom_25 : decode cL_addRoom 25 = .ok (.iconst 0, 1) := by decide +kernel
theorem dL_addRoom_26 : decode cL_addRoom 26 = .ok (.ireturn, 1) := by decide +kernel
theorem dL_addGroup_0 : decode cL_addGroup 0 = .ok (.aload_n 1, 1) := by decide +kernel
theorem dL_addGroup_1 : decode cL_addGroup 1 = .ok (.iconst 0, 1) := by decide +kernel
theorem dL_addGroup_2 : decode cL_addGroup 2 = .ok (.aload_n 0, 1) := by decide +kernel
theorem dL_addGroup_3 : decode cL_addGroup 3 = .ok (.invokevirtual 40, 3) := by decide +kernel
theorem dL_addGroup_6 : decode cL_addGroup 6 = .ok (.i2l, 1) := by decide +kernel
theorem dL_addGroup_7 : decode cL_addGroup 7 = .ok (.lastore, 1) := by decide +kernel
theorem dL_addGroup_8 : decode cL_addGroup 8 = .ok (.goto 6, 3) := by decide +kernel
theorem dL_addGroup_11 : decode cL_addGroup 11 = .ok (.astore_n 2, 1) := by decide +kernel
theorem dL_addGroup_12 : decode cL_addGroup 12 = .ok (.iconst 1, 1) := by decide +kernel
theorem dL_addGroup_13 : decode cL_addGroup 13 = .ok (.ireturn, 1) := by decide +kernel
theorem dL_addGroup_14 : decode cL_addGroup 14 = .ok (.iconst 0, 1) := by decide +kernel
theorem dL_addGroup_15 : decode cL_addGroup 15 = .ok (.ireturn, 1) := by decide +kernel
theorem dL_book_0 : decode cL_book 0 = .ok (.aload 6, 2) := by decide +kernel
theorem dL_book_2 : decode cL_book 2 = .ok (.iconst 0, 1) := by decide +kernel
theorem dL_book_3 : decode cL_book 3 = .ok (.aload_n 0, 1) := by decide +kernel
theorem dL_book_4 : decode cL_book 4 = .ok (.iload_n 1, 1) := by decide +kernel
theorem dL_book_5 : decode cL_book 5 = .ok (.iload_n 2, 1) := by decide +kernel
theorem dL_book_6 : decode cL_book 6 = .ok (.iload_n 3, 1) := by decide +kernel
theorem dL_book_7 : decode cL_book 7 = .ok (.iload 4, 2) := by decide +kernel
theorem dL_book_9 : decode cL_book 9 = .ok (.iload 5, 2) := by decide +kernel
theorem dL_book_11 : decode cL_book 11 = .ok (.invokevirtual 43, 3) := by decide +kernel
theorem dL_book_14 : decode cL_book 14 = .ok (.i2l, 1) := by decide +kernel
theorem dL_book_15 : decode cL_book 15 = .ok (.lastore, 1) := by decide +kernel
theorem dL_book_16 : decode cL_book 16 = .ok (.goto 15, 3) := by decide +kernel
theorem dL_book_19 : decode cL_book 19 = .ok (.astore 7, 2) := by decide +kernel
theorem dL_book_21 : decode cL_book 21 = .ok (.iconst 1, 1) := by decide +kernel
theorem dL_book_22 : decode cL_book 22 = .ok (.ireturn, 1) := by decide +kernel
theorem dL_book_23 : decode cL_book 23 = .ok (.astore 7, 2) := by decide +kernel
theorem dL_book_25 : decode cL_book 25 = .ok (.iconst 2, 1) := by decide +kernel
theorem dL_book_26 : decode cL_book 26 = .ok (.ireturn, 1) := by decide +kernel
theorem dL_book_27 : decode cL_book 27 = .ok (.astore 7, 2) := by decide +kernel
theorem dL_book_29 : decode cL_book 29 = .ok (.iconst 3, 1) := by decide +kernel
theorem dL_book_30 : decode cL_book 30 = .ok (.ireturn, 1) := by decide +kernel
theorem dL_book_31 : decode cL_book 31 = .ok (.iconst 0, 1) := by decide +kernel
theorem dL_book_32 : decode cL_book 32 = .ok (.ireturn, 1) := by decide +kernel
theorem dL_cancel_0 : decode cL_cancel 0 = .ok (.aload_n 2, 1) := by decide +kernel
theorem dL_cancel_1 : decode cL_cancel 1 = .ok (.iconst 0, 1) := by decide +kernel
theorem dL_cancel_2 : decode cL_cancel 2 = .ok (.aload_n 0, 1) := by decide +kernel
theorem dL_cancel_3 : decode cL_cancel 3 = .ok (.iload_n 1, 1) := by decide +kernel
theorem dL_cancel_4 : decode cL_cancel 4 = .ok (.invokevirtual 47, 3) := by decide +kernel
theorem dL_cancel_7 : decode cL_cancel 7 = .ok (.i2l, 1) := by decide +kernel
theorem dL_cancel_8 : decode cL_cancel 8 = .ok (.lastore, 1) := by decide +kernel
theorem dL_cancel_9 : decode cL_cancel 9 = .ok (.goto 9, 3) := by decide +kernel
theorem dL_cancel_12 : decode cL_cancel 12 = .ok (.astore_n 3, 1) := by decide +kernel
theorem dL_cancel_13 : decode cL_cancel 13 = .ok (.iconst 1, 1) := by decide +kernel
theorem dL_cancel_14 : decode cL_cancel 14 = .ok (.ireturn, 1) := by decide +kernel
theorem dL_cancel_15 : decode cL_cancel 15 = .ok (.astore_n 3, 1) := by decide +kernel
theorem dL_cancel_16 : decode cL_cancel 16 = .ok (.iconst 2, 1) := by decide +kernel
theorem dL_cancel_17 : decode cL_cancel 17 = .ok (.ireturn, 1) := by decide +kernel
theorem dL_cancel_18 : decode cL_cancel 18 = .ok (.iconst 0, 1) := by decide +kernel
theorem dL_cancel_19 : decode cL_cancel 19 = .ok (.ireturn, 1) := by decide +kernel
theorem dL_prove_0 : decode cL_prove 0 = .ok (.aload_n 3, 1) := by decide +kernel
theorem dL_prove_1 : decode cL_prove 1 = .ok (.iconst 0, 1) := by decide +kernel
theorem dL_prove_2 : decode cL_prove 2 = .ok (.aload_n 0, 1) := by decide +kernel
theorem dL_prove_3 : decode cL_prove 3 = .ok (.iload_n 1, 1) := by decide +kernel
theorem dL_prove_4 : decode cL_prove 4 = .ok (.iload_n 2, 1) := by decide +kernel
theorem dL_prove_5 : decode cL_prove 5 = .ok (.invokevirtual 50, 3) := by decide +kernel
theorem dL_prove_8 : decode cL_prove 8 = .ok (.i2l, 1) := by decide +kernel
theorem dL_prove_9 : decode cL_prove 9 = .ok (.lastore, 1) := by decide +kernel
theorem dL_prove_10 : decode cL_prove 10 = .ok (.goto 11, 3) := by decide +kernel
theorem dL_prove_13 : decode cL_prove 13 = .ok (.astore 4, 2) := by decide +kernel
theorem dL_prove_15 : decode cL_prove 15 = .ok (.iconst 1, 1) := by decide +kernel
theorem dL_prove_16 : decode cL_prove 16 = .ok (.ireturn, 1) := by decide +kernel
theorem dL_prove_17 : decode cL_prove 17 = .ok (.astore 4, 2) := by decide +kernel
theorem dL_prove_19 : decode cL_prove 19 = .ok (.iconst 2, 1) := by decide +kernel
theorem dL_prove_20 : decode cL_prove 20 = .ok (.ireturn, 1) := by decide +kernel
theorem dL_prove_21 : decode cL_prove 21 = .ok (.iconst 0, 1) := by decide +kernel
theorem dL_prove_22 : decode cL_prove 22 = .ok (.ireturn, 1) := by decide +kernel
theorem dL_outside_0 : decode cL_outside 0 = .ok (.aload_n 2, 1) := by decide +kernel
theorem dL_outside_1 : decode cL_outside 1 = .ok (.iconst 0, 1) := by decide +kernel
theorem dL_outside_2 : decode cL_outside 2 = .ok (.aload_n 0, 1) := by decide +kernel
theorem dL_outside_3 : decode cL_outside 3 = .ok (.iload_n 1, 1) := by decide +kernel
theorem dL_outside_4 : decode cL_outside 4 = .ok (.invokevirtual 54, 3) := by decide +kernel
theorem dL_outside_7 : decode cL_outside 7 = .ok (.i2l, 1) := by decide +kernel
theorem dL_outside_8 : decode cL_outside 8 = .ok (.lastore, 1) := by decide +kernel
theorem dL_outside_9 : decode cL_outside 9 = .ok (.goto 6, 3) := by decide +kernel
theorem dL_outside_12 : decode cL_outside 12 = .ok (.astore_n 3, 1) := by decide +kernel
theorem dL_outside_13 : decode cL_outside 13 = .ok (.iconst 1, 1) := by decide +kernel
theorem dL_outside_14 : decode cL_outside 14 = .ok (.ireturn, 1) := by decide +kernel
theorem dL_outside_15 : decode cL_outside 15 = .ok (.iconst 0, 1) := by decide +kernel
theorem dL_outside_16 : decode cL_outside 16 = .ok (.ireturn, 1) := by decide +kernel
theorem dL_pay_0 : decode cL_pay 0 = .ok (.aload_n 2, 1) := by decide +kernel
theorem dL_pay_1 : decode cL_pay 1 = .ok (.iconst 0, 1) := by decide +kernel
theorem dL_pay_2 : decode cL_pay 2 = .ok (.aload_n 0, 1) := by decide +kernel
theorem dL_pay_3 : decode cL_pay 3 = .ok (.iload_n 1, 1) := by decide +kernel
theorem dL_pay_4 : decode cL_pay 4 = .ok (.invokevirtual 57, 3) := by decide +kernel
theorem dL_pay_7 : decode cL_pay 7 = .ok (.i2l, 1) := by decide +kernel
theorem dL_pay_8 : decode cL_pay 8 = .ok (.lastore, 1) := by decide +kernel
theorem dL_pay_9 : decode cL_pay 9 = .ok (.goto 6, 3) := by decide +kernel
theorem dL_pay_12 : decode cL_pay 12 = .ok (.astore_n 3, 1) := by decide +kernel
theorem dL_pay_13 : decode cL_pay 13 = .ok (.iconst 1, 1) := by decide +kernel
theorem dL_pay_14 : decode cL_pay 14 = .ok (.ireturn, 1) := by decide +kernel
theorem dL_pay_15 : decode cL_pay 15 = .ok (.iconst 0, 1) := by decide +kernel
theorem dL_pay_16 : decode cL_pay 16 = .ok (.ireturn, 1) := by decide +kernel
theorem dL_pass_0 : decode cL_pass 0 = .ok (.aload_n 2, 1) := by decide +kernel
theorem dL_pass_1 : decode cL_pass 1 = .ok (.iconst 0, 1) := by decide +kernel
theorem dL_pass_2 : decode cL_pass 2 = .ok (.aload_n 0, 1) := by decide +kernel
theorem dL_pass_3 : decode cL_pass 3 = .ok (.iload_n 1, 1) := by decide +kernel
theorem dL_pass_4 : decode cL_pass 4 = .ok (.invokevirtual 60, 3) := by decide +kernel
theorem dL_pass_7 : decode cL_pass 7 = .ok (.i2l, 1) := by decide +kernel
theorem dL_pass_8 : decode cL_pass 8 = .ok (.lastore, 1) := by decide +kernel
theorem dL_pass_9 : decode cL_pass 9 = .ok (.goto 9, 3) := by decide +kernel
theorem dL_pass_12 : decode cL_pass 12 = .ok (.astore_n 3, 1) := by decide +kernel
theorem dL_pass_13 : decode cL_pass 13 = .ok (.iconst 1, 1) := by decide +kernel
theorem dL_pass_14 : decode cL_pass 14 = .ok (.ireturn, 1) := by decide +kernel
theorem dL_pass_15 : decode cL_pass 15 = .ok (.astore_n 3, 1) := by decide +kernel
theorem dL_pass_16 : decode cL_pass 16 = .ok (.iconst 2, 1) := by decide +kernel
theorem dL_pass_17 : decode cL_pass 17 = .ok (.ireturn, 1) := by decide +kernel
theorem dL_pass_18 : decode cL_pass 18 = .ok (.iconst 0, 1) := by decide +kernel
theorem dL_pass_19 : decode cL_pass 19 = .ok (.ireturn, 1) := by decide +kernel
theorem dL_undo_0 : decode cL_undo 0 = .ok (.aload_n 1, 1) := by decide +kernel
theorem dL_undo_1 : decode cL_undo 1 = .ok (.iconst 0, 1) := by decide +kernel
theorem dL_undo_2 : decode cL_undo 2 = .ok (.aload_n 0, 1) := by decide +kernel
theorem dL_undo_3 : decode cL_undo 3 = .ok (.invokevirtual 63, 3) := by decide +kernel
theorem dL_undo_6 : decode cL_undo 6 = .ok (.i2l, 1) := by decide +kernel
theorem dL_undo_7 : decode cL_undo 7 = .ok (.lastore, 1) := by decide +kernel
theorem dL_undo_8 : decode cL_undo 8 = .ok (.goto 6, 3) := by decide +kernel
theorem dL_undo_11 : decode cL_undo 11 = .ok (.astore_n 2, 1) := by decide +kernel
theorem dL_undo_12 : decode cL_undo 12 = .ok (.iconst 1, 1) := by decide +kernel
theorem dL_undo_13 : decode cL_undo 13 = .ok (.ireturn, 1) := by decide +kernel
theorem dL_undo_14 : decode cL_undo 14 = .ok (.iconst 0, 1) := by decide +kernel
theorem dL_undo_15 : decode cL_undo 15 = .ok (.ireturn, 1) := by decide +kernel
theorem dL_later_0 : decode cL_later 0 = .ok (.aload_n 3, 1) := by decide +kernel
theorem dL_later_1 : decode cL_later 1 = .ok (.iconst 0, 1) := by decide +kernel
theorem dL_later_2 : decode cL_later 2 = .ok (.aload_n 0, 1) := by decide +kernel
theorem dL_later_3 : decode cL_later 3 = .ok (.iload_n 1, 1) := by decide +kernel
theorem dL_later_4 : decode cL_later 4 = .ok (.iload_n 2, 1) := by decide +kernel
theorem dL_later_5 : decode cL_later 5 = .ok (.invokevirtual 66, 3) := by decide +kernel
theorem dL_later_8 : decode cL_later 8 = .ok (.i2l, 1) := by decide +kernel
theorem dL_later_9 : decode cL_later 9 = .ok (.lastore, 1) := by decide +kernel
theorem dL_later_10 : decode cL_later 10 = .ok (.goto 11, 3) := by decide +kernel
theorem dL_later_13 : decode cL_later 13 = .ok (.astore 4, 2) := by decide +kernel
theorem dL_later_15 : decode cL_later 15 = .ok (.iconst 1, 1) := by decide +kernel
theorem dL_later_16 : decode cL_later 16 = .ok (.ireturn, 1) := by decide +kernel
theorem dL_later_17 : decode cL_later 17 = .ok (.astore 4, 2) := by decide +kernel
theorem dL_later_19 : decode cL_later 19 = .ok (.iconst 2, 1) := by decide +kernel
theorem dL_later_20 : decode cL_later 20 = .ok (.ireturn, 1) := by decide +kernel
theorem dL_later_21 : decode cL_later 21 = .ok (.iconst 0, 1) := by decide +kernel
theorem dL_later_22 : decode cL_later 22 = .ok (.ireturn, 1) := by decide +kernel
theorem dL_begins_0 : decode cL_begins 0 = .ok (.aload_n 2, 1) := by decide +kernel
theorem dL_begins_1 : decode cL_begins 1 = .ok (.iconst 0, 1) := by decide +kernel
theorem dL_begins_2 : decode cL_begins 2 = .ok (.aload_n 0, 1) := by decide +kernel
theorem dL_begins_3 : decode cL_begins 3 = .ok (.iload_n 1, 1) := by decide +kernel
theorem dL_begins_4 : decode cL_begins 4 = .ok (.invokevirtual 69, 3) := by decide +kernel
theorem dL_begins_7 : decode cL_begins 7 = .ok (.i2l, 1) := by decide +kernel
theorem dL_begins_8 : decode cL_begins 8 = .ok (.lastore, 1) := by decide +kernel
theorem dL_begins_9 : decode cL_begins 9 = .ok (.goto 6, 3) := by decide +kernel
theorem dL_begins_12 : decode cL_begins 12 = .ok (.astore_n 3, 1) := by decide +kernel
theorem dL_begins_13 : decode cL_begins 13 = .ok (.iconst 1, 1) := by decide +kernel
theorem dL_begins_14 : decode cL_begins 14 = .ok (.ireturn, 1) := by decide +kernel
theorem dL_begins_15 : decode cL_begins 15 = .ok (.iconst 0, 1) := by decide +kernel
theorem dL_begins_16 : decode cL_begins 16 = .ok (.ireturn, 1) := by decide +kernel
theorem dL_cost_0 : decode cL_cost 0 = .ok (.aload 6, 2) := by decide +kernel
theorem dL_cost_2 : decode cL_cost 2 = .ok (.iconst 0, 1) := by decide +kernel
theorem dL_cost_3 : decode cL_cost 3 = .ok (.aload_n 0, 1) := by decide +kernel
theorem dL_cost_4 : decode cL_cost 4 = .ok (.iload_n 1, 1) := by decide +kernel
theorem dL_cost_5 : decode cL_cost 5 = .ok (.iload_n 2, 1) := by decide +kernel
theorem dL_cost_6 : decode cL_cost 6 = .ok (.iload_n 3, 1) := by decide +kernel
theorem dL_cost_7 : decode cL_cost 7 = .ok (.iload 4, 2) := by decide +kernel
theorem dL_cost_9 : decode cL_cost 9 = .ok (.iload 5, 2) := by decide +kernel
theorem dL_cost_11 : decode cL_cost 11 = .ok (.invokevirtual 72, 3) := by decide +kernel
theorem dL_cost_14 : decode cL_cost 14 = .ok (.i2l, 1) := by decide +kernel
theorem dL_cost_15 : decode cL_cost 15 = .ok (.lastore, 1) := by decide +kernel
theorem dL_cost_16 : decode cL_cost 16 = .ok (.goto 11, 3) := by decide +kernel
theorem dL_cost_19 : decode cL_cost 19 = .ok (.astore 7, 2) := by decide +kernel
theorem dL_cost_21 : decode cL_cost 21 = .ok (.iconst 1, 1) := by decide +kernel
theorem dL_cost_22 : decode cL_cost 22 = .ok (.ireturn, 1) := by decide +kernel
theorem dL_cost_23 : decode cL_cost 23 = .ok (.astore 7, 2) := by decide +kernel
theorem dL_cost_25 : decode cL_cost 25 = .ok (.iconst 2, 1) := by decide +kernel
theorem dL_cost_26 : decode cL_cost 26 = .ok (.ireturn, 1) := by decide +kernel
theorem dL_cost_27 : decode cL_cost 27 = .ok (.iconst 0, 1) := by decide +kernel
theorem dL_cost_28 : decode cL_cost 28 = .ok (.ireturn, 1) := by decide +kernel
theorem dL_willOwe_0 : decode cL_willOwe 0 = .ok (.aload_n 2, 1) := by decide +kernel
theorem dL_willOwe_1 : decode cL_willOwe 1 = .ok (.iconst 0, 1) := by decide +kernel
theorem dL_willOwe_2 : decode cL_willOwe 2 = .ok (.aload_n 0, 1) := by decide +kernel
theorem dL_willOwe_3 : decode cL_willOwe 3 = .ok (.iload_n 1, 1) := by decide +kernel
theorem dL_willOwe_4 : decode cL_willOwe 4 = .ok (.invokevirtual 75, 3) := by decide +kernel
theorem dL_willOwe_7 : decode cL_willOwe 7 = .ok (.i2l, 1) := by decide +kernel
theorem dL_willOwe_8 : decode cL_willOwe 8 = .ok (.lastore, 1) := by decide +kernel
theorem dL_willOwe_9 : decode cL_willOwe 9 = .ok (.goto 6, 3) := by decide +kernel
theorem dL_willOwe_12 : decode cL_willOwe 12 = .ok (.astore_n 3, 1) := by decide +kernel
theorem dL_willOwe_13 : decode cL_willOwe 13 = .ok (.iconst 1, 1) := by decide +kernel
theorem dL_willOwe_14 : decode cL_willOwe 14 = .ok (.ireturn, 1) := by decide +kernel
theorem dL_willOwe_15 : decode cL_willOwe 15 = .ok (.iconst 0, 1) := by decide +kernel
theorem dL_willOwe_16 : decode cL_willOwe 16 = .ok (.ireturn, 1) := by decide +kernel
theorem dL_runScript_0 : decode cL_runScript 0 = .ok (.aload 4, 2) := by decide +kernel
theorem dL_runScript_2 : decode cL_runScript 2 = .ok (.iconst 0, 1) := by decide +kernel
theorem dL_runScript_3 : decode cL_runScript 3 = .ok (.aload_n 0, 1) := by decide +kernel
theorem dL_runScript_4 : decode cL_runScript 4 = .ok (.iload_n 1, 1) := by decide +kernel
theorem dL_runScript_5 : decode cL_runScript 5 = .ok (.lload_n 2, 1) := by decide +kernel
theorem dL_runScript_6 : decode cL_runScript 6 = .ok (.invokevirtual 78, 3) := by decide +kernel
theorem dL_runScript_9 : decode cL_runScript 9 = .ok (.i2l, 1) := by decide +kernel
theorem dL_runScript_10 : decode cL_runScript 10 = .ok (.lastore, 1) := by decide +kernel
theorem dL_runScript_11 : decode cL_runScript 11 = .ok (.goto 7, 3) := by decide +kernel
theorem dL_runScript_14 : decode cL_runScript 14 = .ok (.astore 5, 2) := by decide +kernel
theorem dL_runScript_16 : decode cL_runScript 16 = .ok (.iconst 1, 1) := by decide +kernel
theorem dL_runScript_17 : decode cL_runScript 17 = .ok (.ireturn, 1) := by decide +kernel
theorem dL_runScript_18 : decode cL_runScript 18 = .ok (.iconst 0, 1) := by decide +kernel
theorem dL_runScript_19 : decode cL_runScript 19 = .ok (.ireturn, 1) := by decide +kernel
theorem dL_simulate_0 : decode cL_simulate 0 = .ok (.aload 4, 2) := by decide +kernel
theorem dL_simulate_2 : decode cL_simulate 2 = .ok (.iconst 0, 1) := by decide +kernel
theorem dL_simulate_3 : decode cL_simulate 3 = .ok (.aload_n 0, 1) := by decide +kernel
theorem dL_simulate_4 : decode cL_simulate 4 = .ok (.lload_n 1, 1) := by decide +kernel
theorem dL_simulate_5 : decode cL_simulate 5 = .ok (.iload_n 3, 1) := by decide +kernel
theorem dL_simulate_6 : decode cL_simulate 6 = .ok (.invokevirtual 82, 3) := by decide +kernel
theorem dL_simulate_9 : decode cL_simulate 9 = .ok (.i2l, 1) := by decide +kernel
theorem dL_simulate_10 : decode cL_simulate 10 = .ok (.lastore, 1) := by decide +kernel
theorem dL_simulate_11 : decode cL_simulate 11 = .ok (.goto 7, 3) := by decide +kernel
theorem dL_simulate_14 : decode cL_simulate 14 = .ok (.astore 5, 2) := by decide +kernel
theorem dL_simulate_16 : decode cL_simulate 16 = .ok (.iconst 1, 1) := by decide +kernel
theorem dL_simulate_17 : decode cL_simulate 17 = .ok (.ireturn, 1) := by decide +kernel
theorem dL_simulate_18 : decode cL_simulate 18 = .ok (.iconst 0, 1) := by decide +kernel
theorem dL_simulate_19 : decode cL_simulate 19 = .ok (.ireturn, 1) := by decide +kernel
theorem dL_save_0 : decode cL_save 0 = .ok (.aload_n 2, 1) := by decide +kernel
theorem dL_save_1 : decode cL_save 1 = .ok (.iconst 0, 1) := by decide +kernel
theorem dL_save_2 : decode cL_save 2 = .ok (.aload_n 0, 1) := by decide +kernel
theorem dL_save_3 : decode cL_save 3 = .ok (.iload_n 1, 1) := by decide +kernel
theorem dL_save_4 : decode cL_save 4 = .ok (.invokevirtual 86, 3) := by decide +kernel
theorem dL_save_7 : decode cL_save 7 = .ok (.i2l, 1) := by decide +kernel
theorem dL_save_8 : decode cL_save 8 = .ok (.lastore, 1) := by decide +kernel
theorem dL_save_9 : decode cL_save 9 = .ok (.goto 6, 3) := by decide +kernel
theorem dL_save_12 : decode cL_save 12 = .ok (.astore_n 3, 1) := by decide +kernel
theorem dL_save_13 : decode cL_save 13 = .ok (.iconst 1, 1) := by decide +kernel
theorem dL_save_14 : decode cL_save 14 = .ok (.ireturn, 1) := by decide +kernel
theorem dL_save_15 : decode cL_save 15 = .ok (.iconst 0, 1) := by decide +kernel
theorem dL_save_16 : decode cL_save 16 = .ok (.ireturn, 1) := by decide +kernel
theorem dL_restore_0 : decode cL_restore 0 = .ok (.aload_n 2, 1) := by decide +kernel
theorem dL_restore_1 : decode cL_restore 1 = .ok (.iconst 0, 1) := by decide +kernel
theorem dL_restore_2 : decode cL_restore 2 = .ok (.aload_n 0, 1) := by decide +kernel
theorem dL_restore_3 : decode cL_restore 3 = .ok (.iload_n 1, 1) := by decide +kernel
theorem dL_restore_4 : decode cL_restore 4 = .ok (.invokevirtual 89, 3) := by decide +kernel
theorem dL_restore_7 : decode cL_restore 7 = .ok (.i2l, 1) := by decide +kernel
theorem dL_restore_8 : decode cL_restore 8 = .ok (.lastore, 1) := by decide +kernel
theorem dL_restore_9 : decode cL_restore 9 = .ok (.goto 9, 3) := by decide +kernel
theorem dL_restore_12 : decode cL_restore 12 = .ok (.astore_n 3, 1) := by decide +kernel
theorem dL_restore_13 : decode cL_restore 13 = .ok (.iconst 1, 1) := by decide +kernel
theorem dL_restore_14 : decode cL_restore 14 = .ok (.ireturn, 1) := by decide +kernel
theorem dL_restore_15 : decode cL_restore 15 = .ok (.astore_n 3, 1) := by decide +kernel
theorem dL_restore_16 : decode cL_restore 16 = .ok (.iconst 2, 1) := by decide +kernel
theorem dL_restore_17 : decode cL_restore 17 = .ok (.ireturn, 1) := by decide +kernel
theorem dL_restore_18 : decode cL_restore 18 = .ok (.iconst 0, 1) := by decide +kernel
theorem dL_restore_19 : decode cL_restore 19 = .ok (.ireturn, 1) := by decide +kernel
theorem dL_law_0 : decode cL_law 0 = .ok (.new 8, 3) := by decide +kernel
theorem dL_law_3 : decode cL_law 3 = .ok (.dup, 1) := by decide +kernel
theorem dL_law_4 : decode cL_law 4 = .ok (.invokespecial 92, 3) := by decide +kernel
theorem dL_law_7 : decode cL_law 7 = .ok (.astore_n 1, 1) := by decide +kernel
theorem dL_law_8 : decode cL_law 8 = .ok (.new 93, 3) := by decide +kernel
theorem dL_law_11 : decode cL_law 11 = .ok (.dup, 1) := by decide +kernel
theorem dL_law_12 : decode cL_law 12 = .ok (.invokespecial 95, 3) := by decide +kernel
theorem dL_law_15 : decode cL_law 15 = .ok (.astore_n 2, 1) := by decide +kernel
theorem dL_law_16 : decode cL_law 16 = .ok (.iconst 1, 1) := by decide +kernel
theorem dL_law_17 : decode cL_law 17 = .ok (.newarray .long, 2) := by decide +kernel
theorem dL_law_19 : decode cL_law 19 = .ok (.astore_n 3, 1) := by decide +kernel
theorem dL_law_20 : decode cL_law 20 = .ok (.iconst 0, 1) := by decide +kernel
theorem dL_law_21 : decode cL_law 21 = .ok (.istore 4, 2) := by decide +kernel
theorem dL_law_23 : decode cL_law 23 = .ok (.iload 4, 2) := by decide +kernel
theorem dL_law_25 : decode cL_law 25 = .ok (.aload_n 0, 1) := by decide +kernel
theorem dL_law_26 : decode cL_law 26 = .ok (.arraylength, 1) := by decide +kernel
theorem dL_law_27 : decode cL_law 27 = .ok (.bipush 6, 2) := by decide +kernel
theorem dL_law_29 : decode cL_law 29 = .ok (.isub, 1) := by decide +kernel
theorem dL_law_30 : decode cL_law 30 = .ok (.if_icmp .gt 1711, 3) := by decide +kernel
theorem dL_law_33 : decode cL_law 33 = .ok (.aload_n 0, 1) := by decide +kernel
theorem dL_law_34 : decode cL_law 34 = .ok (.iload 4, 2) := by decide +kernel
theorem dL_law_36 : decode cL_law 36 = .ok (.iaload, 1) := by decide +kernel
theorem dL_law_37 : decode cL_law 37 = .ok (.bipush 31, 2) := by decide +kernel
theorem dL_law_39 : decode cL_law 39 = .ok (.iand, 1) := by decide +kernel
theorem dL_law_40 : decode cL_law 40 = .ok (.tableswitch 1695 0 25 #[120, 176, 189, 202, 246, 302, 370, 426, 494, 586, 630, 734, 790, 874, 930, 986, 1042, 1086, 1154, 1210, 1314, 1370, 1383, 1483, 1583, 1639], 120) := by decide +kernel
theorem dL_law_160 : decode cL_law 160 = .ok (.aload_n 1, 1) := by decide +kernel
theorem dL_law_161 : decode cL_law 161 = .ok (.aload_n 0, 1) := by decide +kernel
theorem dL_law_162 : decode cL_law 162 = .ok (.iload 4, 2) := by decide +kernel
theorem dL_law_164 : decode cL_law 164 = .ok (.iconst 1, 1) := by decide +kernel
theorem dL_law_165 : decode cL_law 165 = .ok (.iadd, 1) := by decide +kernel
theorem dL_law_166 : decode cL_law 166 = .ok (.iaload, 1) := by decide +kernel
theorem dL_law_167 : decode cL_law 167 = .ok (.aload_n 3, 1) := by decide +kernel
theorem dL_law_168 : decode cL_law 168 = .ok (.invokestatic 96, 3) := by decide +kernel
theorem dL_law_171 : decode cL_law 171 = .ok (.istore 5, 2) := by decide +kernel
theorem dL_law_173 : decode cL_law 173 = .ok (.aload_n 2, 1) := by decide +kernel
theorem dL_law_174 : decode cL_law 174 = .ok (.aload_n 0, 1) := by decide +kernel
theorem dL_law_175 : decode cL_law 175 = .ok (.iload 4, 2) := by decide +kernel
theorem dL_law_177 : decode cL_law 177 = .ok (.iconst 1, 1) := by decide +kernel
theorem dL_law_178 : decode cL_law 178 = .ok (.iadd, 1) := by decide +kernel
theorem dL_law_179 : decode cL_law 179 = .ok (.iaload, 1) := by decide +kernel
theorem dL_law_180 : decode cL_law 180 = .ok (.invokevirtual 101, 3) := by decide +kernel
theorem dL_law_183 : decode cL_law 183 = .ok (.istore 6, 2) := by decide +kernel
theorem dL_law_185 : decode cL_law 185 = .ok (.aload_n 2, 1) := by decide +kernel
theorem dL_law_186 : decode cL_law 186 = .ok (.invokevirtual 102, 3) := by decide +kernel
theorem dL_law_189 : decode cL_law 189 = .ok (.iload 5, 2) := by decide +kernel
theorem dL_law_191 : decode cL_law 191 = .ok (.if_icmp .eq 5, 3) := by decide +kernel
theorem dL_law_194 : decode cL_law 194 = .ok (.iconst 0, 1) := by decide +kernel
theorem dL_law_195 : decode cL_law 195 = .ok (.ireturn, 1) := by decide +kernel
theorem dL_law_196 : decode cL_law 196 = .ok (.iload 5, 2) := by decide +kernel
theorem dL_law_198 : decode cL_law 198 = .ok (.ifCond .ne 15, 3) := by decide +kernel
theorem dL_law_201 : decode cL_law 201 = .ok (.aload_n 3, 1) := by decide +kernel
theorem dL_law_202 : decode cL_law 202 = .ok (.iconst 0, 1) := by decide +kernel
theorem dL_law_203 : decode cL_law 203 = .ok (.laload, 1) := by decide +kernel
theorem dL_law_204 : decode cL_law 204 = .ok (.iload 6, 2) := by decide +kernel
theorem dL_law_206 : decode cL_law 206 = .ok (.i2l, 1) := by decide +kernel
theorem dL_law_207 : decode cL_law 207 = .ok (.lcmp, 1) := by decide +kernel
theorem dL_law_208 : decode cL_law 208 = .ok (.ifCond .eq 5, 3) := by decide +kernel
theorem dL_law_211 : decode cL_law 211 = .ok (.iconst 0, 1) := by decide +kernel
theorem dL_law_212 : decode cL_law 212 = .ok (.ireturn, 1) := by decide +kernel
theorem dL_law_213 : decode cL_law 213 = .ok (.goto 1522, 3) := by decide +kernel
theorem dL_law_216 : decode cL_law 216 = .ok (.aload_n 1, 1) := by decide +kernel
theorem dL_law_217 : decode cL_law 217 = .ok (.invokevirtual 105, 3) := by decide +kernel
theorem dL_law_220 : decode cL_law 220 = .ok (.aload_n 2, 1) := by decide +kernel
theorem dL_law_221 : decode cL_law 221 = .ok (.invokevirtual 108, 3) := by decide +kernel
theorem dL_law_224 : decode cL_law 224 = .ok (.if_icmp .eq 1511, 3) := by decide +kernel
theorem dL_law_227 : decode cL_law 227 = .ok (.iconst 0, 1) := by decide +kernel
theorem dL_law_228 : decode cL_law 228 = .ok (.ireturn, 1) := by decide +kernel
theorem dL_law_229 : decode cL_law 229 = .ok (.aload_n 1, 1) := by decide +kernel
theorem dL_law_230 : decode cL_law 230 = .ok (.invokevirtual 109, 3) := by decide +kernel
theorem dL_law_233 : decode cL_law 233 = .ok (.aload_n 2, 1) := by decide +kernel
theorem dL_law_234 : decode cL_law 234 = .ok (.invokevirtual 112, 3) := by decide +kernel
theorem dL_law_237 : decode cL_law 237 = .ok (.if_icmp .eq 1498, 3) := by decide +kernel
theorem dL_law_240 : decode cL_law 240 = .ok (.iconst 0, 1) := by decide +kernel
theorem dL_law_241 : decode cL_law 241 = .ok (.ireturn, 1) := by decide +kernel
theorem dL_law_242 : decode cL_law 242 = .ok (.aload_n 1, 1) := by decide +kernel
theorem dL_law_243 : decode cL_law 243 = .ok (.aload_n 3, 1) := by decide +kernel
theorem dL_law_244 : decode cL_law 244 = .ok (.invokestatic 113, 3) := by decide +kernel
theorem dL_law_247 : decode cL_law 247 = .ok (.istore 5, 2) := by decide +kernel
theorem dL_law_249 : decode cL_law 249 = .ok (.aload_n 2, 1) := by decide +kernel
theorem dL_law_250 : decode cL_law 250 = .ok (.invokevirtual 116, 3) := by decide +kernel
theorem dL_law_253 : decode cL_law 253 = .ok (.istore 6, 2) := by decide +kernel
theorem dL_law_255 : decode cL_law 255 = .ok (.aload_n 2, 1) := by decide +kernel
theorem dL_law_256 : decode cL_law 256 = .ok (.invokevirtual 102, 3) := by decide +kernel
theorem dL_law_259 : decode cL_law 259 = .ok (.iload 5, 2) := by decide +kernel
theorem dL_law_261 : decode cL_law 261 = .ok (.if_icmp .eq 5, 3) := by decide +kernel
theorem dL_law_264 : decode cL_law 264 = .ok (.iconst 0, 1) := by decide +kernel
theorem dL_law_265 : decode cL_law 265 = .ok (.ireturn, 1) := by decide +kernel
theorem dL_law_266 : decode cL_law 266 = .ok (.iload 5, 2) := by decide +kernel
theorem dL_law_268 : decode cL_law 268 = .ok (.ifCond .ne 15, 3) := by decide +kernel
theorem dL_law_271 : decode cL_law 271 = .ok (.aload_n 3, 1) := by decide +kernel
theorem dL_law_272 : decode cL_law 272 = .ok (.iconst 0, 1) := by decide +kernel
theorem dL_law_273 : decode cL_law 273 = .ok (.laload, 1) := by decide +kernel
theorem dL_law_274 : decode cL_law 274 = .ok (.iload 6, 2) := by decide +kernel
theorem dL_law_276 : decode cL_law 276 = .ok (.i2l, 1) := by decide +kernel
theorem dL_law_277 : decode cL_law 277 = .ok (.lcmp, 1) := by decide +kernel
theorem dL_law_278 : decode cL_law 278 = .ok (.ifCond .eq 5, 3) := by decide +kernel
theorem dL_law_281 : decode cL_law 281 = .ok (.iconst 0, 1) := by decide +kernel
theorem dL_law_282 : decode cL_law 282 = .ok (.ireturn, 1) := by decide +kernel
theorem dL_law_283 : decode cL_law 283 = .ok (.goto 1452, 3) := by decide +kernel
theorem dL_law_286 : decode cL_law 286 = .ok (.aload_n 1, 1) := by decide +kernel
theorem dL_law_287 : decode cL_law 287 = .ok (.aload_n 0, 1) := by decide +kernel
theorem dL_law_288 : decode cL_law 288 = .ok (.iload 4, 2) := by decide +kernel
theorem dL_law_290 : decode cL_law 290 = .ok (.iconst 1, 1) := by decide +kernel
theorem dL_law_291 : decode cL_law 291 = .ok (.iadd, 1) := by decide +kernel
theorem dL_law_292 : decode cL_law 292 = .ok (.iaload, 1) := by decide +kernel
theorem dL_law_293 : decode cL_law 293 = .ok (.aload_n 3, 1) := by decide +kernel
theorem dL_law_294 : decode cL_law 294 = .ok (.invokestatic 117, 3) := by decide +kernel
theorem dL_law_297 : decode cL_law 297 = .ok (.istore 5, 2) := by decide +kernel
theorem dL_law_299 : decode cL_law 299 = .ok (.aload_n 2, 1) := by decide +kernel
theorem dL_law_300 : decode cL_law 300 = .ok (.aload_n 0, 1) := by decide +kernel
theorem dL_law_301 : decode cL_law 301 = .ok (.iload 4, 2) := by decide +kernel
theorem dL_law_303 : decode cL_law 303 = .ok (.iconst 1, 1) := by decide +kernel
theorem dL_law_304 : decode cL_law 304 = .ok (.iadd, 1) := by decide +kernel
theorem dL_law_305 : decode cL_law 305 = .ok (.iaload, 1) := by decide +kernel
theorem dL_law_306 : decode cL_law 306 = .ok (.invokevirtual 119, 3) := by decide +kernel
theorem dL_law_309 : decode cL_law 309 = .ok (.istore 6, 2) := by decide +kernel
theorem dL_law_311 : decode cL_law 311 = .ok (.aload_n 2, 1) := by decide +kernel
theorem dL_law_312 : decode cL_law 312 = .ok (.invokevirtual 102, 3) := by decide +kernel
theorem dL_law_315 : decode cL_law 315 = .ok (.iload 5, 2) := by decide +kernel
theorem dL_law_317 : decode cL_law 317 = .ok (.if_icmp .eq 5, 3) := by decide +kernel
theorem dL_law_320 : decode cL_law 320 = .ok (.iconst 0, 1) := by decide +kernel
theorem dL_law_321 : decode cL_law 321 = .ok (.ireturn, 1) := by decide +kernel
theorem dL_law_322 : decode cL_law 322 = .ok (.iload 5, 2) := by decide +kernel
theorem dL_law_324 : decode cL_law 324 = .ok (.ifCond .ne 15, 3) := by decide +kernel
theorem dL_law_327 : decode cL_law 327 = .ok (.aload_n 3, 1) := by decide +kernel
theorem dL_law_328 : decode cL_law 328 = .ok (.iconst 0, 1) := by decide +kernel
theorem dL_law_329 : decode cL_law 329 = .ok (.laload, 1) := by decide +kernel
theorem dL_law_330 : decode cL_law 330 = .ok (.iload 6, 2) := by decide +kernel
theorem dL_law_332 : decode cL_law 332 = .ok (.i2l, 1) := by decide +kernel
theorem dL_law_333 : decode cL_law 333 = .ok (.lcmp, 1) := by decide +kernel
theorem dL_law_334 : decode cL_law 334 = .ok (.ifCond .eq 5, 3) := by decide +kernel
theorem dL_law_337 : decode cL_law 337 = .ok (.iconst 0, 1) := by decide +kernel
theorem dL_law_338 : decode cL_law 338 = .ok (.ireturn, 1) := by decide +kernel
theorem dL_law_339 : decode cL_law 339 = .ok (.goto 1396, 3) := by decide +kernel
theorem dL_law_342 : decode cL_law 342 = .ok (.aload_n 1, 1) := by decide +kernel
theorem dL_law_343 : decode cL_law 343 = .ok (.aload_n 0, 1) := by decide +kernel
theorem dL_law_344 : decode cL_law 344 = .ok (.iload 4, 2) := by decide +kernel
theorem dL_law_346 : decode cL_law 346 = .ok (.iconst 1, 1) := by decide +kernel
theorem dL_law_347 : decode cL_law 347 = .ok (.iadd, 1) := by decide +kernel
theorem dL_law_348 : decode cL_law 348 = .ok (.iaload, 1) := by decide +kernel
theorem dL_law_349 : decode cL_law 349 = .ok (.aload_n 0, 1) := by decide +kernel
theorem dL_law_350 : decode cL_law 350 = .ok (.iload 4, 2) := by decide +kernel
theorem dL_law_352 : decode cL_law 352 = .ok (.iconst 2, 1) := by decide +kernel
theorem dL_law_353 : decode cL_law 353 = .ok (.iadd, 1) := by decide +kernel
theorem dL_law_354 : decode cL_law 354 = .ok (.iaload, 1) := by decide +kernel
theorem dL_law_355 : decode cL_law 355 = .ok (.aload_n 3, 1) := by decide +kernel
theorem dL_law_356 : decode cL_law 356 = .ok (.invokestatic 120, 3) := by decide +kernel
theorem dL_law_359 : decode cL_law 359 = .ok (.istore 5, 2) := by decide +kernel
theorem dL_law_361 : decode cL_law 361 = .ok (.aload_n 2, 1) := by decide +kernel
theorem dL_law_362 : decode cL_law 362 = .ok (.aload_n 0, 1) := by decide +kernel
theorem dL_law_363 : decode cL_law 363 = .ok (.iload 4, 2) := by decide +kernel
theorem dL_law_365 : decode cL_law 365 = .ok (.iconst 1, 1) := by decide +kernel
theorem dL_law_366 : decode cL_law 366 = .ok (.iadd, 1) := by decide +kernel
theorem dL_law_367 : decode cL_law 367 = .ok (.iaload, 1) := by decide +kernel
theorem dL_law_368 : decode cL_law 368 = .ok (.aload_n 0, 1) := by decide +kernel
theorem dL_law_369 : decode cL_law 369 = .ok (.iload 4, 2) := by decide +kernel
theorem dL_law_371 : decode cL_law 371 = .ok (.iconst 2, 1) := by decide +kernel
theorem dL_law_372 : decode cL_law 372 = .ok (.iadd, 1) := by decide +kernel
theorem dL_law_373 : decode cL_law 373 = .ok (.iaload, 1) := by decide +kernel
theorem dL_law_374 : decode cL_law 374 = .ok (.invokevirtual 123, 3) := by decide +kernel
theorem dL_law_377 : decode cL_law 377 = .ok (.istore 6, 2) := by decide +kernel
theorem dL_law_379 : decode cL_law 379 = .ok (.aload_n 2, 1) := by decide +kernel
theorem dL_law_380 : decode cL_law 380 = .ok (.invokevirtual 102, 3) := by decide +kernel
theorem dL_law_383 : decode cL_law 383 = .ok (.iload 5, 2) := by decide +kernel
theorem dL_law_385 : decode cL_law 385 = .ok (.if_icmp .eq 5, 3) := by decide +kernel
theorem dL_law_388 : decode cL_law 388 = .ok (.iconst 0, 1) := by decide +kernel
theorem dL_law_389 : decode cL_law 389 = .ok (.ireturn, 1) := by decide +kernel
theorem dL_law_390 : decode cL_law 390 = .ok (.iload 5, 2) := by decide +kernel
theorem dL_law_392 : decode cL_law 392 = .ok (.ifCond .ne 15, 3) := by decide +kernel
theorem dL_law_395 : decode cL_law 395 = .ok (.aload_n 3, 1) := by decide +kernel
theorem dL_law_396 : decode cL_law 396 = .ok (.iconst 0, 1) := by decide +kernel
theorem dL_law_397 : decode cL_law 397 = .ok (.laload, 1) := by decide +kernel
theorem dL_law_398 : decode cL_law 398 = .ok (.iload 6, 2) := by decide +kernel
theorem dL_law_400 : decode cL_law 400 = .ok (.i2l, 1) := by decide +kernel
theorem dL_law_401 : decode cL_law 401 = .ok (.lcmp, 1) := by decide +kernel
theorem dL_law_402 : decode cL_law 402 = .ok (.ifCond .eq 5, 3) := by decide +kernel
theorem dL_law_405 : decode cL_law 405 = .ok (.iconst 0, 1) := by decide +kernel
theorem dL_law_406 : decode cL_law 406 = .ok (.ireturn, 1) := by decide +kernel
theorem dL_law_407 : decode cL_law 407 = .ok (.goto 1328, 3) := by decide +kernel
theorem dL_law_410 : decode cL_law 410 = .ok (.aload_n 1, 1) := by decide +kernel
theorem dL_law_411 : decode cL_law 411 = .ok (.aload_n 0, 1) := by decide +kernel
theorem dL_law_412 : decode cL_law 412 = .ok (.iload 4, 2) := by decide +kernel
theorem dL_law_414 : decode cL_law 414 = .ok (.iconst 1, 1) := by decide +kernel
theorem dL_law_415 : decode cL_law 415 = .ok (.iadd, 1) := by decide +kernel
theorem dL_law_416 : decode cL_law 416 = .ok (.iaload, 1) := by decide +kernel
theorem dL_law_417 : decode cL_law 417 = .ok (.aload_n 3, 1) := by decide +kernel
theorem dL_law_418 : decode cL_law 418 = .ok (.invokestatic 124, 3) := by decide +kernel
theorem dL_law_421 : decode cL_law 421 = .ok (.istore 5, 2) := by decide +kernel
theorem dL_law_423 : decode cL_law 423 = .ok (.aload_n 2, 1) := by decide +kernel
theorem dL_law_424 : decode cL_law 424 = .ok (.aload_n 0, 1) := by decide +kernel
theorem dL_law_425 : decode cL_law 425 = .ok (.iload 4, 2) := by decide +kernel
theorem dL_law_427 : decode cL_law 427 = .ok (.iconst 1, 1) := by decide +kernel
theorem dL_law_428 : decode cL_law 428 = .ok (.iadd, 1) := by decide +kernel
theorem dL_law_429 : decode cL_law 429 = .ok (.iaload, 1) := by decide +kernel
theorem dL_law_430 : decode cL_law 430 = .ok (.invokevirtual 126, 3) := by decide +kernel
theorem dL_law_433 : decode cL_law 433 = .ok (.istore 6, 2) := by decide +kernel
theorem dL_law_435 : decode cL_law 435 = .ok (.aload_n 2, 1) := by decide +kernel
theorem dL_law_436 : decode cL_law 436 = .ok (.invokevirtual 102, 3) := by decide +kernel
theorem dL_law_439 : decode cL_law 439 = .ok (.iload 5, 2) := by decide +kernel
theorem dL_law_441 : decode cL_law 441 = .ok (.if_icmp .eq 5, 3) := by decide +kernel
theorem dL_law_444 : decode cL_law 444 = .ok (.iconst 0, 1) := by decide +kernel
theorem dL_law_445 : decode cL_law 445 = .ok (.ireturn, 1) := by decide +kernel
theorem dL_law_446 : decode cL_law 446 = .ok (.iload 5, 2) := by decide +kernel
theorem dL_law_448 : decode cL_law 448 = .ok (.ifCond .ne 15, 3) := by decide +kernel
theorem dL_law_451 : decode cL_law 451 = .ok (.aload_n 3, 1) := by decide +kernel
theorem dL_law_452 : decode cL_law 452 = .ok (.iconst 0, 1) := by decide +kernel
theorem dL_law_453 : decode cL_law 453 = .ok (.laload, 1) := by decide +kernel
theorem dL_law_454 : decode cL_law 454 = .ok (.iload 6, 2) := by decide +kernel
theorem dL_law_456 : decode cL_law 456 = .ok (.i2l, 1) := by decide +kernel
theorem dL_law_457 : decode cL_law 457 = .ok (.lcmp, 1) := by decide +kernel
theorem dL_law_458 : decode cL_law 458 = .ok (.ifCond .eq 5, 3) := by decide +kernel
theorem dL_law_461 : decode cL_law 461 = .ok (.iconst 0, 1) := by decide +kernel
theorem dL_law_462 : decode cL_law 462 = .ok (.ireturn, 1) := by decide +kernel
theorem dL_law_463 : decode cL_law 463 = .ok (.goto 1272, 3) := by decide +kernel
theorem dL_law_466 : decode cL_law 466 = .ok (.aload_n 1, 1) := by decide +kernel
theorem dL_law_467 : decode cL_law 467 = .ok (.aload_n 0, 1) := by decide +kernel
theorem dL_law_468 : decode cL_law 468 = .ok (.iload 4, 2) := by decide +kernel
theorem dL_law_470 : decode cL_law 470 = .ok (.iconst 1, 1) := by decide +kernel
theorem dL_law_471 : decode cL_law 471 = .ok (.iadd, 1) := by decide +kernel
theorem dL_law_472 : decode cL_law 472 = .ok (.iaload, 1) := by decide +kernel
theorem dL_law_473 : decode cL_law 473 = .ok (.aload_n 0, 1) := by decide +kernel
theorem dL_law_474 : decode cL_law 474 = .ok (.iload 4, 2) := by decide +kernel
theorem dL_law_476 : decode cL_law 476 = .ok (.iconst 2, 1) := by decide +kernel
theorem dL_law_477 : decode cL_law 477 = .ok (.iadd, 1) := by decide +kernel
theorem dL_law_478 : decode cL_law 478 = .ok (.iaload, 1) := by decide +kernel
theorem dL_law_479 : decode cL_law 479 = .ok (.aload_n 3, 1) := by decide +kernel
theorem dL_law_480 : decode cL_law 480 = .ok (.invokestatic 127, 3) := by decide +kernel
theorem dL_law_483 : decode cL_law 483 = .ok (.istore 5, 2) := by decide +kernel
theorem dL_law_485 : decode cL_law 485 = .ok (.aload_n 2, 1) := by decide +kernel
theorem dL_law_486 : decode cL_law 486 = .ok (.aload_n 0, 1) := by decide +kernel
theorem dL_law_487 : decode cL_law 487 = .ok (.iload 4, 2) := by decide +kernel
theorem dL_law_489 : decode cL_law 489 = .ok (.iconst 1, 1) := by decide +kernel
theorem dL_law_490 : decode cL_law 490 = .ok (.iadd, 1) := by decide +kernel
theorem dL_law_491 : decode cL_law 491 = .ok (.iaload, 1) := by decide +kernel
theorem dL_law_492 : decode cL_law 492 = .ok (.aload_n 0, 1) := by decide +kernel
theorem dL_law_493 : decode cL_law 493 = .ok (.iload 4, 2) := by decide +kernel
theorem dL_law_495 : decode cL_law 495 = .ok (.iconst 2, 1) := by decide +kernel
theorem dL_law_496 : decode cL_law 496 = .ok (.iadd, 1) := by decide +kernel
theorem dL_law_497 : decode cL_law 497 = .ok (.iaload, 1) := by decide +kernel
theorem dL_law_498 : decode cL_law 498 = .ok (.invokevirtual 129, 3) := by decide +kernel
theorem dL_law_501 : decode cL_law 501 = .ok (.istore 6, 2) := by decide +kernel
theorem dL_law_503 : decode cL_law 503 = .ok (.aload_n 2, 1) := by decide +kernel
theorem dL_law_504 : decode cL_law 504 = .ok (.invokevirtual 102, 3) := by decide +kernel
theorem dL_law_507 : decode cL_law 507 = .ok (.iload 5, 2) := by decide +kernel
theorem dL_law_509 : decode cL_law 509 = .ok (.if_icmp .eq 5, 3) := by decide +kernel
theorem dL_law_512 : decode cL_law 512 = .ok (.iconst 0, 1) := by decide +kernel
theorem dL_law_513 : decode cL_law 513 = .ok (.ireturn, 1) := by decide +kernel
theorem dL_law_514 : decode cL_law 514 = .ok (.iload 5, 2) := by decide +kernel
theorem dL_law_516 : decode cL_law 516 = .ok (.ifCond .ne 15, 3) := by decide +kernel
theorem dL_law_519 : decode cL_law 519 = .ok (.aload_n 3, 1) := by decide +kernel
theorem dL_law_520 : decode cL_law 520 = .ok (.iconst 0, 1) := by decide +kernel
theorem dL_law_521 : decode cL_law 521 = .ok (.laload, 1) := by decide +kernel
theorem dL_law_522 : decode cL_law 522 = .ok (.iload 6, 2) := by decide +kernel
theorem dL_law_524 : decode cL_law 524 = .ok (.i2l, 1) := by decide +kernel
theorem dL_law_525 : decode cL_law 525 = .ok (.lcmp, 1) := by decide +kernel
theorem dL_law_526 : decode cL_law 526 = .ok (.ifCond .eq 5, 3) := by decide +kernel
theorem dL_law_529 : decode cL_law 529 = .ok (.iconst 0, 1) := by decide +kernel
theorem dL_law_530 : decode cL_law 530 = .ok (.ireturn, 1) := by decide +kernel
theorem dL_law_531 : decode cL_law 531 = .ok (.goto 1204, 3) := by decide +kernel
theorem dL_law_534 : decode cL_law 534 = .ok (.aload_n 1, 1) := by decide +kernel
theorem dL_law_535 : decode cL_law 535 = .ok (.aload_n 0, 1) := by decide +kernel
theorem dL_law_536 : decode cL_law 536 = .ok (.iload 4, 2) := by decide +kernel
theorem dL_law_538 : decode cL_law 538 = .ok (.iconst 1, 1) := by decide +kernel
theorem dL_law_539 : decode cL_law 539 = .ok (.iadd, 1) := by decide +kernel
theorem dL_law_540 : decode cL_law 540 = .ok (.iaload, 1) := by decide +kernel
theorem dL_law_541 : decode cL_law 541 = .ok (.aload_n 0, 1) := by decide +kernel
theorem dL_law_542 : decode cL_law 542 = .ok (.iload 4, 2) := by decide +kernel
theorem dL_law_544 : decode cL_law 544 = .ok (.iconst 2, 1) := by decide +kernel
theorem dL_law_545 : decode cL_law 545 = .ok (.iadd, 1) := by decide +kernel
theorem dL_law_546 : decode cL_law 546 = .ok (.iaload, 1) := by decide +kernel
theorem dL_law_547 : decode cL_law 547 = .ok (.aload_n 0, 1) := by decide +kernel
theorem dL_law_548 : decode cL_law 548 = .ok (.iload 4, 2) := by decide +kernel
theorem dL_law_550 : decode cL_law 550 = .ok (.iconst 3, 1) := by decide +kernel
theorem dL_law_551 : decode cL_law 551 = .ok (.iadd, 1) := by decide +kernel
theorem dL_law_552 : decode cL_law 552 = .ok (.iaload, 1) := by decide +kernel
theorem dL_law_553 : decode cL_law 553 = .ok (.aload_n 0, 1) := by decide +kernel
theorem dL_law_554 : decode cL_law 554 = .ok (.iload 4, 2) := by decide +kernel
theorem dL_law_556 : decode cL_law 556 = .ok (.iconst 4, 1) := by decide +kernel
theorem dL_law_557 : decode cL_law 557 = .ok (.iadd, 1) := by decide +kernel
theorem dL_law_558 : decode cL_law 558 = .ok (.iaload, 1) := by decide +kernel
theorem dL_law_559 : decode cL_law 559 = .ok (.aload_n 3, 1) := by decide +kernel
theorem dL_law_560 : decode cL_law 560 = .ok (.invokestatic 130, 3) := by decide +kernel
theorem dL_law_563 : decode cL_law 563 = .ok (.istore 5, 2) := by decide +kernel
theorem dL_law_565 : decode cL_law 565 = .ok (.aload_n 2, 1) := by decide +kernel
theorem dL_law_566 : decode cL_law 566 = .ok (.aload_n 0, 1) := by decide +kernel
theorem dL_law_567 : decode cL_law 567 = .ok (.iload 4, 2) := by decide +kernel
theorem dL_law_569 : decode cL_law 569 = .ok (.iconst 1, 1) := by decide +kernel
theorem dL_law_570 : decode cL_law 570 = .ok (.iadd, 1) := by decide +kernel
theorem dL_law_571 : decode cL_law 571 = .ok (.iaload, 1) := by decide +kernel
theorem dL_law_572 : decode cL_law 572 = .ok (.aload_n 0, 1) := by decide +kernel
theorem dL_law_573 : decode cL_law 573 = .ok (.iload 4, 2) := by decide +kernel
theorem dL_law_575 : decode cL_law 575 = .ok (.iconst 2, 1) := by decide +kernel
theorem dL_law_576 : decode cL_law 576 = .ok (.iadd, 1) := by decide +kernel
theorem dL_law_577 : decode cL_law 577 = .ok (.iaload, 1) := by decide +kernel
theorem dL_law_578 : decode cL_law 578 = .ok (.aload_n 0, 1) := by decide +kernel
theorem dL_law_579 : decode cL_law 579 = .ok (.iload 4, 2) := by decide +kernel
theorem dL_law_581 : decode cL_law 581 = .ok (.iconst 3, 1) := by decide +kernel
theorem dL_law_582 : decode cL_law 582 = .ok (.iadd, 1) := by decide +kernel
theorem dL_law_583 : decode cL_law 583 = .ok (.iaload, 1) := by decide +kernel
theorem dL_law_584 : decode cL_law 584 = .ok (.aload_n 0, 1) := by decide +kernel
theorem dL_law_585 : decode cL_law 585 = .ok (.iload 4, 2) := by decide +kernel
theorem dL_law_587 : decode cL_law 587 = .ok (.iconst 4, 1) := by decide +kernel
theorem dL_law_588 : decode cL_law 588 = .ok (.iadd, 1) := by decide +kernel
theorem dL_law_589 : decode cL_law 589 = .ok (.iaload, 1) := by decide +kernel
theorem dL_law_590 : decode cL_law 590 = .ok (.invokevirtual 133, 3) := by decide +kernel
theorem dL_law_593 : decode cL_law 593 = .ok (.istore 6, 2) := by decide +kernel
theorem dL_law_595 : decode cL_law 595 = .ok (.aload_n 2, 1) := by decide +kernel
theorem dL_law_596 : decode cL_law 596 = .ok (.invokevirtual 102, 3) := by decide +kernel
theorem dL_law_599 : decode cL_law 599 = .ok (.iload 5, 2) := by decide +kernel
theorem dL_law_601 : decode cL_law 601 = .ok (.if_icmp .eq 5, 3) := by decide +kernel
theorem dL_law_604 : decode cL_law 604 = .ok (.iconst 0, 1) := by decide +kernel
theorem dL_law_605 : decode cL_law 605 = .ok (.ireturn, 1) := by decide +kernel
theorem dL_law_606 : decode cL_law 606 = .ok (.iload 5, 2) := by decide +kernel
theorem dL_law_608 : decode cL_law 608 = .ok (.ifCond .ne 15, 3) := by decide +kernel
theorem dL_law_611 : decode cL_law 611 = .ok (.aload_n 3, 1) := by decide +kernel
theorem dL_law_612 : decode cL_law 612 = .ok (.iconst 0, 1) := by decide +kernel
theorem dL_law_613 : decode cL_law 613 = .ok (.laload, 1) := by decide +kernel
theorem dL_law_614 : decode cL_law 614 = .ok (.iload 6, 2) := by decide +kernel
theorem dL_law_616 : decode cL_law 616 = .ok (.i2l, 1) := by decide +kernel
theorem dL_law_617 : decode cL_law 617 = .ok (.lcmp, 1) := by decide +kernel
theorem dL_law_618 : decode cL_law 618 = .ok (.ifCond .eq 5, 3) := by decide +kernel
theorem dL_law_621 : decode cL_law 621 = .ok (.iconst 0, 1) := by decide +kernel
theorem dL_law_622 : decode cL_law 622 = .ok (.ireturn, 1) := by decide +kernel
theorem dL_law_623 : decode cL_law 623 = .ok (.goto 1112, 3) := by decide +kernel
theorem dL_law_626 : decode cL_law 626 = .ok (.aload_n 1, 1) := by decide +kernel
theorem dL_law_627 : decode cL_law 627 = .ok (.aload_n 3, 1) := by decide +kernel
theorem dL_law_628 : decode cL_law 628 = .ok (.invokestatic 134, 3) := by decide +kernel
theorem dL_law_631 : decode cL_law 631 = .ok (.istore 5, 2) := by decide +kernel
theorem dL_law_633 : decode cL_law 633 = .ok (.aload_n 2, 1) := by decide +kernel
theorem dL_law_634 : decode cL_law 634 = .ok (.invokevirtual 136, 3) := by decide +kernel
theorem dL_law_637 : decode cL_law 637 = .ok (.istore 6, 2) := by decide +kernel
theorem dL_law_639 : decode cL_law 639 = .ok (.aload_n 2, 1) := by decide +kernel
theorem dL_law_640 : decode cL_law 640 = .ok (.invokevirtual 102, 3) := by decide +kernel
theorem dL_law_643 : decode cL_law 643 = .ok (.iload 5, 2) := by decide +kernel
theorem dL_law_645 : decode cL_law 645 = .ok (.if_icmp .eq 5, 3) := by decide +kernel
theorem dL_law_648 : decode cL_law 648 = .ok (.iconst 0, 1) := by decide +kernel
theorem dL_law_649 : decode cL_law 649 = .ok (.ireturn, 1) := by decide +kernel
theorem dL_law_650 : decode cL_law 650 = .ok (.iload 5, 2) := by decide +kernel
theorem dL_law_652 : decode cL_law 652 = .ok (.ifCond .ne 15, 3) := by decide +kernel
theorem dL_law_655 : decode cL_law 655 = .ok (.aload_n 3, 1) := by decide +kernel
theorem dL_law_656 : decode cL_law 656 = .ok (.iconst 0, 1) := by decide +kernel
theorem dL_law_657 : decode cL_law 657 = .ok (.laload, 1) := by decide +kernel
theorem dL_law_658 : decode cL_law 658 = .ok (.iload 6, 2) := by decide +kernel
theorem dL_law_660 : decode cL_law 660 = .ok (.i2l, 1) := by decide +kernel
theorem dL_law_661 : decode cL_law 661 = .ok (.lcmp, 1) := by decide +kernel
theorem dL_law_662 : decode cL_law 662 = .ok (.ifCond .eq 5, 3) := by decide +kernel
theorem dL_law_665 : decode cL_law 665 = .ok (.iconst 0, 1) := by decide +kernel
theorem dL_law_666 : decode cL_law 666 = .ok (.ireturn, 1) := by decide +kernel
theorem dL_law_667 : decode cL_law 667 = .ok (.goto 1068, 3) := by decide +kernel
theorem dL_law_670 : decode cL_law 670 = .ok (.aload_n 1, 1) := by decide +kernel
theorem dL_law_671 : decode cL_law 671 = .ok (.aload_n 0, 1) := by decide +kernel
theorem dL_law_672 : decode cL_law 672 = .ok (.iload 4, 2) := by decide +kernel
theorem dL_law_674 : decode cL_law 674 = .ok (.iconst 1, 1) := by decide +kernel
theorem dL_law_675 : decode cL_law 675 = .ok (.iadd, 1) := by decide +kernel
theorem dL_law_676 : decode cL_law 676 = .ok (.iaload, 1) := by decide +kernel
theorem dL_law_677 : decode cL_law 677 = .ok (.aload_n 0, 1) := by decide +kernel
theorem dL_law_678 : decode cL_law 678 = .ok (.iload 4, 2) := by decide +kernel
theorem dL_law_680 : decode cL_law 680 = .ok (.iconst 2, 1) := by decide +kernel
theorem dL_law_681 : decode cL_law 681 = .ok (.iadd, 1) := by decide +kernel
theorem dL_law_682 : decode cL_law 682 = .ok (.iaload, 1) := by decide +kernel
theorem dL_law_683 : decode cL_law 683 = .ok (.aload_n 0, 1) := by decide +kernel
theorem dL_law_684 : decode cL_law 684 = .ok (.iload 4, 2) := by decide +kernel
theorem dL_law_686 : decode cL_law 686 = .ok (.iconst 3, 1) := by decide +kernel
theorem dL_law_687 : decode cL_law 687 = .ok (.iadd, 1) := by decide +kernel
theorem dL_law_688 : decode cL_law 688 = .ok (.iaload, 1) := by decide +kernel
theorem dL_law_689 : decode cL_law 689 = .ok (.aload_n 0, 1) := by decide +kernel
theorem dL_law_690 : decode cL_law 690 = .ok (.iload 4, 2) := by decide +kernel
theorem dL_law_692 : decode cL_law 692 = .ok (.iconst 4, 1) := by decide +kernel
theorem dL_law_693 : decode cL_law 693 = .ok (.iadd, 1) := by decide +kernel
theorem dL_law_694 : decode cL_law 694 = .ok (.iaload, 1) := by decide +kernel
theorem dL_law_695 : decode cL_law 695 = .ok (.aload_n 0, 1) := by decide +kernel
theorem dL_law_696 : decode cL_law 696 = .ok (.iload 4, 2) := by decide +kernel
theorem dL_law_698 : decode cL_law 698 = .ok (.iconst 5, 1) := by decide +kernel
theorem dL_law_699 : decode cL_law 699 = .ok (.iadd, 1) := by decide +kernel
theorem dL_law_700 : decode cL_law 700 = .ok (.iaload, 1) := by decide +kernel
theorem dL_law_701 : decode cL_law 701 = .ok (.aload_n 3, 1) := by decide +kernel
theorem dL_law_702 : decode cL_law 702 = .ok (.invokestatic 137, 3) := by decide +kernel
theorem dL_law_705 : decode cL_law 705 = .ok (.istore 5, 2) := by decide +kernel
theorem dL_law_707 : decode cL_law 707 = .ok (.aload_n 2, 1) := by decide +kernel
theorem dL_law_708 : decode cL_law 708 = .ok (.aload_n 0, 1) := by decide +kernel
theorem dL_law_709 : decode cL_law 709 = .ok (.iload 4, 2) := by decide +kernel
theorem dL_law_711 : decode cL_law 711 = .ok (.iconst 1, 1) := by decide +kernel
theorem dL_law_712 : decode cL_law 712 = .ok (.iadd, 1) := by decide +kernel
theorem dL_law_713 : decode cL_law 713 = .ok (.iaload, 1) := by decide +kernel
theorem dL_law_714 : decode cL_law 714 = .ok (.aload_n 0, 1) := by decide +kernel
theorem dL_law_715 : decode cL_law 715 = .ok (.iload 4, 2) := by decide +kernel
theorem dL_law_717 : decode cL_law 717 = .ok (.iconst 2, 1) := by decide +kernel
theorem dL_law_718 : decode cL_law 718 = .ok (.iadd, 1) := by decide +kernel
theorem dL_law_719 : decode cL_law 719 = .ok (.iaload, 1) := by decide +kernel
theorem dL_law_720 : decode cL_law 720 = .ok (.aload_n 0, 1) := by decide +kernel
theorem dL_law_721 : decode cL_law 721 = .ok (.iload 4, 2) := by decide +kernel
theorem dL_law_723 : decode cL_law 723 = .ok (.iconst 3, 1) := by decide +kernel
theorem dL_law_724 : decode cL_law 724 = .ok (.iadd, 1) := by decide +kernel
theorem dL_law_725 : decode cL_law 725 = .ok (.iaload, 1) := by decide +kernel
theorem dL_law_726 : decode cL_law 726 = .ok (.aload_n 0, 1) := by decide +kernel
theorem dL_law_727 : decode cL_law 727 = .ok (.iload 4, 2) := by decide +kernel
theorem dL_law_729 : decode cL_law 729 = .ok (.iconst 4, 1) := by decide +kernel
theorem dL_law_730 : decode cL_law 730 = .ok (.iadd, 1) := by decide +kernel
theorem dL_law_731 : decode cL_law 731 = .ok (.iaload, 1) := by decide +kernel
theorem dL_law_732 : decode cL_law 732 = .ok (.aload_n 0, 1) := by decide +kernel
theorem dL_law_733 : decode cL_law 733 = .ok (.iload 4, 2) := by decide +kernel
theorem dL_law_735 : decode cL_law 735 = .ok (.iconst 5, 1) := by decide +kernel
theorem dL_law_736 : decode cL_law 736 = .ok (.iadd, 1) := by decide +kernel
theorem dL_law_737 : decode cL_law 737 = .ok (.iaload, 1) := by decide +kernel
theorem dL_law_738 : decode cL_law 738 = .ok (.invokevirtual 140, 3) := by decide +kernel
theorem dL_law_741 : decode cL_law 741 = .ok (.istore 6, 2) := by decide +kernel
theorem dL_law_743 : decode cL_law 743 = .ok (.aload_n 2, 1) := by decide +kernel
theorem dL_law_744 : decode cL_law 744 = .ok (.invokevirtual 102, 3) := by decide +kernel
theorem dL_law_747 : decode cL_law 747 = .ok (.iload 5, 2) := by decide +kernel
theorem dL_law_749 : decode cL_law 749 = .ok (.if_icmp .eq 5, 3) := by decide +kernel
theorem dL_law_752 : decode cL_law 752 = .ok (.iconst 0, 1) := by decide +kernel
theorem dL_law_753 : decode cL_law 753 = .ok (.ireturn, 1) := by decide +kernel
theorem dL_law_754 : decode cL_law 754 = .ok (.iload 5, 2) := by decide +kernel
theorem dL_law_756 : decode cL_law 756 = .ok (.ifCond .ne 15, 3) := by decide +kernel
theorem dL_law_759 : decode cL_law 759 = .ok (.aload_n 3, 1) := by decide +kernel
theorem dL_law_760 : decode cL_law 760 = .ok (.iconst 0, 1) := by decide +kernel
theorem dL_law_761 : decode cL_law 761 = .ok (.laload, 1) := by decide +kernel
theorem dL_law_762 : decode cL_law 762 = .ok (.iload 6, 2) := by decide +kernel
theorem dL_law_764 : decode cL_law 764 = .ok (.i2l, 1) := by decide +kernel
theorem dL_law_765 : decode cL_law 765 = .ok (.lcmp, 1) := by decide +kernel
theorem dL_law_766 : decode cL_law 766 = .ok (.ifCond .eq 5, 3) := by decide +kernel
theorem dL_law_769 : decode cL_law 769 = .ok (.iconst 0, 1) := by decide +kernel
theorem dL_law_770 : decode cL_law 770 = .ok (.ireturn, 1) := by decide +kernel
theorem dL_law_771 : decode cL_law 771 = .ok (.goto 964, 3) := by decide +kernel
theorem dL_law_774 : decode cL_law 774 = .ok (.aload_n 1, 1) := by decide +kernel
theorem dL_law_775 : decode cL_law 775 = .ok (.aload_n 0, 1) := by decide +kernel
theorem dL_law_776 : decode cL_law 776 = .ok (.iload 4, 2) := by decide +kernel
theorem dL_law_778 : decode cL_law 778 = .ok (.iconst 1, 1) := by decide +kernel
theorem dL_law_779 : decode cL_law 779 = .ok (.iadd, 1) := by decide +kernel
theorem dL_law_780 : decode cL_law 780 = .ok (.iaload, 1) := by decide +kernel
theorem dL_law_781 : decode cL_law 781 = .ok (.aload_n 3, 1) := by decide +kernel
theorem dL_law_782 : decode cL_law 782 = .ok (.invokestatic 141, 3) := by decide +kernel
theorem dL_law_785 : decode cL_law 785 = .ok (.istore 5, 2) := by decide +kernel
theorem dL_law_787 : decode cL_law 787 = .ok (.aload_n 2, 1) := by decide +kernel
theorem dL_law_788 : decode cL_law 788 = .ok (.aload_n 0, 1) := by decide +kernel
theorem dL_law_789 : decode cL_law 789 = .ok (.iload 4, 2) := by decide +kernel
theorem dL_law_791 : decode cL_law 791 = .ok (.iconst 1, 1) := by decide +kernel
theorem dL_law_792 : decode cL_law 792 = .ok (.iadd, 1) := by decide +kernel
theorem dL_law_793 : decode cL_law 793 = .ok (.iaload, 1) := by decide +kernel
theorem dL_law_794 : decode cL_law 794 = .ok (.invokevirtual 143, 3) := by decide +kernel
theorem dL_law_797 : decode cL_law 797 = .ok (.istore 6, 2) := by decide +kernel
theorem dL_law_799 : decode cL_law 799 = .ok (.aload_n 2, 1) := by decide +kernel
theorem dL_law_800 : decode cL_law 800 = .ok (.invokevirtual 102, 3) := by decide +kernel
theorem dL_law_803 : decode cL_law 803 = .ok (.iload 5, 2) := by decide +kernel
theorem dL_law_805 : decode cL_law 805 = .ok (.if_icmp .eq 5, 3) := by decide +kernel
theorem dL_law_808 : decode cL_law 808 = .ok (.iconst 0, 1) := by decide +kernel
theorem dL_law_809 : decode cL_law 809 = .ok (.ireturn, 1) := by decide +kernel
theorem dL_law_810 : decode cL_law 810 = .ok (.iload 5, 2) := by decide +kernel
theorem dL_law_812 : decode cL_law 812 = .ok (.ifCond .ne 15, 3) := by decide +kernel
theorem dL_law_815 : decode cL_law 815 = .ok (.aload_n 3, 1) := by decide +kernel
theorem dL_law_816 : decode cL_law 816 = .ok (.iconst 0, 1) := by decide +kernel
theorem dL_law_817 : decode cL_law 817 = .ok (.laload, 1) := by decide +kernel
theorem dL_law_818 : decode cL_law 818 = .ok (.iload 6, 2) := by decide +kernel
theorem dL_law_820 : decode cL_law 820 = .ok (.i2l, 1) := by decide +kernel
theorem dL_law_821 : decode cL_law 821 = .ok (.lcmp, 1) := by decide +kernel
theorem dL_law_822 : decode cL_law 822 = .ok (.ifCond .eq 5, 3) := by decide +kernel
theorem dL_law_825 : decode cL_law 825 = .ok (.iconst 0, 1) := by decide +kernel
theorem dL_law_826 : decode cL_law 826 = .ok (.ireturn, 1) := by decide +kernel
theorem dL_law_827 : decode cL_law 827 = .ok (.goto 908, 3) := by decide +kernel
theorem dL_law_830 : decode cL_law 830 = .ok (.aload_n 1, 1) := by decide +kernel
theorem dL_law_831 : decode cL_law 831 = .ok (.aload_n 0, 1) := by decide +kernel
theorem dL_law_832 : decode cL_law 832 = .ok (.iload 4, 2) := by decide +kernel
theorem dL_law_834 : decode cL_law 834 = .ok (.iconst 1, 1) := by decide +kernel
theorem dL_law_835 : decode cL_law 835 = .ok (.iadd, 1) := by decide +kernel
theorem dL_law_836 : decode cL_law 836 = .ok (.iaload, 1) := by decide +kernel
theorem dL_law_837 : decode cL_law 837 = .ok (.aload_n 0, 1) := by decide +kernel
theorem dL_law_838 : decode cL_law 838 = .ok (.iload 4, 2) := by decide +kernel
theorem dL_law_840 : decode cL_law 840 = .ok (.iconst 2, 1) := by decide +kernel
theorem dL_law_841 : decode cL_law 841 = .ok (.iadd, 1) := by decide +kernel
theorem dL_law_842 : decode cL_law 842 = .ok (.iaload, 1) := by decide +kernel
theorem dL_law_843 : decode cL_law 843 = .ok (.ifCond .eq 7, 3) := by decide +kernel
theorem dL_law_846 : decode cL_law 846 = .ok (.iconst 1, 1) := by decide +kernel
theorem dL_law_847 : decode cL_law 847 = .ok (.goto 4, 3) := by decide +kernel
theorem dL_law_850 : decode cL_law 850 = .ok (.iconst 0, 1) := by decide +kernel
theorem dL_law_851 : decode cL_law 851 = .ok (.aload_n 3, 1) := by decide +kernel
theorem dL_law_852 : decode cL_law 852 = .ok (.invokestatic 144, 3) := by decide +kernel
theorem dL_law_855 : decode cL_law 855 = .ok (.istore 5, 2) := by decide +kernel
theorem dL_law_857 : decode cL_law 857 = .ok (.aload_n 2, 1) := by decide +kernel
theorem dL_law_858 : decode cL_law 858 = .ok (.aload_n 0, 1) := by decide +kernel
theorem dL_law_859 : decode cL_law 859 = .ok (.iload 4, 2) := by decide +kernel
theorem dL_law_861 : decode cL_law 861 = .ok (.iconst 1, 1) := by decide +kernel
theorem dL_law_862 : decode cL_law 862 = .ok (.iadd, 1) := by decide +kernel
theorem dL_law_863 : decode cL_law 863 = .ok (.iaload, 1) := by decide +kernel
theorem dL_law_864 : decode cL_law 864 = .ok (.aload_n 0, 1) := by decide +kernel
theorem dL_law_865 : decode cL_law 865 = .ok (.iload 4, 2) := by decide +kernel
theorem dL_law_867 : decode cL_law 867 = .ok (.iconst 2, 1) := by decide +kernel
theorem dL_law_868 : decode cL_law 868 = .ok (.iadd, 1) := by decide +kernel
theorem dL_law_869 : decode cL_law 869 = .ok (.iaload, 1) := by decide +kernel
theorem dL_law_870 : decode cL_law 870 = .ok (.ifCond .eq 7, 3) := by decide +kernel
theorem dL_law_873 : decode cL_law 873 = .ok (.iconst 1, 1) := by decide +kernel
theorem dL_law_874 : decode cL_law 874 = .ok (.goto 4, 3) := by decide +kernel
theorem dL_law_877 : decode cL_law 877 = .ok (.iconst 0, 1) := by decide +kernel
theorem dL_law_878 : decode cL_law 878 = .ok (.invokevirtual 147, 3) := by decide +kernel
theorem dL_law_881 : decode cL_law 881 = .ok (.istore 6, 2) := by decide +kernel
theorem dL_law_883 : decode cL_law 883 = .ok (.aload_n 2, 1) := by decide +kernel
theorem dL_law_884 : decode cL_law 884 = .ok (.invokevirtual 102, 3) := by decide +kernel
theorem dL_law_887 : decode cL_law 887 = .ok (.iload 5, 2) := by decide +kernel
theorem dL_law_889 : decode cL_law 889 = .ok (.if_icmp .eq 5, 3) := by decide +kernel
theorem dL_law_892 : decode cL_law 892 = .ok (.iconst 0, 1) := by decide +kernel
theorem dL_law_893 : decode cL_law 893 = .ok (.ireturn, 1) := by decide +kernel
theorem dL_law_894 : decode cL_law 894 = .ok (.iload 5, 2) := by decide +kernel
theorem dL_law_896 : decode cL_law 896 = .ok (.ifCond .ne 15, 3) := by decide +kernel
theorem dL_law_899 : decode cL_law 899 = .ok (.aload_n 3, 1) := by decide +kernel
theorem dL_law_900 : decode cL_law 900 = .ok (.iconst 0, 1) := by decide +kernel
theorem dL_law_901 : decode cL_law 901 = .ok (.laload, 1) := by decide +kernel
theorem dL_law_902 : decode cL_law 902 = .ok (.iload 6, 2) := by decide +kernel
theorem dL_law_904 : decode cL_law 904 = .ok (.i2l, 1) := by decide +kernel
theorem dL_law_905 : decode cL_law 905 = .ok (.lcmp, 1) := by decide +kernel
theorem dL_law_906 : decode cL_law 906 = .ok (.ifCond .eq 5, 3) := by decide +kernel
theorem dL_law_909 : decode cL_law 909 = .ok (.iconst 0, 1) := by decide +kernel
theorem dL_law_910 : decode cL_law 910 = .ok (.ireturn, 1) := by decide +kernel
theorem dL_law_911 : decode cL_law 911 = .ok (.goto 824, 3) := by decide +kernel
theorem dL_law_914 : decode cL_law 914 = .ok (.aload_n 1, 1) := by decide +kernel
theorem dL_law_915 : decode cL_law 915 = .ok (.aload_n 0, 1) := by decide +kernel
theorem dL_law_916 : decode cL_law 916 = .ok (.iload 4, 2) := by decide +kernel
theorem dL_law_918 : decode cL_law 918 = .ok (.iconst 1, 1) := by decide +kernel
theorem dL_law_919 : decode cL_law 919 = .ok (.iadd, 1) := by decide +kernel
theorem dL_law_920 : decode cL_law 920 = .ok (.iaload, 1) := by decide +kernel
theorem dL_law_921 : decode cL_law 921 = .ok (.aload_n 3, 1) := by decide +kernel
theorem dL_law_922 : decode cL_law 922 = .ok (.invokestatic 148, 3) := by decide +kernel
theorem dL_law_925 : decode cL_law 925 = .ok (.istore 5, 2) := by decide +kernel
theorem dL_law_927 : decode cL_law 927 = .ok (.aload_n 2, 1) := by decide +kernel
theorem dL_law_928 : decode cL_law 928 = .ok (.aload_n 0, 1) := by decide +kernel
theorem dL_law_929 : decode cL_law 929 = .ok (.iload 4, 2) := by decide +kernel
theorem dL_law_931 : decode cL_law 931 = .ok (.iconst 1, 1) := by decide +kernel
theorem dL_law_932 : decode cL_law 932 = .ok (.iadd, 1) := by decide +kernel
theorem dL_law_933 : decode cL_law 933 = .ok (.iaload, 1) := by decide +kernel
theorem dL_law_934 : decode cL_law 934 = .ok (.invokevirtual 150, 3) := by decide +kernel
theorem dL_law_937 : decode cL_law 937 = .ok (.istore 6, 2) := by decide +kernel
theorem dL_law_939 : decode cL_law 939 = .ok (.aload_n 2, 1) := by decide +kernel
theorem dL_law_940 : decode cL_law 940 = .ok (.invokevirtual 102, 3) := by decide +kernel
theorem dL_law_943 : decode cL_law 943 = .ok (.iload 5, 2) := by decide +kernel
theorem dL_law_945 : decode cL_law 945 = .ok (.if_icmp .eq 5, 3) := by decide +kernel
theorem dL_law_948 : decode cL_law 948 = .ok (.iconst 0, 1) := by decide +kernel
theorem dL_law_949 : decode cL_law 949 = .ok (.ireturn, 1) := by decide +kernel
theorem dL_law_950 : decode cL_law 950 = .ok (.iload 5, 2) := by decide +kernel
theorem dL_law_952 : decode cL_law 952 = .ok (.ifCond .ne 15, 3) := by decide +kernel
theorem dL_law_955 : decode cL_law 955 = .ok (.aload_n 3, 1) := by decide +kernel
theorem dL_law_956 : decode cL_law 956 = .ok (.iconst 0, 1) := by decide +kernel
theorem dL_law_957 : decode cL_law 957 = .ok (.laload, 1) := by decide +kernel
theorem dL_law_958 : decode cL_law 958 = .ok (.iload 6, 2) := by decide +kernel
theorem dL_law_960 : decode cL_law 960 = .ok (.i2l, 1) := by decide +kernel
theorem dL_law_961 : decode cL_law 961 = .ok (.lcmp, 1) := by decide +kernel
theorem dL_law_962 : decode cL_law 962 = .ok (.ifCond .eq 5, 3) := by decide +kernel
theorem dL_law_965 : decode cL_law 965 = .ok (.iconst 0, 1) := by decide +kernel
theorem dL_law_966 : decode cL_law 966 = .ok (.ireturn, 1) := by decide +kernel
theorem dL_law_967 : decode cL_law 967 = .ok (.goto 768, 3) := by decide +kernel
theorem dL_law_970 : decode cL_law 970 = .ok (.aload_n 1, 1) := by decide +kernel
theorem dL_law_971 : decode cL_law 971 = .ok (.aload_n 0, 1) := by decide +kernel
theorem dL_law_972 : decode cL_law 972 = .ok (.iload 4, 2) := by decide +kernel
theorem dL_law_974 : decode cL_law 974 = .ok (.iconst 1, 1) := by decide +kernel
theorem dL_law_975 : decode cL_law 975 = .ok (.iadd, 1) := by decide +kernel
theorem dL_law_976 : decode cL_law 976 = .ok (.iaload, 1) := by decide +kernel
theorem dL_law_977 : decode cL_law 977 = .ok (.aload_n 3, 1) := by decide +kernel
theorem dL_law_978 : decode cL_law 978 = .ok (.invokestatic 151, 3) := by decide +kernel
theorem dL_law_981 : decode cL_law 981 = .ok (.istore 5, 2) := by decide +kernel
theorem dL_law_983 : decode cL_law 983 = .ok (.aload_n 2, 1) := by decide +kernel
theorem dL_law_984 : decode cL_law 984 = .ok (.aload_n 0, 1) := by decide +kernel
theorem dL_law_985 : decode cL_law 985 = .ok (.iload 4, 2) := by decide +kernel
theorem dL_law_987 : decode cL_law 987 = .ok (.iconst 1, 1) := by decide +kernel
theorem dL_law_988 : decode cL_law 988 = .ok (.iadd, 1) := by decide +kernel
theorem dL_law_989 : decode cL_law 989 = .ok (.iaload, 1) := by decide +kernel
theorem dL_law_990 : decode cL_law 990 = .ok (.invokevirtual 153, 3) := by decide +kernel
theorem dL_law_993 : decode cL_law 993 = .ok (.istore 6, 2) := by decide +kernel
theorem dL_law_995 : decode cL_law 995 = .ok (.aload_n 2, 1) := by decide +kernel
theorem dL_law_996 : decode cL_law 996 = .ok (.invokevirtual 102, 3) := by decide +kernel
theorem dL_law_999 : decode cL_law 999 = .ok (.iload 5, 2) := by decide +kernel
theorem dL_law_1001 : decode cL_law 1001 = .ok (.if_icmp .eq 5, 3) := by decide +kernel
theorem dL_law_1004 : decode cL_law 1004 = .ok (.iconst 0, 1) := by decide +kernel
theorem dL_law_1005 : decode cL_law 1005 = .ok (.ireturn, 1) := by decide +kernel
theorem dL_law_1006 : decode cL_law 1006 = .ok (.iload 5, 2) := by decide +kernel
theorem dL_law_1008 : decode cL_law 1008 = .ok (.ifCond .ne 15, 3) := by decide +kernel
theorem dL_law_1011 : decode cL_law 1011 = .ok (.aload_n 3, 1) := by decide +kernel
theorem dL_law_1012 : decode cL_law 1012 = .ok (.iconst 0, 1) := by decide +kernel
theorem dL_law_1013 : decode cL_law 1013 = .ok (.laload, 1) := by decide +kernel
theorem dL_law_1014 : decode cL_law 1014 = .ok (.iload 6, 2) := by decide +kernel
theorem dL_law_1016 : decode cL_law 1016 = .ok (.i2l, 1) := by decide +kernel
theorem dL_law_1017 : decode cL_law 1017 = .ok (.lcmp, 1) := by decide +kernel
theorem dL_law_1018 : decode cL_law 1018 = .ok (.ifCond .eq 5, 3) := by decide +kernel
theorem dL_law_1021 : decode cL_law 1021 = .ok (.iconst 0, 1) := by decide +kernel
theorem dL_law_1022 : decode cL_law 1022 = .ok (.ireturn, 1) := by decide +kernel
theorem dL_law_1023 : decode cL_law 1023 = .ok (.goto 712, 3) := by decide +kernel
theorem dL_law_1026 : decode cL_law 1026 = .ok (.aload_n 1, 1) := by decide +kernel
theorem dL_law_1027 : decode cL_law 1027 = .ok (.aload_n 0, 1) := by decide +kernel
theorem dL_law_1028 : decode cL_law 1028 = .ok (.iload 4, 2) := by decide +kernel
theorem dL_law_1030 : decode cL_law 1030 = .ok (.iconst 1, 1) := by decide +kernel
theorem dL_law_1031 : decode cL_law 1031 = .ok (.iadd, 1) := by decide +kernel
theorem dL_law_1032 : decode cL_law 1032 = .ok (.iaload, 1) := by decide +kernel
theorem dL_law_1033 : decode cL_law 1033 = .ok (.aload_n 3, 1) := by decide +kernel
theorem dL_law_1034 : decode cL_law 1034 = .ok (.invokestatic 154, 3) := by decide +kernel
theorem dL_law_1037 : decode cL_law 1037 = .ok (.istore 5, 2) := by decide +kernel
theorem dL_law_1039 : decode cL_law 1039 = .ok (.aload_n 2, 1) := by decide +kernel
theorem dL_law_1040 : decode cL_law 1040 = .ok (.aload_n 0, 1) := by decide +kernel
theorem dL_law_1041 : decode cL_law 1041 = .ok (.iload 4, 2) := by decide +kernel
theorem dL_law_1043 : decode cL_law 1043 = .ok (.iconst 1, 1) := by decide +kernel
theorem dL_law_1044 : decode cL_law 1044 = .ok (.iadd, 1) := by decide +kernel
theorem dL_law_1045 : decode cL_law 1045 = .ok (.iaload, 1) := by decide +kernel
theorem dL_law_1046 : decode cL_law 1046 = .ok (.invokevirtual 156, 3) := by decide +kernel
theorem dL_law_1049 : decode cL_law 1049 = .ok (.istore 6, 2) := by decide +kernel
theorem dL_law_1051 : decode cL_law 1051 = .ok (.aload_n 2, 1) := by decide +kernel
theorem dL_law_1052 : decode cL_law 1052 = .ok (.invokevirtual 102, 3) := by decide +kernel
theorem dL_law_1055 : decode cL_law 1055 = .ok (.iload 5, 2) := by decide +kernel
theorem dL_law_1057 : decode cL_law 1057 = .ok (.if_icmp .eq 5, 3) := by decide +kernel
theorem dL_law_1060 : decode cL_law 1060 = .ok (.iconst 0, 1) := by decide +kernel
theorem dL_law_1061 : decode cL_law 1061 = .ok (.ireturn, 1) := by decide +kernel
theorem dL_law_1062 : decode cL_law 1062 = .ok (.iload 5, 2) := by decide +kernel
theorem dL_law_1064 : decode cL_law 1064 = .ok (.ifCond .ne 15, 3) := by decide +kernel
theorem dL_law_1067 : decode cL_law 1067 = .ok (.aload_n 3, 1) := by decide +kernel
theorem dL_law_1068 : decode cL_law 1068 = .ok (.iconst 0, 1) := by decide +kernel
theorem dL_law_1069 : decode cL_law 1069 = .ok (.laload, 1) := by decide +kernel
theorem dL_law_1070 : decode cL_law 1070 = .ok (.iload 6, 2) := by decide +kernel
theorem dL_law_1072 : decode cL_law 1072 = .ok (.i2l, 1) := by decide +kernel
theorem dL_law_1073 : decode cL_law 1073 = .ok (.lcmp, 1) := by decide +kernel
theorem dL_law_1074 : decode cL_law 1074 = .ok (.ifCond .eq 5, 3) := by decide +kernel
theorem dL_law_1077 : decode cL_law 1077 = .ok (.iconst 0, 1) := by decide +kernel
theorem dL_law_1078 : decode cL_law 1078 = .ok (.ireturn, 1) := by decide +kernel
theorem dL_law_1079 : decode cL_law 1079 = .ok (.goto 656, 3) := by decide +kernel
theorem dL_law_1082 : decode cL_law 1082 = .ok (.aload_n 1, 1) := by decide +kernel
theorem dL_law_1083 : decode cL_law 1083 = .ok (.aload_n 3, 1) := by decide +kernel
theorem dL_law_1084 : decode cL_law 1084 = .ok (.invokestatic 157, 3) := by decide +kernel
theorem dL_law_1087 : decode cL_law 1087 = .ok (.istore 5, 2) := by decide +kernel
theorem dL_law_1089 : decode cL_law 1089 = .ok (.aload_n 2, 1) := by decide +kernel
theorem dL_law_1090 : decode cL_law 1090 = .ok (.invokevirtual 159, 3) := by decide +kernel
theorem dL_law_1093 : decode cL_law 1093 = .ok (.istore 6, 2) := by decide +kernel
theorem dL_law_1095 : decode cL_law 1095 = .ok (.aload_n 2, 1) := by decide +kernel
theorem dL_law_1096 : decode cL_law 1096 = .ok (.invokevirtual 102, 3) := by decide +kernel
theorem dL_law_1099 : decode cL_law 1099 = .ok (.iload 5, 2) := by decide +kernel
theorem dL_law_1101 : decode cL_law 1101 = .ok (.if_icmp .eq 5, 3) := by decide +kernel
theorem dL_law_1104 : decode cL_law 1104 = .ok (.iconst 0, 1) := by decide +kernel
theorem dL_law_1105 : decode cL_law 1105 = .ok (.ireturn, 1) := by decide +kernel
theorem dL_law_1106 : decode cL_law 1106 = .ok (.iload 5, 2) := by decide +kernel
theorem dL_law_1108 : decode cL_law 1108 = .ok (.ifCond .ne 15, 3) := by decide +kernel
theorem dL_law_1111 : decode cL_law 1111 = .ok (.aload_n 3, 1) := by decide +kernel
theorem dL_law_1112 : decode cL_law 1112 = .ok (.iconst 0, 1) := by decide +kernel
theorem dL_law_1113 : decode cL_law 1113 = .ok (.laload, 1) := by decide +kernel
theorem dL_law_1114 : decode cL_law 1114 = .ok (.iload 6, 2) := by decide +kernel
theorem dL_law_1116 : decode cL_law 1116 = .ok (.i2l, 1) := by decide +kernel
theorem dL_law_1117 : decode cL_law 1117 = .ok (.lcmp, 1) := by decide +kernel
theorem dL_law_1118 : decode cL_law 1118 = .ok (.ifCond .eq 5, 3) := by decide +kernel
theorem dL_law_1121 : decode cL_law 1121 = .ok (.iconst 0, 1) := by decide +kernel
theorem dL_law_1122 : decode cL_law 1122 = .ok (.ireturn, 1) := by decide +kernel
theorem dL_law_1123 : decode cL_law 1123 = .ok (.goto 612, 3) := by decide +kernel
theorem dL_law_1126 : decode cL_law 1126 = .ok (.aload_n 1, 1) := by decide +kernel
theorem dL_law_1127 : decode cL_law 1127 = .ok (.aload_n 0, 1) := by decide +kernel
theorem dL_law_1128 : decode cL_law 1128 = .ok (.iload 4, 2) := by decide +kernel
theorem dL_law_1130 : decode cL_law 1130 = .ok (.iconst 1, 1) := by decide +kernel
theorem dL_law_1131 : decode cL_law 1131 = .ok (.iadd, 1) := by decide +kernel
theorem dL_law_1132 : decode cL_law 1132 = .ok (.iaload, 1) := by decide +kernel
theorem dL_law_1133 : decode cL_law 1133 = .ok (.aload_n 0, 1) := by decide +kernel
theorem dL_law_1134 : decode cL_law 1134 = .ok (.iload 4, 2) := by decide +kernel
theorem dL_law_1136 : decode cL_law 1136 = .ok (.iconst 2, 1) := by decide +kernel
theorem dL_law_1137 : decode cL_law 1137 = .ok (.iadd, 1) := by decide +kernel
theorem dL_law_1138 : decode cL_law 1138 = .ok (.iaload, 1) := by decide +kernel
theorem dL_law_1139 : decode cL_law 1139 = .ok (.aload_n 3, 1) := by decide +kernel
theorem dL_law_1140 : decode cL_law 1140 = .ok (.invokestatic 160, 3) := by decide +kernel
theorem dL_law_1143 : decode cL_law 1143 = .ok (.istore 5, 2) := by decide +kernel
theorem dL_law_1145 : decode cL_law 1145 = .ok (.aload_n 2, 1) := by decide +kernel
theorem dL_law_1146 : decode cL_law 1146 = .ok (.aload_n 0, 1) := by decide +kernel
theorem dL_law_1147 : decode cL_law 1147 = .ok (.iload 4, 2) := by decide +kernel
theorem dL_law_1149 : decode cL_law 1149 = .ok (.iconst 1, 1) := by decide +kernel
theorem dL_law_1150 : decode cL_law 1150 = .ok (.iadd, 1) := by decide +kernel
theorem dL_law_1151 : decode cL_law 1151 = .ok (.iaload, 1) := by decide +kernel
theorem dL_law_1152 : decode cL_law 1152 = .ok (.aload_n 0, 1) := by decide +kernel
theorem dL_law_1153 : decode cL_law 1153 = .ok (.iload 4, 2) := by decide +kernel
theorem dL_law_1155 : decode cL_law 1155 = .ok (.iconst 2, 1) := by decide +kernel
theorem dL_law_1156 : decode cL_law 1156 = .ok (.iadd, 1) := by decide +kernel
theorem dL_law_1157 : decode cL_law 1157 = .ok (.iaload, 1) := by decide +kernel
theorem dL_law_1158 : decode cL_law 1158 = .ok (.invokevirtual 162, 3) := by decide +kernel
theorem dL_law_1161 : decode cL_law 1161 = .ok (.istore 6, 2) := by decide +kernel
theorem dL_law_1163 : decode cL_law 1163 = .ok (.aload_n 2, 1) := by decide +kernel
theorem dL_law_1164 : decode cL_law 1164 = .ok (.invokevirtual 102, 3) := by decide +kernel
theorem dL_law_1167 : decode cL_law 1167 = .ok (.iload 5, 2) := by decide +kernel
theorem dL_law_1169 : decode cL_law 1169 = .ok (.if_icmp .eq 5, 3) := by decide +kernel
theorem dL_law_1172 : decode cL_law 1172 = .ok (.iconst 0, 1) := by decide +kernel
theorem dL_law_1173 : decode cL_law 1173 = .ok (.ireturn, 1) := by decide +kernel
theorem dL_law_1174 : decode cL_law 1174 = .ok (.iload 5, 2) := by decide +kernel
theorem dL_law_1176 : decode cL_law 1176 = .ok (.ifCond .ne 15, 3) := by decide +kernel
theorem dL_law_1179 : decode cL_law 1179 = .ok (.aload_n 3, 1) := by decide +kernel
theorem dL_law_1180 : decode cL_law 1180 = .ok (.iconst 0, 1) := by decide +kernel
theorem dL_law_1181 : decode cL_law 1181 = .ok (.laload, 1) := by decide +kernel
theorem dL_law_1182 : decode cL_law 1182 = .ok (.iload 6, 2) := by decide +kernel
theorem dL_law_1184 : decode cL_law 1184 = .ok (.i2l, 1) := by decide +kernel
theorem dL_law_1185 : decode cL_law 1185 = .ok (.lcmp, 1) := by decide +kernel
theorem dL_law_1186 : decode cL_law 1186 = .ok (.ifCond .eq 5, 3) := by decide +kernel
theorem dL_law_1189 : decode cL_law 1189 = .ok (.iconst 0, 1) := by decide +kernel
theorem dL_law_1190 : decode cL_law 1190 = .ok (.ireturn, 1) := by decide +kernel
theorem dL_law_1191 : decode cL_law 1191 = .ok (.goto 544, 3) := by decide +kernel
theorem dL_law_1194 : decode cL_law 1194 = .ok (.aload_n 1, 1) := by decide +kernel
theorem dL_law_1195 : decode cL_law 1195 = .ok (.aload_n 0, 1) := by decide +kernel
theorem dL_law_1196 : decode cL_law 1196 = .ok (.iload 4, 2) := by decide +kernel
theorem dL_law_1198 : decode cL_law 1198 = .ok (.iconst 1, 1) := by decide +kernel
theorem dL_law_1199 : decode cL_law 1199 = .ok (.iadd, 1) := by decide +kernel
theorem dL_law_1200 : decode cL_law 1200 = .ok (.iaload, 1) := by decide +kernel
theorem dL_law_1201 : decode cL_law 1201 = .ok (.aload_n 3, 1) := by decide +kernel
theorem dL_law_1202 : decode cL_law 1202 = .ok (.invokestatic 163, 3) := by decide +kernel
theorem dL_law_1205 : decode cL_law 1205 = .ok (.istore 5, 2) := by decide +kernel
theorem dL_law_1207 : decode cL_law 1207 = .ok (.aload_n 2, 1) := by decide +kernel
theorem dL_law_1208 : decode cL_law 1208 = .ok (.aload_n 0, 1) := by decide +kernel
theorem dL_law_1209 : decode cL_law 1209 = .ok (.iload 4, 2) := by decide +kernel
theorem dL_law_1211 : decode cL_law 1211 = .ok (.iconst 1, 1) := by decide +kernel
theorem dL_law_1212 : decode cL_law 1212 = .ok (.iadd, 1) := by decide +kernel
theorem dL_law_1213 : decode cL_law 1213 = .ok (.iaload, 1) := by decide +kernel
theorem dL_law_1214 : decode cL_law 1214 = .ok (.invokevirtual 165, 3) := by decide +kernel
theorem dL_law_1217 : decode cL_law 1217 = .ok (.istore 6, 2) := by decide +kernel
theorem dL_law_1219 : decode cL_law 1219 = .ok (.aload_n 2, 1) := by decide +kernel
theorem dL_law_1220 : decode cL_law 1220 = .ok (.invokevirtual 102, 3) := by decide +kernel
theorem dL_law_1223 : decode cL_law 1223 = .ok (.iload 5, 2) := by decide +kernel
theorem dL_law_1225 : decode cL_law 1225 = .ok (.if_icmp .eq 5, 3) := by decide +kernel
theorem dL_law_1228 : decode cL_law 1228 = .ok (.iconst 0, 1) := by decide +kernel
theorem dL_law_1229 : decode cL_law 1229 = .ok (.ireturn, 1) := by decide +kernel
theorem dL_law_1230 : decode cL_law 1230 = .ok (.iload 5, 2) := by decide +kernel
theorem dL_law_1232 : decode cL_law 1232 = .ok (.ifCond .ne 15, 3) := by decide +kernel
theorem dL_law_1235 : decode cL_law 1235 = .ok (.aload_n 3, 1) := by decide +kernel
theorem dL_law_1236 : decode cL_law 1236 = .ok (.iconst 0, 1) := by decide +kernel
theorem dL_law_1237 : decode cL_law 1237 = .ok (.laload, 1) := by decide +kernel
theorem dL_law_1238 : decode cL_law 1238 = .ok (.iload 6, 2) := by decide +kernel
theorem dL_law_1240 : decode cL_law 1240 = .ok (.i2l, 1) := by decide +kernel
theorem dL_law_1241 : decode cL_law 1241 = .ok (.lcmp, 1) := by decide +kernel
theorem dL_law_1242 : decode cL_law 1242 = .ok (.ifCond .eq 5, 3) := by decide +kernel
theorem dL_law_1245 : decode cL_law 1245 = .ok (.iconst 0, 1) := by decide +kernel
theorem dL_law_1246 : decode cL_law 1246 = .ok (.ireturn, 1) := by decide +kernel
theorem dL_law_1247 : decode cL_law 1247 = .ok (.goto 488, 3) := by decide +kernel
theorem dL_law_1250 : decode cL_law 1250 = .ok (.aload_n 1, 1) := by decide +kernel
theorem dL_law_1251 : decode cL_law 1251 = .ok (.aload_n 0, 1) := by decide +kernel
theorem dL_law_1252 : decode cL_law 1252 = .ok (.iload 4, 2) := by decide +kernel
theorem dL_law_1254 : decode cL_law 1254 = .ok (.iconst 1, 1) := by decide +kernel
theorem dL_law_1255 : decode cL_law 1255 = .ok (.iadd, 1) := by decide +kernel
theorem dL_law_1256 : decode cL_law 1256 = .ok (.iaload, 1) := by decide +kernel
theorem dL_law_1257 : decode cL_law 1257 = .ok (.aload_n 0, 1) := by decide +kernel
theorem dL_law_1258 : decode cL_law 1258 = .ok (.iload 4, 2) := by decide +kernel
theorem dL_law_1260 : decode cL_law 1260 = .ok (.iconst 2, 1) := by decide +kernel
theorem dL_law_1261 : decode cL_law 1261 = .ok (.iadd, 1) := by decide +kernel
theorem dL_law_1262 : decode cL_law 1262 = .ok (.iaload, 1) := by decide +kernel
theorem dL_law_1263 : decode cL_law 1263 = .ok (.aload_n 0, 1) := by decide +kernel
theorem dL_law_1264 : decode cL_law 1264 = .ok (.iload 4, 2) := by decide +kernel
theorem dL_law_1266 : decode cL_law 1266 = .ok (.iconst 3, 1) := by decide +kernel
theorem dL_law_1267 : decode cL_law 1267 = .ok (.iadd, 1) := by decide +kernel
theorem dL_law_1268 : decode cL_law 1268 = .ok (.iaload, 1) := by decide +kernel
theorem dL_law_1269 : decode cL_law 1269 = .ok (.aload_n 0, 1) := by decide +kernel
theorem dL_law_1270 : decode cL_law 1270 = .ok (.iload 4, 2) := by decide +kernel
theorem dL_law_1272 : decode cL_law 1272 = .ok (.iconst 4, 1) := by decide +kernel
theorem dL_law_1273 : decode cL_law 1273 = .ok (.iadd, 1) := by decide +kernel
theorem dL_law_1274 : decode cL_law 1274 = .ok (.iaload, 1) := by decide +kernel
theorem dL_law_1275 : decode cL_law 1275 = .ok (.aload_n 0, 1) := by decide +kernel
theorem dL_law_1276 : decode cL_law 1276 = .ok (.iload 4, 2) := by decide +kernel
theorem dL_law_1278 : decode cL_law 1278 = .ok (.iconst 5, 1) := by decide +kernel
theorem dL_law_1279 : decode cL_law 1279 = .ok (.iadd, 1) := by decide +kernel
theorem dL_law_1280 : decode cL_law 1280 = .ok (.iaload, 1) := by decide +kernel
theorem dL_law_1281 : decode cL_law 1281 = .ok (.aload_n 3, 1) := by decide +kernel
theorem dL_law_1282 : decode cL_law 1282 = .ok (.invokestatic 166, 3) := by decide +kernel
theorem dL_law_1285 : decode cL_law 1285 = .ok (.istore 5, 2) := by decide +kernel
theorem dL_law_1287 : decode cL_law 1287 = .ok (.aload_n 2, 1) := by decide +kernel
theorem dL_law_1288 : decode cL_law 1288 = .ok (.aload_n 0, 1) := by decide +kernel
theorem dL_law_1289 : decode cL_law 1289 = .ok (.iload 4, 2) := by decide +kernel
theorem dL_law_1291 : decode cL_law 1291 = .ok (.iconst 1, 1) := by decide +kernel
theorem dL_law_1292 : decode cL_law 1292 = .ok (.iadd, 1) := by decide +kernel
theorem dL_law_1293 : decode cL_law 1293 = .ok (.iaload, 1) := by decide +kernel
theorem dL_law_1294 : decode cL_law 1294 = .ok (.aload_n 0, 1) := by decide +kernel
theorem dL_law_1295 : decode cL_law 1295 = .ok (.iload 4, 2) := by decide +kernel
theorem dL_law_1297 : decode cL_law 1297 = .ok (.iconst 2, 1) := by decide +kernel
theorem dL_law_1298 : decode cL_law 1298 = .ok (.iadd, 1) := by decide +kernel
theorem dL_law_1299 : decode cL_law 1299 = .ok (.iaload, 1) := by decide +kernel
theorem dL_law_1300 : decode cL_law 1300 = .ok (.aload_n 0, 1) := by decide +kernel
theorem dL_law_1301 : decode cL_law 1301 = .ok (.iload 4, 2) := by decide +kernel
theorem dL_law_1303 : decode cL_law 1303 = .ok (.iconst 3, 1) := by decide +kernel
theorem dL_law_1304 : decode cL_law 1304 = .ok (.iadd, 1) := by decide +kernel
theorem dL_law_1305 : decode cL_law 1305 = .ok (.iaload, 1) := by decide +kernel
theorem dL_law_1306 : decode cL_law 1306 = .ok (.aload_n 0, 1) := by decide +kernel
theorem dL_law_1307 : decode cL_law 1307 = .ok (.iload 4, 2) := by decide +kernel
theorem dL_law_1309 : decode cL_law 1309 = .ok (.iconst 4, 1) := by decide +kernel
theorem dL_law_1310 : decode cL_law 1310 = .ok (.iadd, 1) := by decide +kernel
theorem dL_law_1311 : decode cL_law 1311 = .ok (.iaload, 1) := by decide +kernel
theorem dL_law_1312 : decode cL_law 1312 = .ok (.aload_n 0, 1) := by decide +kernel
theorem dL_law_1313 : decode cL_law 1313 = .ok (.iload 4, 2) := by decide +kernel
theorem dL_law_1315 : decode cL_law 1315 = .ok (.iconst 5, 1) := by decide +kernel
theorem dL_law_1316 : decode cL_law 1316 = .ok (.iadd, 1) := by decide +kernel
theorem dL_law_1317 : decode cL_law 1317 = .ok (.iaload, 1) := by decide +kernel
theorem dL_law_1318 : decode cL_law 1318 = .ok (.invokevirtual 168, 3) := by decide +kernel
theorem dL_law_1321 : decode cL_law 1321 = .ok (.istore 6, 2) := by decide +kernel
theorem dL_law_1323 : decode cL_law 1323 = .ok (.aload_n 2, 1) := by decide +kernel
theorem dL_law_1324 : decode cL_law 1324 = .ok (.invokevirtual 102, 3) := by decide +kernel
theorem dL_law_1327 : decode cL_law 1327 = .ok (.iload 5, 2) := by decide +kernel
theorem dL_law_1329 : decode cL_law 1329 = .ok (.if_icmp .eq 5, 3) := by decide +kernel
theorem dL_law_1332 : decode cL_law 1332 = .ok (.iconst 0, 1) := by decide +kernel
theorem dL_law_1333 : decode cL_law 1333 = .ok (.ireturn, 1) := by decide +kernel
theorem dL_law_1334 : decode cL_law 1334 = .ok (.iload 5, 2) := by decide +kernel
theorem dL_law_1336 : decode cL_law 1336 = .ok (.ifCond .ne 15, 3) := by decide +kernel
theorem dL_law_1339 : decode cL_law 1339 = .ok (.aload_n 3, 1) := by decide +kernel
theorem dL_law_1340 : decode cL_law 1340 = .ok (.iconst 0, 1) := by decide +kernel
theorem dL_law_1341 : decode cL_law 1341 = .ok (.laload, 1) := by decide +kernel
theorem dL_law_1342 : decode cL_law 1342 = .ok (.iload 6, 2) := by decide +kernel
theorem dL_law_1344 : decode cL_law 1344 = .ok (.i2l, 1) := by decide +kernel
theorem dL_law_1345 : decode cL_law 1345 = .ok (.lcmp, 1) := by decide +kernel
theorem dL_law_1346 : decode cL_law 1346 = .ok (.ifCond .eq 5, 3) := by decide +kernel
theorem dL_law_1349 : decode cL_law 1349 = .ok (.iconst 0, 1) := by decide +kernel
theorem dL_law_1350 : decode cL_law 1350 = .ok (.ireturn, 1) := by decide +kernel
theorem dL_law_1351 : decode cL_law 1351 = .ok (.goto 384, 3) := by decide +kernel
theorem dL_law_1354 : decode cL_law 1354 = .ok (.aload_n 1, 1) := by decide +kernel
theorem dL_law_1355 : decode cL_law 1355 = .ok (.aload_n 0, 1) := by decide +kernel
theorem dL_law_1356 : decode cL_law 1356 = .ok (.iload 4, 2) := by decide +kernel
theorem dL_law_1358 : decode cL_law 1358 = .ok (.iconst 1, 1) := by decide +kernel
theorem dL_law_1359 : decode cL_law 1359 = .ok (.iadd, 1) := by decide +kernel
theorem dL_law_1360 : decode cL_law 1360 = .ok (.iaload, 1) := by decide +kernel
theorem dL_law_1361 : decode cL_law 1361 = .ok (.aload_n 3, 1) := by decide +kernel
theorem dL_law_1362 : decode cL_law 1362 = .ok (.invokestatic 169, 3) := by decide +kernel
theorem dL_law_1365 : decode cL_law 1365 = .ok (.istore 5, 2) := by decide +kernel
theorem dL_law_1367 : decode cL_law 1367 = .ok (.aload_n 2, 1) := by decide +kernel
theorem dL_law_1368 : decode cL_law 1368 = .ok (.aload_n 0, 1) := by decide +kernel
theorem dL_law_1369 : decode cL_law 1369 = .ok (.iload 4, 2) := by decide +kernel
theorem dL_law_1371 : decode cL_law 1371 = .ok (.iconst 1, 1) := by decide +kernel
theorem dL_law_1372 : decode cL_law 1372 = .ok (.iadd, 1) := by decide +kernel
theorem dL_law_1373 : decode cL_law 1373 = .ok (.iaload, 1) := by decide +kernel
theorem dL_law_1374 : decode cL_law 1374 = .ok (.invokevirtual 171, 3) := by decide +kernel
theorem dL_law_1377 : decode cL_law 1377 = .ok (.istore 6, 2) := by decide +kernel
theorem dL_law_1379 : decode cL_law 1379 = .ok (.aload_n 2, 1) := by decide +kernel
theorem dL_law_1380 : decode cL_law 1380 = .ok (.invokevirtual 102, 3) := by decide +kernel
theorem dL_law_1383 : decode cL_law 1383 = .ok (.iload 5, 2) := by decide +kernel
theorem dL_law_1385 : decode cL_law 1385 = .ok (.if_icmp .eq 5, 3) := by decide +kernel
theorem dL_law_1388 : decode cL_law 1388 = .ok (.iconst 0, 1) := by decide +kernel
theorem dL_law_1389 : decode cL_law 1389 = .ok (.ireturn, 1) := by decide +kernel
theorem dL_law_1390 : decode cL_law 1390 = .ok (.iload 5, 2) := by decide +kernel
theorem dL_law_1392 : decode cL_law 1392 = .ok (.ifCond .ne 15, 3) := by decide +kernel
theorem dL_law_1395 : decode cL_law 1395 = .ok (.aload_n 3, 1) := by decide +kernel
theorem dL_law_1396 : decode cL_law 1396 = .ok (.iconst 0, 1) := by decide +kernel
theorem dL_law_1397 : decode cL_law 1397 = .ok (.laload, 1) := by decide +kernel
theorem dL_law_1398 : decode cL_law 1398 = .ok (.iload 6, 2) := by decide +kernel
theorem dL_law_1400 : decode cL_law 1400 = .ok (.i2l, 1) := by decide +kernel
theorem dL_law_1401 : decode cL_law 1401 = .ok (.lcmp, 1) := by decide +kernel
theorem dL_law_1402 : decode cL_law 1402 = .ok (.ifCond .eq 5, 3) := by decide +kernel
theorem dL_law_1405 : decode cL_law 1405 = .ok (.iconst 0, 1) := by decide +kernel
theorem dL_law_1406 : decode cL_law 1406 = .ok (.ireturn, 1) := by decide +kernel
theorem dL_law_1407 : decode cL_law 1407 = .ok (.goto 328, 3) := by decide +kernel
theorem dL_law_1410 : decode cL_law 1410 = .ok (.aload_n 1, 1) := by decide +kernel
theorem dL_law_1411 : decode cL_law 1411 = .ok (.invokevirtual 172, 3) := by decide +kernel
theorem dL_law_1414 : decode cL_law 1414 = .ok (.aload_n 2, 1) := by decide +kernel
theorem dL_law_1415 : decode cL_law 1415 = .ok (.invokevirtual 175, 3) := by decide +kernel
theorem dL_law_1418 : decode cL_law 1418 = .ok (.if_icmp .eq 317, 3) := by decide +kernel
theorem dL_law_1421 : decode cL_law 1421 = .ok (.iconst 0, 1) := by decide +kernel
theorem dL_law_1422 : decode cL_law 1422 = .ok (.ireturn, 1) := by decide +kernel
theorem dL_law_1423 : decode cL_law 1423 = .ok (.aload_n 1, 1) := by decide +kernel
theorem dL_law_1424 : decode cL_law 1424 = .ok (.aload_n 0, 1) := by decide +kernel
theorem dL_law_1425 : decode cL_law 1425 = .ok (.iload 4, 2) := by decide +kernel
theorem dL_law_1427 : decode cL_law 1427 = .ok (.iconst 1, 1) := by decide +kernel
theorem dL_law_1428 : decode cL_law 1428 = .ok (.iadd, 1) := by decide +kernel
theorem dL_law_1429 : decode cL_law 1429 = .ok (.iaload, 1) := by decide +kernel
theorem dL_law_1430 : decode cL_law 1430 = .ok (.aload_n 0, 1) := by decide +kernel
theorem dL_law_1431 : decode cL_law 1431 = .ok (.iload 4, 2) := by decide +kernel
theorem dL_law_1433 : decode cL_law 1433 = .ok (.iconst 2, 1) := by decide +kernel
theorem dL_law_1434 : decode cL_law 1434 = .ok (.iadd, 1) := by decide +kernel
theorem dL_law_1435 : decode cL_law 1435 = .ok (.iaload, 1) := by decide +kernel
theorem dL_law_1436 : decode cL_law 1436 = .ok (.i2l, 1) := by decide +kernel
theorem dL_law_1437 : decode cL_law 1437 = .ok (.bipush 32, 2) := by decide +kernel
theorem dL_law_1439 : decode cL_law 1439 = .ok (.lshl, 1) := by decide +kernel
theorem dL_law_1440 : decode cL_law 1440 = .ok (.aload_n 0, 1) := by decide +kernel
theorem dL_law_1441 : decode cL_law 1441 = .ok (.iload 4, 2) := by decide +kernel
theorem dL_law_1443 : decode cL_law 1443 = .ok (.iconst 3, 1) := by decide +kernel
theorem dL_law_1444 : decode cL_law 1444 = .ok (.iadd, 1) := by decide +kernel
theorem dL_law_1445 : decode cL_law 1445 = .ok (.iaload, 1) := by decide +kernel
theorem dL_law_1446 : decode cL_law 1446 = .ok (.i2l, 1) := by decide +kernel
theorem dL_law_1447 : decode cL_law 1447 = .ok (.ldc2_w 176, 3) := by decide +kernel
theorem dL_law_1450 : decode cL_law 1450 = .ok (.land, 1) := by decide +kernel
theorem dL_law_1451 : decode cL_law 1451 = .ok (.lor, 1) := by decide +kernel
theorem dL_law_1452 : decode cL_law 1452 = .ok (.aload_n 3, 1) := by decide +kernel
theorem dL_law_1453 : decode cL_law 1453 = .ok (.invokestatic 178, 3) := by decide +kernel
theorem dL_law_1456 : decode cL_law 1456 = .ok (.istore 5, 2) := by decide +kernel
theorem dL_law_1458 : decode cL_law 1458 = .ok (.aload_n 2, 1) := by decide +kernel
theorem dL_law_1459 : decode cL_law 1459 = .ok (.aload_n 0, 1) := by decide +kernel
theorem dL_law_1460 : decode cL_law 1460 = .ok (.iload 4, 2) := by decide +kernel
theorem dL_law_1462 : decode cL_law 1462 = .ok (.iconst 1, 1) := by decide +kernel
theorem dL_law_1463 : decode cL_law 1463 = .ok (.iadd, 1) := by decide +kernel
theorem dL_law_1464 : decode cL_law 1464 = .ok (.iaload, 1) := by decide +kernel
theorem dL_law_1465 : decode cL_law 1465 = .ok (.aload_n 0, 1) := by decide +kernel
theorem dL_law_1466 : decode cL_law 1466 = .ok (.iload 4, 2) := by decide +kernel
theorem dL_law_1468 : decode cL_law 1468 = .ok (.iconst 2, 1) := by decide +kernel
theorem dL_law_1469 : decode cL_law 1469 = .ok (.iadd, 1) := by decide +kernel
theorem dL_law_1470 : decode cL_law 1470 = .ok (.iaload, 1) := by decide +kernel
theorem dL_law_1471 : decode cL_law 1471 = .ok (.i2l, 1) := by decide +kernel
theorem dL_law_1472 : decode cL_law 1472 = .ok (.bipush 32, 2) := by decide +kernel
theorem dL_law_1474 : decode cL_law 1474 = .ok (.lshl, 1) := by decide +kernel
theorem dL_law_1475 : decode cL_law 1475 = .ok (.aload_n 0, 1) := by decide +kernel
theorem dL_law_1476 : decode cL_law 1476 = .ok (.iload 4, 2) := by decide +kernel
theorem dL_law_1478 : decode cL_law 1478 = .ok (.iconst 3, 1) := by decide +kernel
theorem dL_law_1479 : decode cL_law 1479 = .ok (.iadd, 1) := by decide +kernel
theorem dL_law_1480 : decode cL_law 1480 = .ok (.iaload, 1) := by decide +kernel
theorem dL_law_1481 : decode cL_law 1481 = .ok (.i2l, 1) := by decide +kernel
theorem dL_law_1482 : decode cL_law 1482 = .ok (.ldc2_w 176, 3) := by decide +kernel
theorem dL_law_1485 : decode cL_law 1485 = .ok (.land, 1) := by decide +kernel
theorem dL_law_1486 : decode cL_law 1486 = .ok (.lor, 1) := by decide +kernel
theorem dL_law_1487 : decode cL_law 1487 = .ok (.invokevirtual 181, 3) := by decide +kernel
theorem dL_law_1490 : decode cL_law 1490 = .ok (.istore 6, 2) := by decide +kernel
theorem dL_law_1492 : decode cL_law 1492 = .ok (.aload_n 2, 1) := by decide +kernel
theorem dL_law_1493 : decode cL_law 1493 = .ok (.invokevirtual 102, 3) := by decide +kernel
theorem dL_law_1496 : decode cL_law 1496 = .ok (.iload 5, 2) := by decide +kernel
theorem dL_law_1498 : decode cL_law 1498 = .ok (.if_icmp .eq 5, 3) := by decide +kernel
theorem dL_law_1501 : decode cL_law 1501 = .ok (.iconst 0, 1) := by decide +kernel
theorem dL_law_1502 : decode cL_law 1502 = .ok (.ireturn, 1) := by decide +kernel
theorem dL_law_1503 : decode cL_law 1503 = .ok (.iload 5, 2) := by decide +kernel
theorem dL_law_1505 : decode cL_law 1505 = .ok (.ifCond .ne 15, 3) := by decide +kernel
theorem dL_law_1508 : decode cL_law 1508 = .ok (.aload_n 3, 1) := by decide +kernel
theorem dL_law_1509 : decode cL_law 1509 = .ok (.iconst 0, 1) := by decide +kernel
theorem dL_law_1510 : decode cL_law 1510 = .ok (.laload, 1) := by decide +kernel
theorem dL_law_1511 : decode cL_law 1511 = .ok (.iload 6, 2) := by decide +kernel
theorem dL_law_1513 : decode cL_law 1513 = .ok (.i2l, 1) := by decide +kernel
theorem dL_law_1514 : decode cL_law 1514 = .ok (.lcmp, 1) := by decide +kernel
theorem dL_law_1515 : decode cL_law 1515 = .ok (.ifCond .eq 5, 3) := by decide +kernel
theorem dL_law_1518 : decode cL_law 1518 = .ok (.iconst 0, 1) := by decide +kernel
theorem dL_law_1519 : decode cL_law 1519 = .ok (.ireturn, 1) := by decide +kernel
theorem dL_law_1520 : decode cL_law 1520 = .ok (.goto 215, 3) := by decide +kernel
theorem dL_law_1523 : decode cL_law 1523 = .ok (.aload_n 1, 1) := by decide +kernel
theorem dL_law_1524 : decode cL_law 1524 = .ok (.aload_n 0, 1) := by decide +kernel
theorem dL_law_1525 : decode cL_law 1525 = .ok (.iload 4, 2) := by decide +kernel
theorem dL_law_1527 : decode cL_law 1527 = .ok (.iconst 1, 1) := by decide +kernel
theorem dL_law_1528 : decode cL_law 1528 = .ok (.iadd, 1) := by decide +kernel
theorem dL_law_1529 : decode cL_law 1529 = .ok (.iaload, 1) := by decide +kernel
theorem dL_law_1530 : decode cL_law 1530 = .ok (.i2l, 1) := by decide +kernel
theorem dL_law_1531 : decode cL_law 1531 = .ok (.bipush 32, 2) := by decide +kernel
theorem dL_law_1533 : decode cL_law 1533 = .ok (.lshl, 1) := by decide +kernel
theorem dL_law_1534 : decode cL_law 1534 = .ok (.aload_n 0, 1) := by decide +kernel
theorem dL_law_1535 : decode cL_law 1535 = .ok (.iload 4, 2) := by decide +kernel
theorem dL_law_1537 : decode cL_law 1537 = .ok (.iconst 2, 1) := by decide +kernel
theorem dL_law_1538 : decode cL_law 1538 = .ok (.iadd, 1) := by decide +kernel
theorem dL_law_1539 : decode cL_law 1539 = .ok (.iaload, 1) := by decide +kernel
theorem dL_law_1540 : decode cL_law 1540 = .ok (.i2l, 1) := by decide +kernel
theorem dL_law_1541 : decode cL_law 1541 = .ok (.ldc2_w 176, 3) := by decide +kernel
theorem dL_law_1544 : decode cL_law 1544 = .ok (.land, 1) := by decide +kernel
theorem dL_law_1545 : decode cL_law 1545 = .ok (.lor, 1) := by decide +kernel
theorem dL_law_1546 : decode cL_law 1546 = .ok (.aload_n 0, 1) := by decide +kernel
theorem dL_law_1547 : decode cL_law 1547 = .ok (.iload 4, 2) := by decide +kernel
theorem dL_law_1549 : decode cL_law 1549 = .ok (.iconst 3, 1) := by decide +kernel
theorem dL_law_1550 : decode cL_law 1550 = .ok (.iadd, 1) := by decide +kernel
theorem dL_law_1551 : decode cL_law 1551 = .ok (.iaload, 1) := by decide +kernel
theorem dL_law_1552 : decode cL_law 1552 = .ok (.aload_n 3, 1) := by decide +kernel
theorem dL_law_1553 : decode cL_law 1553 = .ok (.invokestatic 182, 3) := by decide +kernel
theorem dL_law_1556 : decode cL_law 1556 = .ok (.istore 5, 2) := by decide +kernel
theorem dL_law_1558 : decode cL_law 1558 = .ok (.aload_n 2, 1) := by decide +kernel
theorem dL_law_1559 : decode cL_law 1559 = .ok (.aload_n 0, 1) := by decide +kernel
theorem dL_law_1560 : decode cL_law 1560 = .ok (.iload 4, 2) := by decide +kernel
theorem dL_law_1562 : decode cL_law 1562 = .ok (.iconst 1, 1) := by decide +kernel
theorem dL_law_1563 : decode cL_law 1563 = .ok (.iadd, 1) := by decide +kernel
theorem dL_law_1564 : decode cL_law 1564 = .ok (.iaload, 1) := by decide +kernel
theorem dL_law_1565 : decode cL_law 1565 = .ok (.i2l, 1) := by decide +kernel
theorem dL_law_1566 : decode cL_law 1566 = .ok (.bipush 32, 2) := by decide +kernel
theorem dL_law_1568 : decode cL_law 1568 = .ok (.lshl, 1) := by decide +kernel
theorem dL_law_1569 : decode cL_law 1569 = .ok (.aload_n 0, 1) := by decide +kernel
theorem dL_law_1570 : decode cL_law 1570 = .ok (.iload 4, 2) := by decide +kernel
theorem dL_law_1572 : decode cL_law 1572 = .ok (.iconst 2, 1) := by decide +kernel
theorem dL_law_1573 : decode cL_law 1573 = .ok (.iadd, 1) := by decide +kernel
theorem dL_law_1574 : decode cL_law 1574 = .ok (.iaload, 1) := by decide +kernel
theorem dL_law_1575 : decode cL_law 1575 = .ok (.i2l, 1) := by decide +kernel
theorem dL_law_1576 : decode cL_law 1576 = .ok (.ldc2_w 176, 3) := by decide +kernel
theorem dL_law_1579 : decode cL_law 1579 = .ok (.land, 1) := by decide +kernel
theorem dL_law_1580 : decode cL_law 1580 = .ok (.lor, 1) := by decide +kernel
theorem dL_law_1581 : decode cL_law 1581 = .ok (.aload_n 0, 1) := by decide +kernel
theorem dL_law_1582 : decode cL_law 1582 = .ok (.iload 4, 2) := by decide +kernel
theorem dL_law_1584 : decode cL_law 1584 = .ok (.iconst 3, 1) := by decide +kernel
theorem dL_law_1585 : decode cL_law 1585 = .ok (.iadd, 1) := by decide +kernel
theorem dL_law_1586 : decode cL_law 1586 = .ok (.iaload, 1) := by decide +kernel
theorem dL_law_1587 : decode cL_law 1587 = .ok (.invokevirtual 185, 3) := by decide +kernel
theorem dL_law_1590 : decode cL_law 1590 = .ok (.istore 6, 2) := by decide +kernel
theorem dL_law_1592 : decode cL_law 1592 = .ok (.aload_n 2, 1) := by decide +kernel
theorem dL_law_1593 : decode cL_law 1593 = .ok (.invokevirtual 102, 3) := by decide +kernel
theorem dL_law_1596 : decode cL_law 1596 = .ok (.iload 5, 2) := by decide +kernel
theorem dL_law_1598 : decode cL_law 1598 = .ok (.if_icmp .eq 5, 3) := by decide +kernel
theorem dL_law_1601 : decode cL_law 1601 = .ok (.iconst 0, 1) := by decide +kernel
theorem dL_law_1602 : decode cL_law 1602 = .ok (.ireturn, 1) := by decide +kernel
theorem dL_law_1603 : decode cL_law 1603 = .ok (.iload 5, 2) := by decide +kernel
theorem dL_law_1605 : decode cL_law 1605 = .ok (.ifCond .ne 15, 3) := by decide +kernel
theorem dL_law_1608 : decode cL_law 1608 = .ok (.aload_n 3, 1) := by decide +kernel
theorem dL_law_1609 : decode cL_law 1609 = .ok (.iconst 0, 1) := by decide +kernel
theorem dL_law_1610 : decode cL_law 1610 = .ok (.laload, 1) := by decide +kernel
theorem dL_law_1611 : decode cL_law 1611 = .ok (.iload 6, 2) := by decide +kernel
theorem dL_law_1613 : decode cL_law 1613 = .ok (.i2l, 1) := by decide +kernel
theorem dL_law_1614 : decode cL_law 1614 = .ok (.lcmp, 1) := by decide +kernel
theorem dL_law_1615 : decode cL_law 1615 = .ok (.ifCond .eq 5, 3) := by decide +kernel
theorem dL_law_1618 : decode cL_law 1618 = .ok (.iconst 0, 1) := by decide +kernel
theorem dL_law_1619 : decode cL_law 1619 = .ok (.ireturn, 1) := by decide +kernel
theorem dL_law_1620 : decode cL_law 1620 = .ok (.goto 115, 3) := by decide +kernel
theorem dL_law_1623 : decode cL_law 1623 = .ok (.aload_n 1, 1) := by decide +kernel
theorem dL_law_1624 : decode cL_law 1624 = .ok (.aload_n 0, 1) := by decide +kernel
theorem dL_law_1625 : decode cL_law 1625 = .ok (.iload 4, 2) := by decide +kernel
theorem dL_law_1627 : decode cL_law 1627 = .ok (.iconst 1, 1) := by decide +kernel
theorem dL_law_1628 : decode cL_law 1628 = .ok (.iadd, 1) := by decide +kernel
theorem dL_law_1629 : decode cL_law 1629 = .ok (.iaload, 1) := by decide +kernel
theorem dL_law_1630 : decode cL_law 1630 = .ok (.aload_n 3, 1) := by decide +kernel
theorem dL_law_1631 : decode cL_law 1631 = .ok (.invokestatic 186, 3) := by decide +kernel
theorem dL_law_1634 : decode cL_law 1634 = .ok (.istore 5, 2) := by decide +kernel
theorem dL_law_1636 : decode cL_law 1636 = .ok (.aload_n 2, 1) := by decide +kernel
theorem dL_law_1637 : decode cL_law 1637 = .ok (.aload_n 0, 1) := by decide +kernel
theorem dL_law_1638 : decode cL_law 1638 = .ok (.iload 4, 2) := by decide +kernel
theorem dL_law_1640 : decode cL_law 1640 = .ok (.iconst 1, 1) := by decide +kernel
theorem dL_law_1641 : decode cL_law 1641 = .ok (.iadd, 1) := by decide +kernel
theorem dL_law_1642 : decode cL_law 1642 = .ok (.iaload, 1) := by decide +kernel
theorem dL_law_1643 : decode cL_law 1643 = .ok (.invokevirtual 188, 3) := by decide +kernel
theorem dL_law_1646 : decode cL_law 1646 = .ok (.istore 6, 2) := by decide +kernel
theorem dL_law_1648 : decode cL_law 1648 = .ok (.aload_n 2, 1) := by decide +kernel
theorem dL_law_1649 : decode cL_law 1649 = .ok (.invokevirtual 102, 3) := by decide +kernel
theorem dL_law_1652 : decode cL_law 1652 = .ok (.iload 5, 2) := by decide +kernel
theorem dL_law_1654 : decode cL_law 1654 = .ok (.if_icmp .eq 5, 3) := by decide +kernel
theorem dL_law_1657 : decode cL_law 1657 = .ok (.iconst 0, 1) := by decide +kernel
theorem dL_law_1658 : decode cL_law 1658 = .ok (.ireturn, 1) := by decide +kernel
theorem dL_law_1659 : decode cL_law 1659 = .ok (.iload 5, 2) := by decide +kernel
theorem dL_law_1661 : decode cL_law 1661 = .ok (.ifCond .ne 15, 3) := by decide +kernel
theorem dL_law_1664 : decode cL_law 1664 = .ok (.aload_n 3, 1) := by decide +kernel
theorem dL_law_1665 : decode cL_law 1665 = .ok (.iconst 0, 1) := by decide +kernel
theorem dL_law_1666 : decode cL_law 1666 = .ok (.laload, 1) := by decide +kernel
theorem dL_law_1667 : decode cL_law 1667 = .ok (.iload 6, 2) := by decide +kernel
theorem dL_law_1669 : decode cL_law 1669 = .ok (.i2l, 1) := by decide +kernel
theorem dL_law_1670 : decode cL_law 1670 = .ok (.lcmp, 1) := by decide +kernel
theorem dL_law_1671 : decode cL_law 1671 = .ok (.ifCond .eq 5, 3) := by decide +kernel
theorem dL_law_1674 : decode cL_law 1674 = .ok (.iconst 0, 1) := by decide +kernel
theorem dL_law_1675 : decode cL_law 1675 = .ok (.ireturn, 1) := by decide +kernel
theorem dL_law_1676 : decode cL_law 1676 = .ok (.goto 59, 3) := by decide +kernel
theorem dL_law_1679 : decode cL_law 1679 = .ok (.aload_n 1, 1) := by decide +kernel
theorem dL_law_1680 : decode cL_law 1680 = .ok (.aload_n 0, 1) := by decide +kernel
theorem dL_law_1681 : decode cL_law 1681 = .ok (.iload 4, 2) := by decide +kernel
theorem dL_law_1683 : decode cL_law 1683 = .ok (.iconst 1, 1) := by decide +kernel
theorem dL_law_1684 : decode cL_law 1684 = .ok (.iadd, 1) := by decide +kernel
theorem dL_law_1685 : decode cL_law 1685 = .ok (.iaload, 1) := by decide +kernel
theorem dL_law_1686 : decode cL_law 1686 = .ok (.aload_n 3, 1) := by decide +kernel
theorem dL_law_1687 : decode cL_law 1687 = .ok (.invokestatic 189, 3) := by decide +kernel
theorem dL_law_1690 : decode cL_law 1690 = .ok (.istore 5, 2) := by decide +kernel
theorem dL_law_1692 : decode cL_law 1692 = .ok (.aload_n 2, 1) := by decide +kernel
theorem dL_law_1693 : decode cL_law 1693 = .ok (.aload_n 0, 1) := by decide +kernel
theorem dL_law_1694 : decode cL_law 1694 = .ok (.iload 4, 2) := by decide +kernel
theorem dL_law_1696 : decode cL_law 1696 = .ok (.iconst 1, 1) := by decide +kernel
theorem dL_law_1697 : decode cL_law 1697 = .ok (.iadd, 1) := by decide +kernel
theorem dL_law_1698 : decode cL_law 1698 = .ok (.iaload, 1) := by decide +kernel
theorem dL_law_1699 : decode cL_law 1699 = .ok (.invokevirtual 191, 3) := by decide +kernel
theorem dL_law_1702 : decode cL_law 1702 = .ok (.istore 6, 2) := by decide +kernel
theorem dL_law_1704 : decode cL_law 1704 = .ok (.aload_n 2, 1) := by decide +kernel
theorem dL_law_1705 : decode cL_law 1705 = .ok (.invokevirtual 102, 3) := by decide +kernel
theorem dL_law_1708 : decode cL_law 1708 = .ok (.iload 5, 2) := by decide +kernel
theorem dL_law_1710 : decode cL_law 1710 = .ok (.if_icmp .eq 5, 3) := by decide +kernel
theorem dL_law_1713 : decode cL_law 1713 = .ok (.iconst 0, 1) := by decide +kernel
theorem dL_law_1714 : decode cL_law 1714 = .ok (.ireturn, 1) := by decide +kernel
theorem dL_law_1715 : decode cL_law 1715 = .ok (.iload 5, 2) := by decide +kernel
theorem dL_law_1717 : decode cL_law 1717 = .ok (.ifCond .ne 15, 3) := by decide +kernel
theorem dL_law_1720 : decode cL_law 1720 = .ok (.aload_n 3, 1) := by decide +kernel
theorem dL_law_1721 : decode cL_law 1721 = .ok (.iconst 0, 1) := by decide +kernel
theorem dL_law_1722 : decode cL_law 1722 = .ok (.laload, 1) := by decide +kernel
theorem dL_law_1723 : decode cL_law 1723 = .ok (.iload 6, 2) := by decide +kernel
theorem dL_law_1725 : decode cL_law 1725 = .ok (.i2l, 1) := by decide +kernel
theorem dL_law_1726 : decode cL_law 1726 = .ok (.lcmp, 1) := by decide +kernel
theorem dL_law_1727 : decode cL_law 1727 = .ok (.ifCond .eq 5, 3) := by decide +kernel
theorem dL_law_1730 : decode cL_law 1730 = .ok (.iconst 0, 1) := by decide +kernel
theorem dL_law_1731 : decode cL_law 1731 = .ok (.ireturn, 1) := by decide +kernel
theorem dL_law_1732 : decode cL_law 1732 = .ok (.goto 3, 3) := by decide +kernel
theorem dL_law_1735 : decode cL_law 1735 = .ok (.iinc 4 6, 3) := by decide +kernel
theorem dL_law_1738 : decode cL_law 1738 = .ok (.goto (-1715), 3) := by decide +kernel
theorem dL_law_1741 : decode cL_law 1741 = .ok (.iconst 1, 1) := by decide +kernel
theorem dL_law_1742 : decode cL_law 1742 = .ok (.ireturn, 1) := by decide +kernel
abbrev vwCl : List vw_C := [(RX0, TX0, 10), (RX1, TX1, 5), (RX2, TX2, 12), (RX3, TX3, 4), (RX4, TX4, 3), (RX5, TX5, 4), (RX6, TX6, 8), (RX7, TX7, 12)]
