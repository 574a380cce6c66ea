/-! printed by program: what each instruction links, by places of the tables -/
def mX0_init : MT := (1, none, [], "<init>")
theorem co_X0_init : Cond.code yX0_init cX0_init mX0_init.1 mX0_init.2.1 ∈ TT := tt_t (i := 81) (by decide +kernel) rfl
theorem im_X0_init : Cond.instanceMethod yX0_init ∈ TT := tt_t (i := 80) (by decide +kernel) rfl
theorem ds_X0_init : yX0_init.cls ≠ "java/lang/invoke/MethodHandle" ∧ yX0_init.cls ≠ "java/lang/invoke/VarHandle" ∧ (parseMethodDescriptor yX0_init.desc).map (fun d => d.parameters.length) = some 0 := by decide +kernel
def mX0_become : MT := (6, none, [], "become")
theorem co_X0_become : Cond.code yX0_become cX0_become mX0_become.1 mX0_become.2.1 ∈ TT := tt_t (i := 323) (by decide +kernel) rfl
theorem im_X0_become : Cond.instanceMethod yX0_become ∈ TT := tt_t (i := 321) (by decide +kernel) rfl
theorem se_X0_become : Cond.selects yX0_become.cls yX0_become yX0_become ∈ TT := tt_t (i := 322) (by decide +kernel) rfl
theorem ds_X0_become : yX0_become.cls ≠ "java/lang/invoke/MethodHandle" ∧ yX0_become.cls ≠ "java/lang/invoke/VarHandle" ∧ (parseMethodDescriptor yX0_become.desc).map (fun d => d.parameters.length) = some 5 := by decide +kernel
def mX0_copyFrom : MT := (2, none, [], "copyFrom")
theorem co_X0_copyFrom : Cond.code yX0_copyFrom cX0_copyFrom mX0_copyFrom.1 mX0_copyFrom.2.1 ∈ TT := tt_t (i := 347) (by decide +kernel) rfl
theorem im_X0_copyFrom : Cond.instanceMethod yX0_copyFrom ∈ TT := tt_t (i := 345) (by decide +kernel) rfl
theorem se_X0_copyFrom : Cond.selects yX0_copyFrom.cls yX0_copyFrom yX0_copyFrom ∈ TT := tt_t (i := 346) (by decide +kernel) rfl
theorem ds_X0_copyFrom : yX0_copyFrom.cls ≠ "java/lang/invoke/MethodHandle" ∧ yX0_copyFrom.cls ≠ "java/lang/invoke/VarHandle" ∧ (parseMethodDescriptor yX0_copyFrom.desc).map (fun d => d.parameters.length) = some 1 := by decide +kernel
def mX0_numberAbout : MT := (2, (some .int), [], "numberAbout")
theorem co_X0_numberAbout : Cond.code yX0_numberAbout cX0_numberAbout mX0_numberAbout.1 mX0_numberAbout.2.1 ∈ TT := tt_t (i := 629) (by decide +kernel) rfl
theorem im_X0_numberAbout : Cond.instanceMethod yX0_numberAbout ∈ TT := tt_t (i := 627) (by decide +kernel) rfl
theorem se_X0_numberAbout : Cond.selects yX0_numberAbout.cls yX0_numberAbout yX0_numberAbout ∈ TT := tt_t (i := 628) (by decide +kernel) rfl
theorem ds_X0_numberAbout : yX0_numberAbout.cls ≠ "java/lang/invoke/MethodHandle" ∧ yX0_numberAbout.cls ≠ "java/lang/invoke/VarHandle" ∧ (parseMethodDescriptor yX0_numberAbout.desc).map (fun d => d.parameters.length) = some 1 := by decide +kernel
def mX0_end : MT := (1, (some .int), [], "end")
theorem co_X0_end : Cond.code yX0_end cX0_end mX0_end.1 mX0_end.2.1 ∈ TT := tt_t (i := 315) (by decide +kernel) rfl
theorem im_X0_end : Cond.instanceMethod yX0_end ∈ TT := tt_t (i := 313) (by decide +kernel) rfl
theorem se_X0_end : Cond.selects yX0_end.cls yX0_end yX0_end ∈ TT := tt_t (i := 314) (by decide +kernel) rfl
theorem ds_X0_end : yX0_end.cls ≠ "java/lang/invoke/MethodHandle" ∧ yX0_end.cls ≠ "java/lang/invoke/VarHandle" ∧ (parseMethodDescriptor yX0_end.desc).map (fun d => d.parameters.length) = some 0 := by decide +kernel
def mX0_has : MT := (2, (some .boolean), [], "has")
theorem co_X0_has : Cond.code yX0_has cX0_has mX0_has.1 mX0_has.2.1 ∈ TT := tt_t (i := 376) (by decide +kernel) rfl
theorem im_X0_has : Cond.instanceMethod yX0_has ∈ TT := tt_t (i := 374) (by decide +kernel) rfl
theorem se_X0_has : Cond.selects yX0_has.cls yX0_has yX0_has ∈ TT := tt_t (i := 375) (by decide +kernel) rfl
theorem ds_X0_has : yX0_has.cls ≠ "java/lang/invoke/MethodHandle" ∧ yX0_has.cls ≠ "java/lang/invoke/VarHandle" ∧ (parseMethodDescriptor yX0_has.desc).map (fun d => d.parameters.length) = some 1 := by decide +kernel
def mX0_isOver : MT := (2, (some .boolean), [], "isOver")
theorem co_X0_isOver : Cond.code yX0_isOver cX0_isOver mX0_isOver.1 mX0_isOver.2.1 ∈ TT := tt_t (i := 625) (by decide +kernel) rfl
theorem im_X0_isOver : Cond.instanceMethod yX0_isOver ∈ TT := tt_t (i := 623) (by decide +kernel) rfl
theorem se_X0_isOver : Cond.selects yX0_isOver.cls yX0_isOver yX0_isOver ∈ TT := tt_t (i := 624) (by decide +kernel) rfl
theorem ds_X0_isOver : yX0_isOver.cls ≠ "java/lang/invoke/MethodHandle" ∧ yX0_isOver.cls ≠ "java/lang/invoke/VarHandle" ∧ (parseMethodDescriptor yX0_isOver.desc).map (fun d => d.parameters.length) = some 1 := by decide +kernel
def mX0_meets : MT := (3, (some .boolean), [], "meets")
theorem co_X0_meets : Cond.code yX0_meets cX0_meets mX0_meets.1 mX0_meets.2.1 ∈ TT := tt_t (i := 311) (by decide +kernel) rfl
theorem im_X0_meets : Cond.instanceMethod yX0_meets ∈ TT := tt_t (i := 309) (by decide +kernel) rfl
theorem se_X0_meets : Cond.selects yX0_meets.cls yX0_meets yX0_meets ∈ TT := tt_t (i := 310) (by decide +kernel) rfl
theorem ds_X0_meets : yX0_meets.cls ≠ "java/lang/invoke/MethodHandle" ∧ yX0_meets.cls ≠ "java/lang/invoke/VarHandle" ∧ (parseMethodDescriptor yX0_meets.desc).map (fun d => d.parameters.length) = some 2 := by decide +kernel
def mX0_mayGo : MT := (2, (some .boolean), [], "mayGo")
theorem co_X0_mayGo : Cond.code yX0_mayGo cX0_mayGo mX0_mayGo.1 mX0_mayGo.2.1 ∈ TT := tt_t (i := 678) (by decide +kernel) rfl
theorem im_X0_mayGo : Cond.instanceMethod yX0_mayGo ∈ TT := tt_t (i := 676) (by decide +kernel) rfl
theorem se_X0_mayGo : Cond.selects yX0_mayGo.cls yX0_mayGo yX0_mayGo ∈ TT := tt_t (i := 677) (by decide +kernel) rfl
theorem ds_X0_mayGo : yX0_mayGo.cls ≠ "java/lang/invoke/MethodHandle" ∧ yX0_mayGo.cls ≠ "java/lang/invoke/VarHandle" ∧ (parseMethodDescriptor yX0_mayGo.desc).map (fun d => d.parameters.length) = some 1 := by decide +kernel
def mX1_init : MT := (1, none, [], "<init>")
theorem co_X1_init : Cond.code yX1_init cX1_init mX1_init.1 mX1_init.2.1 ∈ TT := tt_t (i := 200) (by decide +kernel) rfl
theorem im_X1_init : Cond.instanceMethod yX1_init ∈ TT := tt_t (i := 199) (by decide +kernel) rfl
theorem ds_X1_init : yX1_init.cls ≠ "java/lang/invoke/MethodHandle" ∧ yX1_init.cls ≠ "java/lang/invoke/VarHandle" ∧ (parseMethodDescriptor yX1_init.desc).map (fun d => d.parameters.length) = some 0 := by decide +kernel
def mX1_withoutLast : MT := (6, (some .long), [], "withoutLast")
theorem co_X1_withoutLast : Cond.code yX1_withoutLast cX1_withoutLast mX1_withoutLast.1 mX1_withoutLast.2.1 ∈ TT := tt_t (i := 773) (by decide +kernel) rfl
theorem sm_X1_withoutLast : Cond.static yX1_withoutLast ∈ TT := tt_t (i := 772) (by decide +kernel) rfl
theorem ds_X1_withoutLast : yX1_withoutLast.cls ≠ "java/lang/invoke/MethodHandle" ∧ yX1_withoutLast.cls ≠ "java/lang/invoke/VarHandle" ∧ (parseMethodDescriptor yX1_withoutLast.desc).map (fun d => d.parameters.length) = some 2 := by decide +kernel
def mX1_become : MT := (4, none, [], "become")
theorem co_X1_become : Cond.code yX1_become cX1_become mX1_become.1 mX1_become.2.1 ∈ TT := tt_t (i := 779) (by decide +kernel) rfl
theorem im_X1_become : Cond.instanceMethod yX1_become ∈ TT := tt_t (i := 777) (by decide +kernel) rfl
theorem se_X1_become : Cond.selects yX1_become.cls yX1_become yX1_become ∈ TT := tt_t (i := 778) (by decide +kernel) rfl
theorem ds_X1_become : yX1_become.cls ≠ "java/lang/invoke/MethodHandle" ∧ yX1_become.cls ≠ "java/lang/invoke/VarHandle" ∧ (parseMethodDescriptor yX1_become.desc).map (fun d => d.parameters.length) = some 1 := by decide +kernel
def mX1_succeedsOn : MT := (2, (some .boolean), [], "succeedsOn")
theorem co_X1_succeedsOn : Cond.code yX1_succeedsOn cX1_succeedsOn mX1_succeedsOn.1 mX1_succeedsOn.2.1 ∈ TT := tt_t (i := 783) (by decide +kernel) rfl
theorem im_X1_succeedsOn : Cond.instanceMethod yX1_succeedsOn ∈ TT := tt_t (i := 781) (by decide +kernel) rfl
theorem se_X1_succeedsOn : Cond.selects yX1_succeedsOn.cls yX1_succeedsOn yX1_succeedsOn ∈ TT := tt_t (i := 782) (by decide +kernel) rfl
theorem ds_X1_succeedsOn : yX1_succeedsOn.cls ≠ "java/lang/invoke/MethodHandle" ∧ yX1_succeedsOn.cls ≠ "java/lang/invoke/VarHandle" ∧ (parseMethodDescriptor yX1_succeedsOn.desc).map (fun d => d.parameters.length) = some 1 := by decide +kernel
def mX1_letsPass : MT := (4, (some .boolean), [], "letsPass")
theorem co_X1_letsPass : Cond.code yX1_letsPass cX1_letsPass mX1_letsPass.1 mX1_letsPass.2.1 ∈ TT := tt_t (i := 787) (by decide +kernel) rfl
theorem im_X1_letsPass : Cond.instanceMethod yX1_letsPass ∈ TT := tt_t (i := 786) (by decide +kernel) rfl
theorem se_X1_letsPass : Cond.selects yX1_letsPass.cls yX1_letsPass yX1_letsPass ∈ TT := tt_p (i := 20) (by decide +kernel) rfl
theorem ds_X1_letsPass : yX1_letsPass.cls ≠ "java/lang/invoke/MethodHandle" ∧ yX1_letsPass.cls ≠ "java/lang/invoke/VarHandle" ∧ (parseMethodDescriptor yX1_letsPass.desc).map (fun d => d.parameters.length) = some 2 := by decide +kernel
def mX1_changesOutdoors : MT := (4, (some .boolean), [], "changesOutdoors")
theorem co_X1_changesOutdoors : Cond.code yX1_changesOutdoors cX1_changesOutdoors mX1_changesOutdoors.1 mX1_changesOutdoors.2.1 ∈ TT := tt_t (i := 792) (by decide +kernel) rfl
theorem im_X1_changesOutdoors : Cond.instanceMethod yX1_changesOutdoors ∈ TT := tt_t (i := 791) (by decide +kernel) rfl
theorem se_X1_changesOutdoors : Cond.selects yX1_changesOutdoors.cls yX1_changesOutdoors yX1_changesOutdoors ∈ TT := tt_p (i := 21) (by decide +kernel) rfl
theorem ds_X1_changesOutdoors : yX1_changesOutdoors.cls ≠ "java/lang/invoke/MethodHandle" ∧ yX1_changesOutdoors.cls ≠ "java/lang/invoke/VarHandle" ∧ (parseMethodDescriptor yX1_changesOutdoors.desc).map (fun d => d.parameters.length) = some 2 := by decide +kernel
def mX1_proves : MT := (2, (some .boolean), [], "proves")
theorem co_X1_proves : Cond.code yX1_proves cX1_proves mX1_proves.1 mX1_proves.2.1 ∈ TT := tt_t (i := 796) (by decide +kernel) rfl
theorem im_X1_proves : Cond.instanceMethod yX1_proves ∈ TT := tt_t (i := 795) (by decide +kernel) rfl
theorem se_X1_proves : Cond.selects yX1_proves.cls yX1_proves yX1_proves ∈ TT := tt_p (i := 22) (by decide +kernel) rfl
theorem ds_X1_proves : yX1_proves.cls ≠ "java/lang/invoke/MethodHandle" ∧ yX1_proves.cls ≠ "java/lang/invoke/VarHandle" ∧ (parseMethodDescriptor yX1_proves.desc).map (fun d => d.parameters.length) = some 1 := by decide +kernel
def mX1_pays : MT := (2, (some .boolean), [], "pays")
theorem co_X1_pays : Cond.code yX1_pays cX1_pays mX1_pays.1 mX1_pays.2.1 ∈ TT := tt_t (i := 803) (by decide +kernel) rfl
theorem im_X1_pays : Cond.instanceMethod yX1_pays ∈ TT := tt_t (i := 802) (by decide +kernel) rfl
theorem se_X1_pays : Cond.selects yX1_pays.cls yX1_pays yX1_pays ∈ TT := tt_p (i := 23) (by decide +kernel) rfl
theorem ds_X1_pays : yX1_pays.cls ≠ "java/lang/invoke/MethodHandle" ∧ yX1_pays.cls ≠ "java/lang/invoke/VarHandle" ∧ (parseMethodDescriptor yX1_pays.desc).map (fun d => d.parameters.length) = some 1 := by decide +kernel
def mX1_cancels : MT := (4, (some .boolean), [], "cancels")
theorem co_X1_cancels : Cond.code yX1_cancels cX1_cancels mX1_cancels.1 mX1_cancels.2.1 ∈ TT := tt_t (i := 809) (by decide +kernel) rfl
theorem im_X1_cancels : Cond.instanceMethod yX1_cancels ∈ TT := tt_t (i := 808) (by decide +kernel) rfl
theorem se_X1_cancels : Cond.selects yX1_cancels.cls yX1_cancels yX1_cancels ∈ TT := tt_p (i := 24) (by decide +kernel) rfl
theorem ds_X1_cancels : yX1_cancels.cls ≠ "java/lang/invoke/MethodHandle" ∧ yX1_cancels.cls ≠ "java/lang/invoke/VarHandle" ∧ (parseMethodDescriptor yX1_cancels.desc).map (fun d => d.parameters.length) = some 1 := by decide +kernel
def mX1_isAsWarm : MT := (3, (some .boolean), [], "isAsWarm")
theorem co_X1_isAsWarm : Cond.code yX1_isAsWarm cX1_isAsWarm mX1_isAsWarm.1 mX1_isAsWarm.2.1 ∈ TT := tt_t (i := 816) (by decide +kernel) rfl
theorem im_X1_isAsWarm : Cond.instanceMethod yX1_isAsWarm ∈ TT := tt_t (i := 815) (by decide +kernel) rfl
theorem se_X1_isAsWarm : Cond.selects yX1_isAsWarm.cls yX1_isAsWarm yX1_isAsWarm ∈ TT := tt_p (i := 25) (by decide +kernel) rfl
theorem ds_X1_isAsWarm : yX1_isAsWarm.cls ≠ "java/lang/invoke/MethodHandle" ∧ yX1_isAsWarm.cls ≠ "java/lang/invoke/VarHandle" ∧ (parseMethodDescriptor yX1_isAsWarm.desc).map (fun d => d.parameters.length) = some 2 := by decide +kernel
def mX1_isOverOrNot : MT := (3, (some .boolean), [], "isOverOrNot")
theorem co_X1_isOverOrNot : Cond.code yX1_isOverOrNot cX1_isOverOrNot mX1_isOverOrNot.1 mX1_isOverOrNot.2.1 ∈ TT := tt_t (i := 821) (by decide +kernel) rfl
theorem im_X1_isOverOrNot : Cond.instanceMethod yX1_isOverOrNot ∈ TT := tt_t (i := 820) (by decide +kernel) rfl
theorem se_X1_isOverOrNot : Cond.selects yX1_isOverOrNot.cls yX1_isOverOrNot yX1_isOverOrNot ∈ TT := tt_p (i := 26) (by decide +kernel) rfl
theorem ds_X1_isOverOrNot : yX1_isOverOrNot.cls ≠ "java/lang/invoke/MethodHandle" ∧ yX1_isOverOrNot.cls ≠ "java/lang/invoke/VarHandle" ∧ (parseMethodDescriptor yX1_isOverOrNot.desc).map (fun d => d.parameters.length) = some 1 := by decide +kernel
def mX2_init : MT := (2, none, [], "<init>")
theorem co_X2_init : Cond.code yX2_init cX2_init mX2_init.1 mX2_init.2.1 ∈ TT := tt_t (i := 50) (by decide +kernel) rfl
theorem im_X2_init : Cond.instanceMethod yX2_init ∈ TT := tt_t (i := 49) (by decide +kernel) rfl
theorem ds_X2_init : yX2_init.cls ≠ "java/lang/invoke/MethodHandle" ∧ yX2_init.cls ≠ "java/lang/invoke/VarHandle" ∧ (parseMethodDescriptor yX2_init.desc).map (fun d => d.parameters.length) = some 0 := by decide +kernel
def mX2_clear : MT := (1, none, [], "clear")
theorem co_X2_clear : Cond.code yX2_clear cX2_clear mX2_clear.1 mX2_clear.2.1 ∈ TT := tt_t (i := 259) (by decide +kernel) rfl
theorem im_X2_clear : Cond.instanceMethod yX2_clear ∈ TT := tt_t (i := 257) (by decide +kernel) rfl
theorem se_X2_clear : Cond.selects yX2_clear.cls yX2_clear yX2_clear ∈ TT := tt_t (i := 258) (by decide +kernel) rfl
theorem ds_X2_clear : yX2_clear.cls ≠ "java/lang/invoke/MethodHandle" ∧ yX2_clear.cls ≠ "java/lang/invoke/VarHandle" ∧ (parseMethodDescriptor yX2_clear.desc).map (fun d => d.parameters.length) = some 0 := by decide +kernel
def mX2_copyFrom : MT := (3, none, [], "copyFrom")
theorem co_X2_copyFrom : Cond.code yX2_copyFrom cX2_copyFrom mX2_copyFrom.1 mX2_copyFrom.2.1 ∈ TT := tt_t (i := 335) (by decide +kernel) rfl
theorem im_X2_copyFrom : Cond.instanceMethod yX2_copyFrom ∈ TT := tt_t (i := 333) (by decide +kernel) rfl
theorem se_X2_copyFrom : Cond.selects yX2_copyFrom.cls yX2_copyFrom yX2_copyFrom ∈ TT := tt_t (i := 334) (by decide +kernel) rfl
theorem ds_X2_copyFrom : yX2_copyFrom.cls ≠ "java/lang/invoke/MethodHandle" ∧ yX2_copyFrom.cls ≠ "java/lang/invoke/VarHandle" ∧ (parseMethodDescriptor yX2_copyFrom.desc).map (fun d => d.parameters.length) = some 1 := by decide +kernel
def mX2_numberAbout : MT := (2, (some .int), [], "numberAbout")
theorem co_X2_numberAbout : Cond.code yX2_numberAbout cX2_numberAbout mX2_numberAbout.1 mX2_numberAbout.2.1 ∈ TT := tt_t (i := 551) (by decide +kernel) rfl
theorem im_X2_numberAbout : Cond.instanceMethod yX2_numberAbout ∈ TT := tt_t (i := 549) (by decide +kernel) rfl
theorem se_X2_numberAbout : Cond.selects yX2_numberAbout.cls yX2_numberAbout yX2_numberAbout ∈ TT := tt_t (i := 550) (by decide +kernel) rfl
theorem ds_X2_numberAbout : yX2_numberAbout.cls ≠ "java/lang/invoke/MethodHandle" ∧ yX2_numberAbout.cls ≠ "java/lang/invoke/VarHandle" ∧ (parseMethodDescriptor yX2_numberAbout.desc).map (fun d => d.parameters.length) = some 1 := by decide +kernel
def mX2_findRoom : MT := (2, (some (.object "HallHeating$Room")), [], "findRoom")
theorem co_X2_findRoom : Cond.code yX2_findRoom cX2_findRoom mX2_findRoom.1 mX2_findRoom.2.1 ∈ TT := tt_t (i := 384) (by decide +kernel) rfl
theorem im_X2_findRoom : Cond.instanceMethod yX2_findRoom ∈ TT := tt_t (i := 382) (by decide +kernel) rfl
theorem se_X2_findRoom : Cond.selects yX2_findRoom.cls yX2_findRoom yX2_findRoom ∈ TT := tt_t (i := 383) (by decide +kernel) rfl
theorem ds_X2_findRoom : yX2_findRoom.cls ≠ "java/lang/invoke/MethodHandle" ∧ yX2_findRoom.cls ≠ "java/lang/invoke/VarHandle" ∧ (parseMethodDescriptor yX2_findRoom.desc).map (fun d => d.parameters.length) = some 1 := by decide +kernel
def mX2_hasGroup : MT := (2, (some .boolean), [], "hasGroup")
theorem co_X2_hasGroup : Cond.code yX2_hasGroup cX2_hasGroup mX2_hasGroup.1 mX2_hasGroup.2.1 ∈ TT := tt_t (i := 602) (by decide +kernel) rfl
theorem im_X2_hasGroup : Cond.instanceMethod yX2_hasGroup ∈ TT := tt_t (i := 600) (by decide +kernel) rfl
theorem se_X2_hasGroup : Cond.selects yX2_hasGroup.cls yX2_hasGroup yX2_hasGroup ∈ TT := tt_t (i := 601) (by decide +kernel) rfl
theorem ds_X2_hasGroup : yX2_hasGroup.cls ≠ "java/lang/invoke/MethodHandle" ∧ yX2_hasGroup.cls ≠ "java/lang/invoke/VarHandle" ∧ (parseMethodDescriptor yX2_hasGroup.desc).map (fun d => d.parameters.length) = some 1 := by decide +kernel
def mX2_findBooking : MT := (2, (some (.object "HallHeating$Booking")), [], "findBooking")
theorem co_X2_findBooking : Cond.code yX2_findBooking cX2_findBooking mX2_findBooking.1 mX2_findBooking.2.1 ∈ TT := tt_t (i := 388) (by decide +kernel) rfl
theorem im_X2_findBooking : Cond.instanceMethod yX2_findBooking ∈ TT := tt_t (i := 386) (by decide +kernel) rfl
theorem se_X2_findBooking : Cond.selects yX2_findBooking.cls yX2_findBooking yX2_findBooking ∈ TT := tt_t (i := 387) (by decide +kernel) rfl
theorem ds_X2_findBooking : yX2_findBooking.cls ≠ "java/lang/invoke/MethodHandle" ∧ yX2_findBooking.cls ≠ "java/lang/invoke/VarHandle" ∧ (parseMethodDescriptor yX2_findBooking.desc).map (fun d => d.parameters.length) = some 1 := by decide +kernel
def mX2_newRoom : MT := (5, (some .int), [], "newRoom")
theorem co_X2_newRoom : Cond.code yX2_newRoom cX2_newRoom mX2_newRoom.1 mX2_newRoom.2.1 ∈ TT := tt_t (i := 283) (by decide +kernel) rfl
theorem im_X2_newRoom : Cond.instanceMethod yX2_newRoom ∈ TT := tt_t (i := 281) (by decide +kernel) rfl
theorem se_X2_newRoom : Cond.selects yX2_newRoom.cls yX2_newRoom yX2_newRoom ∈ TT := tt_t (i := 282) (by decide +kernel) rfl
theorem ds_X2_newRoom : yX2_newRoom.cls ≠ "java/lang/invoke/MethodHandle" ∧ yX2_newRoom.cls ≠ "java/lang/invoke/VarHandle" ∧ (parseMethodDescriptor yX2_newRoom.desc).map (fun d => d.parameters.length) = some 4 := by decide +kernel
def mX2_newGroup : MT := (1, (some .int), [], "newGroup")
theorem co_X2_newGroup : Cond.code yX2_newGroup cX2_newGroup mX2_newGroup.1 mX2_newGroup.2.1 ∈ TT := tt_t (i := 295) (by decide +kernel) rfl
theorem im_X2_newGroup : Cond.instanceMethod yX2_newGroup ∈ TT := tt_t (i := 293) (by decide +kernel) rfl
theorem se_X2_newGroup : Cond.selects yX2_newGroup.cls yX2_newGroup yX2_newGroup ∈ TT := tt_t (i := 294) (by decide +kernel) rfl
theorem ds_X2_newGroup : yX2_newGroup.cls ≠ "java/lang/invoke/MethodHandle" ∧ yX2_newGroup.cls ≠ "java/lang/invoke/VarHandle" ∧ (parseMethodDescriptor yX2_newGroup.desc).map (fun d => d.parameters.length) = some 0 := by decide +kernel
def mX2_hasPlaceFor : MT := (5, (some .boolean), [], "hasPlaceFor")
theorem co_X2_hasPlaceFor : Cond.code yX2_hasPlaceFor cX2_hasPlaceFor mX2_hasPlaceFor.1 mX2_hasPlaceFor.2.1 ∈ TT := tt_t (i := 307) (by decide +kernel) rfl
theorem im_X2_hasPlaceFor : Cond.instanceMethod yX2_hasPlaceFor ∈ TT := tt_t (i := 305) (by decide +kernel) rfl
theorem se_X2_hasPlaceFor : Cond.selects yX2_hasPlaceFor.cls yX2_hasPlaceFor yX2_hasPlaceFor ∈ TT := tt_t (i := 306) (by decide +kernel) rfl
theorem ds_X2_hasPlaceFor : yX2_hasPlaceFor.cls ≠ "java/lang/invoke/MethodHandle" ∧ yX2_hasPlaceFor.cls ≠ "java/lang/invoke/VarHandle" ∧ (parseMethodDescriptor yX2_hasPlaceFor.desc).map (fun d => d.parameters.length) = some 3 := by decide +kernel
def mX2_newBooking : MT := (6, (some .int), [], "newBooking")
theorem co_X2_newBooking : Cond.code yX2_newBooking cX2_newBooking mX2_newBooking.1 mX2_newBooking.2.1 ∈ TT := tt_t (i := 319) (by decide +kernel) rfl
theorem im_X2_newBooking : Cond.instanceMethod yX2_newBooking ∈ TT := tt_t (i := 317) (by decide +kernel) rfl
theorem se_X2_newBooking : Cond.selects yX2_newBooking.cls yX2_newBooking yX2_newBooking ∈ TT := tt_t (i := 318) (by decide +kernel) rfl
theorem ds_X2_newBooking : yX2_newBooking.cls ≠ "java/lang/invoke/MethodHandle" ∧ yX2_newBooking.cls ≠ "java/lang/invoke/VarHandle" ∧ (parseMethodDescriptor yX2_newBooking.desc).map (fun d => d.parameters.length) = some 5 := by decide +kernel
def mX2_removeBooking : MT := (4, none, [], "removeBooking")
theorem co_X2_removeBooking : Cond.code yX2_removeBooking cX2_removeBooking mX2_removeBooking.1 mX2_removeBooking.2.1 ∈ TT := tt_t (i := 683) (by decide +kernel) rfl
theorem im_X2_removeBooking : Cond.instanceMethod yX2_removeBooking ∈ TT := tt_t (i := 681) (by decide +kernel) rfl
theorem se_X2_removeBooking : Cond.selects yX2_removeBooking.cls yX2_removeBooking yX2_removeBooking ∈ TT := tt_t (i := 682) (by decide +kernel) rfl
theorem ds_X2_removeBooking : yX2_removeBooking.cls ≠ "java/lang/invoke/MethodHandle" ∧ yX2_removeBooking.cls ≠ "java/lang/invoke/VarHandle" ∧ (parseMethodDescriptor yX2_removeBooking.desc).map (fun d => d.parameters.length) = some 1 := by decide +kernel
def mX2_bookingOfNow : MT := (3, (some .int), [], "bookingOfNow")
theorem co_X2_bookingOfNow : Cond.code yX2_bookingOfNow cX2_bookingOfNow mX2_bookingOfNow.1 mX2_bookingOfNow.2.1 ∈ TT := tt_t (i := 372) (by decide +kernel) rfl
theorem im_X2_bookingOfNow : Cond.instanceMethod yX2_bookingOfNow ∈ TT := tt_t (i := 370) (by decide +kernel) rfl
theorem se_X2_bookingOfNow : Cond.selects yX2_bookingOfNow.cls yX2_bookingOfNow yX2_bookingOfNow ∈ TT := tt_t (i := 371) (by decide +kernel) rfl
theorem ds_X2_bookingOfNow : yX2_bookingOfNow.cls ≠ "java/lang/invoke/MethodHandle" ∧ yX2_bookingOfNow.cls ≠ "java/lang/invoke/VarHandle" ∧ (parseMethodDescriptor yX2_bookingOfNow.desc).map (fun d => d.parameters.length) = some 1 := by decide +kernel
def mX2_nextBooking : MT := (6, (some .int), [], "nextBooking")
theorem co_X2_nextBooking : Cond.code yX2_nextBooking cX2_nextBooking mX2_nextBooking.1 mX2_nextBooking.2.1 ∈ TT := tt_t (i := 380) (by decide +kernel) rfl
theorem im_X2_nextBooking : Cond.instanceMethod yX2_nextBooking ∈ TT := tt_t (i := 378) (by decide +kernel) rfl
theorem se_X2_nextBooking : Cond.selects yX2_nextBooking.cls yX2_nextBooking yX2_nextBooking ∈ TT := tt_t (i := 379) (by decide +kernel) rfl
theorem ds_X2_nextBooking : yX2_nextBooking.cls ≠ "java/lang/invoke/MethodHandle" ∧ yX2_nextBooking.cls ≠ "java/lang/invoke/VarHandle" ∧ (parseMethodDescriptor yX2_nextBooking.desc).map (fun d => d.parameters.length) = some 1 := by decide +kernel
def mX2_heatingBooking : MT := (4, (some .int), [], "heatingBooking")
theorem co_X2_heatingBooking : Cond.code yX2_heatingBooking cX2_heatingBooking mX2_heatingBooking.1 mX2_heatingBooking.2.1 ∈ TT := tt_t (i := 368) (by decide +kernel) rfl
theorem im_X2_heatingBooking : Cond.instanceMethod yX2_heatingBooking ∈ TT := tt_t (i := 366) (by decide +kernel) rfl
theorem se_X2_heatingBooking : Cond.selects yX2_heatingBooking.cls yX2_heatingBooking yX2_heatingBooking ∈ TT := tt_t (i := 367) (by decide +kernel) rfl
theorem ds_X2_heatingBooking : yX2_heatingBooking.cls ≠ "java/lang/invoke/MethodHandle" ∧ yX2_heatingBooking.cls ≠ "java/lang/invoke/VarHandle" ∧ (parseMethodDescriptor yX2_heatingBooking.desc).map (fun d => d.parameters.length) = some 1 := by decide +kernel
def mX2_mustPreheat : MT := (4, (some .boolean), [], "mustPreheat")
theorem co_X2_mustPreheat : Cond.code yX2_mustPreheat cX2_mustPreheat mX2_mustPreheat.1 mX2_mustPreheat.2.1 ∈ TT := tt_t (i := 392) (by decide +kernel) rfl
theorem im_X2_mustPreheat : Cond.instanceMethod yX2_mustPreheat ∈ TT := tt_t (i := 391) (by decide +kernel) rfl
theorem se_X2_mustPreheat : Cond.selects yX2_mustPreheat.cls yX2_mustPreheat yX2_mustPreheat ∈ TT := tt_p (i := 9) (by decide +kernel) rfl
theorem ds_X2_mustPreheat : yX2_mustPreheat.cls ≠ "java/lang/invoke/MethodHandle" ∧ yX2_mustPreheat.cls ≠ "java/lang/invoke/VarHandle" ∧ (parseMethodDescriptor yX2_mustPreheat.desc).map (fun d => d.parameters.length) = some 2 := by decide +kernel
def mX2_mark : MT := (4, none, [], "mark")
theorem co_X2_mark : Cond.code yX2_mark cX2_mark mX2_mark.1 mX2_mark.2.1 ∈ TT := tt_t (i := 695) (by decide +kernel) rfl
theorem im_X2_mark : Cond.instanceMethod yX2_mark ∈ TT := tt_t (i := 693) (by decide +kernel) rfl
theorem se_X2_mark : Cond.selects yX2_mark.cls yX2_mark yX2_mark ∈ TT := tt_t (i := 694) (by decide +kernel) rfl
theorem ds_X2_mark : yX2_mark.cls ≠ "java/lang/invoke/MethodHandle" ∧ yX2_mark.cls ≠ "java/lang/invoke/VarHandle" ∧ (parseMethodDescriptor yX2_mark.desc).map (fun d => d.parameters.length) = some 2 := by decide +kernel
def mX2_markAll : MT := (2, none, [], "markAll")
theorem co_X2_markAll : Cond.code yX2_markAll cX2_markAll mX2_markAll.1 mX2_markAll.2.1 ∈ TT := tt_t (i := 835) (by decide +kernel) rfl
theorem im_X2_markAll : Cond.instanceMethod yX2_markAll ∈ TT := tt_t (i := 833) (by decide +kernel) rfl
theorem se_X2_markAll : Cond.selects yX2_markAll.cls yX2_markAll yX2_markAll ∈ TT := tt_t (i := 834) (by decide +kernel) rfl
theorem ds_X2_markAll : yX2_markAll.cls ≠ "java/lang/invoke/MethodHandle" ∧ yX2_markAll.cls ≠ "java/lang/invoke/VarHandle" ∧ (parseMethodDescriptor yX2_markAll.desc).map (fun d => d.parameters.length) = some 0 := by decide +kernel
def mX2_owedBy : MT := (2, (some .int), [], "owedBy")
theorem co_X2_owedBy : Cond.code yX2_owedBy cX2_owedBy mX2_owedBy.1 mX2_owedBy.2.1 ∈ TT := tt_t (i := 607) (by decide +kernel) rfl
theorem im_X2_owedBy : Cond.instanceMethod yX2_owedBy ∈ TT := tt_t (i := 605) (by decide +kernel) rfl
theorem se_X2_owedBy : Cond.selects yX2_owedBy.cls yX2_owedBy yX2_owedBy ∈ TT := tt_t (i := 606) (by decide +kernel) rfl
theorem ds_X2_owedBy : yX2_owedBy.cls ≠ "java/lang/invoke/MethodHandle" ∧ yX2_owedBy.cls ≠ "java/lang/invoke/VarHandle" ∧ (parseMethodDescriptor yX2_owedBy.desc).map (fun d => d.parameters.length) = some 1 := by decide +kernel
def mX2_settle : MT := (3, (some .int), [], "settle")
theorem co_X2_settle : Cond.code yX2_settle cX2_settle mX2_settle.1 mX2_settle.2.1 ∈ TT := tt_t (i := 713) (by decide +kernel) rfl
theorem im_X2_settle : Cond.instanceMethod yX2_settle ∈ TT := tt_t (i := 711) (by decide +kernel) rfl
theorem se_X2_settle : Cond.selects yX2_settle.cls yX2_settle yX2_settle ∈ TT := tt_t (i := 712) (by decide +kernel) rfl
theorem ds_X2_settle : yX2_settle.cls ≠ "java/lang/invoke/MethodHandle" ∧ yX2_settle.cls ≠ "java/lang/invoke/VarHandle" ∧ (parseMethodDescriptor yX2_settle.desc).map (fun d => d.parameters.length) = some 1 := by decide +kernel
def mX2_letHoursPass : MT := (3, none, [], "letHoursPass")
theorem co_X2_letHoursPass : Cond.code yX2_letHoursPass cX2_letHoursPass mX2_letHoursPass.1 mX2_letHoursPass.2.1 ∈ TT := tt_t (i := 360) (by decide +kernel) rfl
theorem im_X2_letHoursPass : Cond.instanceMethod yX2_letHoursPass ∈ TT := tt_t (i := 358) (by decide +kernel) rfl
theorem se_X2_letHoursPass : Cond.selects yX2_letHoursPass.cls yX2_letHoursPass yX2_letHoursPass ∈ TT := tt_t (i := 359) (by decide +kernel) rfl
theorem ds_X2_letHoursPass : yX2_letHoursPass.cls ≠ "java/lang/invoke/MethodHandle" ∧ yX2_letHoursPass.cls ≠ "java/lang/invoke/VarHandle" ∧ (parseMethodDescriptor yX2_letHoursPass.desc).map (fun d => d.parameters.length) = some 1 := by decide +kernel
def mX2_letHourPass : MT := (3, none, [], "letHourPass")
theorem co_X2_letHourPass : Cond.code yX2_letHourPass cX2_letHourPass mX2_letHourPass.1 mX2_letHourPass.2.1 ∈ TT := tt_t (i := 364) (by decide +kernel) rfl
theorem im_X2_letHourPass : Cond.instanceMethod yX2_letHourPass ∈ TT := tt_t (i := 362) (by decide +kernel) rfl
theorem se_X2_letHourPass : Cond.selects yX2_letHourPass.cls yX2_letHourPass yX2_letHourPass ∈ TT := tt_t (i := 363) (by decide +kernel) rfl
theorem ds_X2_letHourPass : yX2_letHourPass.cls ≠ "java/lang/invoke/MethodHandle" ∧ yX2_letHourPass.cls ≠ "java/lang/invoke/VarHandle" ∧ (parseMethodDescriptor yX2_letHourPass.desc).map (fun d => d.parameters.length) = some 0 := by decide +kernel
def mX2_heatRoom : MT := (5, (some .int), [], "heatRoom")
theorem co_X2_heatRoom : Cond.code yX2_heatRoom cX2_heatRoom mX2_heatRoom.1 mX2_heatRoom.2.1 ∈ TT := tt_t (i := 400) (by decide +kernel) rfl
theorem im_X2_heatRoom : Cond.instanceMethod yX2_heatRoom ∈ TT := tt_t (i := 399) (by decide +kernel) rfl
theorem se_X2_heatRoom : Cond.selects yX2_heatRoom.cls yX2_heatRoom yX2_heatRoom ∈ TT := tt_p (i := 10) (by decide +kernel) rfl
theorem ds_X2_heatRoom : yX2_heatRoom.cls ≠ "java/lang/invoke/MethodHandle" ∧ yX2_heatRoom.cls ≠ "java/lang/invoke/VarHandle" ∧ (parseMethodDescriptor yX2_heatRoom.desc).map (fun d => d.parameters.length) = some 2 := by decide +kernel
def mX2_chargePreheat : MT := (3, none, [], "chargePreheat")
theorem co_X2_chargePreheat : Cond.code yX2_chargePreheat cX2_chargePreheat mX2_chargePreheat.1 mX2_chargePreheat.2.1 ∈ TT := tt_t (i := 420) (by decide +kernel) rfl
theorem im_X2_chargePreheat : Cond.instanceMethod yX2_chargePreheat ∈ TT := tt_t (i := 419) (by decide +kernel) rfl
theorem se_X2_chargePreheat : Cond.selects yX2_chargePreheat.cls yX2_chargePreheat yX2_chargePreheat ∈ TT := tt_p (i := 13) (by decide +kernel) rfl
theorem ds_X2_chargePreheat : yX2_chargePreheat.cls ≠ "java/lang/invoke/MethodHandle" ∧ yX2_chargePreheat.cls ≠ "java/lang/invoke/VarHandle" ∧ (parseMethodDescriptor yX2_chargePreheat.desc).map (fun d => d.parameters.length) = some 2 := by decide +kernel
def mX2_chargeOwnHour : MT := (4, none, [], "chargeOwnHour")
theorem co_X2_chargeOwnHour : Cond.code yX2_chargeOwnHour cX2_chargeOwnHour mX2_chargeOwnHour.1 mX2_chargeOwnHour.2.1 ∈ TT := tt_t (i := 412) (by decide +kernel) rfl
theorem im_X2_chargeOwnHour : Cond.instanceMethod yX2_chargeOwnHour ∈ TT := tt_t (i := 411) (by decide +kernel) rfl
theorem se_X2_chargeOwnHour : Cond.selects yX2_chargeOwnHour.cls yX2_chargeOwnHour yX2_chargeOwnHour ∈ TT := tt_p (i := 11) (by decide +kernel) rfl
theorem ds_X2_chargeOwnHour : yX2_chargeOwnHour.cls ≠ "java/lang/invoke/MethodHandle" ∧ yX2_chargeOwnHour.cls ≠ "java/lang/invoke/VarHandle" ∧ (parseMethodDescriptor yX2_chargeOwnHour.desc).map (fun d => d.parameters.length) = some 3 := by decide +kernel
def mX2_chargeGroup : MT := (3, none, [], "chargeGroup")
theorem co_X2_chargeGroup : Cond.code yX2_chargeGroup cX2_chargeGroup mX2_chargeGroup.1 mX2_chargeGroup.2.1 ∈ TT := tt_t (i := 416) (by decide +kernel) rfl
theorem im_X2_chargeGroup : Cond.instanceMethod yX2_chargeGroup ∈ TT := tt_t (i := 415) (by decide +kernel) rfl
theorem se_X2_chargeGroup : Cond.selects yX2_chargeGroup.cls yX2_chargeGroup yX2_chargeGroup ∈ TT := tt_p (i := 12) (by decide +kernel) rfl
theorem ds_X2_chargeGroup : yX2_chargeGroup.cls ≠ "java/lang/invoke/MethodHandle" ∧ yX2_chargeGroup.cls ≠ "java/lang/invoke/VarHandle" ∧ (parseMethodDescriptor yX2_chargeGroup.desc).map (fun d => d.parameters.length) = some 2 := by decide +kernel
def mX2_leaveHeat : MT := (5, none, [], "leaveHeat")
theorem co_X2_leaveHeat : Cond.code yX2_leaveHeat cX2_leaveHeat mX2_leaveHeat.1 mX2_leaveHeat.2.1 ∈ TT := tt_t (i := 424) (by decide +kernel) rfl
theorem im_X2_leaveHeat : Cond.instanceMethod yX2_leaveHeat ∈ TT := tt_t (i := 423) (by decide +kernel) rfl
theorem se_X2_leaveHeat : Cond.selects yX2_leaveHeat.cls yX2_leaveHeat yX2_leaveHeat ∈ TT := tt_p (i := 14) (by decide +kernel) rfl
theorem ds_X2_leaveHeat : yX2_leaveHeat.cls ≠ "java/lang/invoke/MethodHandle" ∧ yX2_leaveHeat.cls ≠ "java/lang/invoke/VarHandle" ∧ (parseMethodDescriptor yX2_leaveHeat.desc).map (fun d => d.parameters.length) = some 1 := by decide +kernel
def mX2_endOfBookings : MT := (3, (some .int), [], "endOfBookings")
theorem co_X2_endOfBookings : Cond.code yX2_endOfBookings cX2_endOfBookings mX2_endOfBookings.1 mX2_endOfBookings.2.1 ∈ TT := tt_t (i := 352) (by decide +kernel) rfl
theorem im_X2_endOfBookings : Cond.instanceMethod yX2_endOfBookings ∈ TT := tt_t (i := 350) (by decide +kernel) rfl
theorem se_X2_endOfBookings : Cond.selects yX2_endOfBookings.cls yX2_endOfBookings yX2_endOfBookings ∈ TT := tt_t (i := 351) (by decide +kernel) rfl
theorem ds_X2_endOfBookings : yX2_endOfBookings.cls ≠ "java/lang/invoke/MethodHandle" ∧ yX2_endOfBookings.cls ≠ "java/lang/invoke/VarHandle" ∧ (parseMethodDescriptor yX2_endOfBookings.desc).map (fun d => d.parameters.length) = some 0 := by decide +kernel
def mX2_coldestBooking : MT := (4, (some .int), [], "coldestBooking")
theorem co_X2_coldestBooking : Cond.code yX2_coldestBooking cX2_coldestBooking mX2_coldestBooking.1 mX2_coldestBooking.2.1 ∈ TT := tt_t (i := 428) (by decide +kernel) rfl
theorem im_X2_coldestBooking : Cond.instanceMethod yX2_coldestBooking ∈ TT := tt_t (i := 426) (by decide +kernel) rfl
theorem se_X2_coldestBooking : Cond.selects yX2_coldestBooking.cls yX2_coldestBooking yX2_coldestBooking ∈ TT := tt_t (i := 427) (by decide +kernel) rfl
theorem ds_X2_coldestBooking : yX2_coldestBooking.cls ≠ "java/lang/invoke/MethodHandle" ∧ yX2_coldestBooking.cls ≠ "java/lang/invoke/VarHandle" ∧ (parseMethodDescriptor yX2_coldestBooking.desc).map (fun d => d.parameters.length) = some 0 := by decide +kernel
def mX3_init : MT := (1, none, [], "<init>")
theorem co_X3_init : Cond.code yX3_init cX3_init mX3_init.1 mX3_init.2.1 ∈ TT := tt_t (i := 29) (by decide +kernel) rfl
theorem im_X3_init : Cond.instanceMethod yX3_init ∈ TT := tt_t (i := 28) (by decide +kernel) rfl
theorem ds_X3_init : yX3_init.cls ≠ "java/lang/invoke/MethodHandle" ∧ yX3_init.cls ≠ "java/lang/invoke/VarHandle" ∧ (parseMethodDescriptor yX3_init.desc).map (fun d => d.parameters.length) = some 0 := by decide +kernel
def mX3_add : MT := (2, none, [], "add")
theorem co_X3_add : Cond.code yX3_add cX3_add mX3_add.1 mX3_add.2.1 ∈ TT := tt_t (i := 528) (by decide +kernel) rfl
theorem im_X3_add : Cond.instanceMethod yX3_add ∈ TT := tt_t (i := 526) (by decide +kernel) rfl
theorem se_X3_add : Cond.selects yX3_add.cls yX3_add yX3_add ∈ TT := tt_t (i := 527) (by decide +kernel) rfl
theorem ds_X3_add : yX3_add.cls ≠ "java/lang/invoke/MethodHandle" ∧ yX3_add.cls ≠ "java/lang/invoke/VarHandle" ∧ (parseMethodDescriptor yX3_add.desc).map (fun d => d.parameters.length) = some 1 := by decide +kernel
def mX3_readInto : MT := (3, (some .int), [], "readInto")
theorem co_X3_readInto : Cond.code yX3_readInto cX3_readInto mX3_readInto.1 mX3_readInto.2.1 ∈ TT := tt_t (i := 255) (by decide +kernel) rfl
theorem im_X3_readInto : Cond.instanceMethod yX3_readInto ∈ TT := tt_t (i := 253) (by decide +kernel) rfl
theorem se_X3_readInto : Cond.selects yX3_readInto.cls yX3_readInto yX3_readInto ∈ TT := tt_t (i := 254) (by decide +kernel) rfl
theorem ds_X3_readInto : yX3_readInto.cls ≠ "java/lang/invoke/MethodHandle" ∧ yX3_readInto.cls ≠ "java/lang/invoke/VarHandle" ∧ (parseMethodDescriptor yX3_readInto.desc).map (fun d => d.parameters.length) = some 1 := by decide +kernel
def mX3_readPart : MT := (2, none, [], "readPart")
theorem co_X3_readPart : Cond.code yX3_readPart cX3_readPart mX3_readPart.1 mX3_readPart.2.1 ∈ TT := tt_t (i := 271) (by decide +kernel) rfl
theorem im_X3_readPart : Cond.instanceMethod yX3_readPart ∈ TT := tt_t (i := 270) (by decide +kernel) rfl
theorem se_X3_readPart : Cond.selects yX3_readPart.cls yX3_readPart yX3_readPart ∈ TT := tt_p (i := 2) (by decide +kernel) rfl
theorem ds_X3_readPart : yX3_readPart.cls ≠ "java/lang/invoke/MethodHandle" ∧ yX3_readPart.cls ≠ "java/lang/invoke/VarHandle" ∧ (parseMethodDescriptor yX3_readPart.desc).map (fun d => d.parameters.length) = some 1 := by decide +kernel
def mX3_readRoom : MT := (6, none, [], "readRoom")
theorem co_X3_readRoom : Cond.code yX3_readRoom cX3_readRoom mX3_readRoom.1 mX3_readRoom.2.1 ∈ TT := tt_t (i := 275) (by decide +kernel) rfl
theorem im_X3_readRoom : Cond.instanceMethod yX3_readRoom ∈ TT := tt_t (i := 274) (by decide +kernel) rfl
theorem se_X3_readRoom : Cond.selects yX3_readRoom.cls yX3_readRoom yX3_readRoom ∈ TT := tt_p (i := 3) (by decide +kernel) rfl
theorem ds_X3_readRoom : yX3_readRoom.cls ≠ "java/lang/invoke/MethodHandle" ∧ yX3_readRoom.cls ≠ "java/lang/invoke/VarHandle" ∧ (parseMethodDescriptor yX3_readRoom.desc).map (fun d => d.parameters.length) = some 1 := by decide +kernel
def mX3_readGroup : MT := (2, none, [], "readGroup")
theorem co_X3_readGroup : Cond.code yX3_readGroup cX3_readGroup mX3_readGroup.1 mX3_readGroup.2.1 ∈ TT := tt_t (i := 291) (by decide +kernel) rfl
theorem im_X3_readGroup : Cond.instanceMethod yX3_readGroup ∈ TT := tt_t (i := 290) (by decide +kernel) rfl
theorem se_X3_readGroup : Cond.selects yX3_readGroup.cls yX3_readGroup yX3_readGroup ∈ TT := tt_p (i := 5) (by decide +kernel) rfl
theorem ds_X3_readGroup : yX3_readGroup.cls ≠ "java/lang/invoke/MethodHandle" ∧ yX3_readGroup.cls ≠ "java/lang/invoke/VarHandle" ∧ (parseMethodDescriptor yX3_readGroup.desc).map (fun d => d.parameters.length) = some 1 := by decide +kernel
def mX3_readOutdoors : MT := (4, none, [], "readOutdoors")
theorem co_X3_readOutdoors : Cond.code yX3_readOutdoors cX3_readOutdoors mX3_readOutdoors.1 mX3_readOutdoors.2.1 ∈ TT := tt_t (i := 299) (by decide +kernel) rfl
theorem im_X3_readOutdoors : Cond.instanceMethod yX3_readOutdoors ∈ TT := tt_t (i := 298) (by decide +kernel) rfl
theorem se_X3_readOutdoors : Cond.selects yX3_readOutdoors.cls yX3_readOutdoors yX3_readOutdoors ∈ TT := tt_p (i := 6) (by decide +kernel) rfl
theorem ds_X3_readOutdoors : yX3_readOutdoors.cls ≠ "java/lang/invoke/MethodHandle" ∧ yX3_readOutdoors.cls ≠ "java/lang/invoke/VarHandle" ∧ (parseMethodDescriptor yX3_readOutdoors.desc).map (fun d => d.parameters.length) = some 1 := by decide +kernel
def mX3_readBooking : MT := (8, none, [], "readBooking")
theorem co_X3_readBooking : Cond.code yX3_readBooking cX3_readBooking mX3_readBooking.1 mX3_readBooking.2.1 ∈ TT := tt_t (i := 303) (by decide +kernel) rfl
theorem im_X3_readBooking : Cond.instanceMethod yX3_readBooking ∈ TT := tt_t (i := 302) (by decide +kernel) rfl
theorem se_X3_readBooking : Cond.selects yX3_readBooking.cls yX3_readBooking yX3_readBooking ∈ TT := tt_p (i := 7) (by decide +kernel) rfl
theorem ds_X3_readBooking : yX3_readBooking.cls ≠ "java/lang/invoke/MethodHandle" ∧ yX3_readBooking.cls ≠ "java/lang/invoke/VarHandle" ∧ (parseMethodDescriptor yX3_readBooking.desc).map (fun d => d.parameters.length) = some 1 := by decide +kernel
def mX3_sign : MT := (1, (some .int), [], "sign")
theorem co_X3_sign : Cond.code yX3_sign cX3_sign mX3_sign.1 mX3_sign.2.1 ∈ TT := tt_t (i := 263) (by decide +kernel) rfl
theorem im_X3_sign : Cond.instanceMethod yX3_sign ∈ TT := tt_t (i := 262) (by decide +kernel) rfl
theorem se_X3_sign : Cond.selects yX3_sign.cls yX3_sign yX3_sign ∈ TT := tt_p (i := 0) (by decide +kernel) rfl
theorem ds_X3_sign : yX3_sign.cls ≠ "java/lang/invoke/MethodHandle" ∧ yX3_sign.cls ≠ "java/lang/invoke/VarHandle" ∧ (parseMethodDescriptor yX3_sign.desc).map (fun d => d.parameters.length) = some 0 := by decide +kernel
def mX3_require : MT := (2, none, [], "require")
theorem co_X3_require : Cond.code yX3_require cX3_require mX3_require.1 mX3_require.2.1 ∈ TT := tt_t (i := 267) (by decide +kernel) rfl
theorem im_X3_require : Cond.instanceMethod yX3_require ∈ TT := tt_t (i := 266) (by decide +kernel) rfl
theorem se_X3_require : Cond.selects yX3_require.cls yX3_require yX3_require ∈ TT := tt_p (i := 1) (by decide +kernel) rfl
theorem ds_X3_require : yX3_require.cls ≠ "java/lang/invoke/MethodHandle" ∧ yX3_require.cls ≠ "java/lang/invoke/VarHandle" ∧ (parseMethodDescriptor yX3_require.desc).map (fun d => d.parameters.length) = some 1 := by decide +kernel
def mX3_readNumber : MT := (8, (some .int), [], "readNumber")
theorem co_X3_readNumber : Cond.code yX3_readNumber cX3_readNumber mX3_readNumber.1 mX3_readNumber.2.1 ∈ TT := tt_t (i := 279) (by decide +kernel) rfl
theorem im_X3_readNumber : Cond.instanceMethod yX3_readNumber ∈ TT := tt_t (i := 278) (by decide +kernel) rfl
theorem se_X3_readNumber : Cond.selects yX3_readNumber.cls yX3_readNumber yX3_readNumber ∈ TT := tt_p (i := 4) (by decide +kernel) rfl
theorem ds_X3_readNumber : yX3_readNumber.cls ≠ "java/lang/invoke/MethodHandle" ∧ yX3_readNumber.cls ≠ "java/lang/invoke/VarHandle" ∧ (parseMethodDescriptor yX3_readNumber.desc).map (fun d => d.parameters.length) = some 3 := by decide +kernel
def mX4_init : MT := (2, none, [], "<init>")
theorem co_X4_init : Cond.code yX4_init cX4_init mX4_init.1 mX4_init.2.1 ∈ TT := tt_t (i := 180) (by decide +kernel) rfl
theorem im_X4_init : Cond.instanceMethod yX4_init ∈ TT := tt_t (i := 179) (by decide +kernel) rfl
theorem ds_X4_init : yX4_init.cls ≠ "java/lang/invoke/MethodHandle" ∧ yX4_init.cls ≠ "java/lang/invoke/VarHandle" ∧ (parseMethodDescriptor yX4_init.desc).map (fun d => d.parameters.length) = some 0 := by decide +kernel
def mX4_remember : MT := (2, none, [], "remember")
theorem co_X4_remember : Cond.code yX4_remember cX4_remember mX4_remember.1 mX4_remember.2.1 ∈ TT := tt_t (i := 641) (by decide +kernel) rfl
theorem im_X4_remember : Cond.instanceMethod yX4_remember ∈ TT := tt_t (i := 639) (by decide +kernel) rfl
theorem se_X4_remember : Cond.selects yX4_remember.cls yX4_remember yX4_remember ∈ TT := tt_t (i := 640) (by decide +kernel) rfl
theorem ds_X4_remember : yX4_remember.cls ≠ "java/lang/invoke/MethodHandle" ∧ yX4_remember.cls ≠ "java/lang/invoke/VarHandle" ∧ (parseMethodDescriptor yX4_remember.desc).map (fun d => d.parameters.length) = some 1 := by decide +kernel
def mX4_takeBack : MT := (2, none, [], "takeBack")
theorem co_X4_takeBack : Cond.code yX4_takeBack cX4_takeBack mX4_takeBack.1 mX4_takeBack.2.1 ∈ TT := tt_t (i := 733) (by decide +kernel) rfl
theorem im_X4_takeBack : Cond.instanceMethod yX4_takeBack ∈ TT := tt_t (i := 731) (by decide +kernel) rfl
theorem se_X4_takeBack : Cond.selects yX4_takeBack.cls yX4_takeBack yX4_takeBack ∈ TT := tt_t (i := 732) (by decide +kernel) rfl
theorem ds_X4_takeBack : yX4_takeBack.cls ≠ "java/lang/invoke/MethodHandle" ∧ yX4_takeBack.cls ≠ "java/lang/invoke/VarHandle" ∧ (parseMethodDescriptor yX4_takeBack.desc).map (fun d => d.parameters.length) = some 1 := by decide +kernel
def mX4_forgetAll : MT := (1, none, [], "forgetAll")
theorem co_X4_forgetAll : Cond.code yX4_forgetAll cX4_forgetAll mX4_forgetAll.1 mX4_forgetAll.2.1 ∈ TT := tt_t (i := 540) (by decide +kernel) rfl
theorem im_X4_forgetAll : Cond.instanceMethod yX4_forgetAll ∈ TT := tt_t (i := 538) (by decide +kernel) rfl
theorem se_X4_forgetAll : Cond.selects yX4_forgetAll.cls yX4_forgetAll yX4_forgetAll ∈ TT := tt_t (i := 539) (by decide +kernel) rfl
theorem ds_X4_forgetAll : yX4_forgetAll.cls ≠ "java/lang/invoke/MethodHandle" ∧ yX4_forgetAll.cls ≠ "java/lang/invoke/VarHandle" ∧ (parseMethodDescriptor yX4_forgetAll.desc).map (fun d => d.parameters.length) = some 0 := by decide +kernel
def mX5_init : MT := (1, none, [], "<init>")
theorem co_X5_init : Cond.code yX5_init cX5_init mX5_init.1 mX5_init.2.1 ∈ TT := tt_t (i := 59) (by decide +kernel) rfl
theorem im_X5_init : Cond.instanceMethod yX5_init ∈ TT := tt_t (i := 58) (by decide +kernel) rfl
theorem ds_X5_init : yX5_init.cls ≠ "java/lang/invoke/MethodHandle" ∧ yX5_init.cls ≠ "java/lang/invoke/VarHandle" ∧ (parseMethodDescriptor yX5_init.desc).map (fun d => d.parameters.length) = some 0 := by decide +kernel
def mX5_become : MT := (5, none, [], "become")
theorem co_X5_become : Cond.code yX5_become cX5_become mX5_become.1 mX5_become.2.1 ∈ TT := tt_t (i := 287) (by decide +kernel) rfl
theorem im_X5_become : Cond.instanceMethod yX5_become ∈ TT := tt_t (i := 285) (by decide +kernel) rfl
theorem se_X5_become : Cond.selects yX5_become.cls yX5_become yX5_become ∈ TT := tt_t (i := 286) (by decide +kernel) rfl
theorem ds_X5_become : yX5_become.cls ≠ "java/lang/invoke/MethodHandle" ∧ yX5_become.cls ≠ "java/lang/invoke/VarHandle" ∧ (parseMethodDescriptor yX5_become.desc).map (fun d => d.parameters.length) = some 4 := by decide +kernel
def mX5_copyFrom : MT := (2, none, [], "copyFrom")
theorem co_X5_copyFrom : Cond.code yX5_copyFrom cX5_copyFrom mX5_copyFrom.1 mX5_copyFrom.2.1 ∈ TT := tt_t (i := 339) (by decide +kernel) rfl
theorem im_X5_copyFrom : Cond.instanceMethod yX5_copyFrom ∈ TT := tt_t (i := 337) (by decide +kernel) rfl
theorem se_X5_copyFrom : Cond.selects yX5_copyFrom.cls yX5_copyFrom yX5_copyFrom ∈ TT := tt_t (i := 338) (by decide +kernel) rfl
theorem ds_X5_copyFrom : yX5_copyFrom.cls ≠ "java/lang/invoke/MethodHandle" ∧ yX5_copyFrom.cls ≠ "java/lang/invoke/VarHandle" ∧ (parseMethodDescriptor yX5_copyFrom.desc).map (fun d => d.parameters.length) = some 1 := by decide +kernel
def mX5_numberAbout : MT := (2, (some .int), [], "numberAbout")
theorem co_X5_numberAbout : Cond.code yX5_numberAbout cX5_numberAbout mX5_numberAbout.1 mX5_numberAbout.2.1 ∈ TT := tt_t (i := 587) (by decide +kernel) rfl
theorem im_X5_numberAbout : Cond.instanceMethod yX5_numberAbout ∈ TT := tt_t (i := 585) (by decide +kernel) rfl
theorem se_X5_numberAbout : Cond.selects yX5_numberAbout.cls yX5_numberAbout yX5_numberAbout ∈ TT := tt_t (i := 586) (by decide +kernel) rfl
theorem ds_X5_numberAbout : yX5_numberAbout.cls ≠ "java/lang/invoke/MethodHandle" ∧ yX5_numberAbout.cls ≠ "java/lang/invoke/VarHandle" ∧ (parseMethodDescriptor yX5_numberAbout.desc).map (fun d => d.parameters.length) = some 1 := by decide +kernel
def mX5_cooled : MT := (2, (some .int), [], "cooled")
theorem co_X5_cooled : Cond.code yX5_cooled cX5_cooled mX5_cooled.1 mX5_cooled.2.1 ∈ TT := tt_t (i := 396) (by decide +kernel) rfl
theorem im_X5_cooled : Cond.instanceMethod yX5_cooled ∈ TT := tt_t (i := 394) (by decide +kernel) rfl
theorem se_X5_cooled : Cond.selects yX5_cooled.cls yX5_cooled yX5_cooled ∈ TT := tt_t (i := 395) (by decide +kernel) rfl
theorem ds_X5_cooled : yX5_cooled.cls ≠ "java/lang/invoke/MethodHandle" ∧ yX5_cooled.cls ≠ "java/lang/invoke/VarHandle" ∧ (parseMethodDescriptor yX5_cooled.desc).map (fun d => d.parameters.length) = some 1 := by decide +kernel
def mX5_warmTowards : MT := (3, (some .int), [], "warmTowards")
theorem co_X5_warmTowards : Cond.code yX5_warmTowards cX5_warmTowards mX5_warmTowards.1 mX5_warmTowards.2.1 ∈ TT := tt_t (i := 404) (by decide +kernel) rfl
theorem im_X5_warmTowards : Cond.instanceMethod yX5_warmTowards ∈ TT := tt_t (i := 402) (by decide +kernel) rfl
theorem se_X5_warmTowards : Cond.selects yX5_warmTowards.cls yX5_warmTowards yX5_warmTowards ∈ TT := tt_t (i := 403) (by decide +kernel) rfl
theorem ds_X5_warmTowards : yX5_warmTowards.cls ≠ "java/lang/invoke/MethodHandle" ∧ yX5_warmTowards.cls ≠ "java/lang/invoke/VarHandle" ∧ (parseMethodDescriptor yX5_warmTowards.desc).map (fun d => d.parameters.length) = some 1 := by decide +kernel
def mX6_init : MT := (2, none, [], "<init>")
theorem co_X6_init : Cond.code yX6_init cX6_init mX6_init.1 mX6_init.2.1 ∈ TT := tt_t (i := 21) (by decide +kernel) rfl
theorem im_X6_init : Cond.instanceMethod yX6_init ∈ TT := tt_t (i := 20) (by decide +kernel) rfl
theorem ds_X6_init : yX6_init.cls ≠ "java/lang/invoke/MethodHandle" ∧ yX6_init.cls ≠ "java/lang/invoke/VarHandle" ∧ (parseMethodDescriptor yX6_init.desc).map (fun d => d.parameters.length) = some 0 := by decide +kernel
def mX6_append : MT := (2, (some .int), [], "append")
theorem co_X6_append : Cond.code yX6_append cX6_append mX6_append.1 mX6_append.2.1 ∈ TT := tt_t (i := 437) (by decide +kernel) rfl
theorem im_X6_append : Cond.instanceMethod yX6_append ∈ TT := tt_t (i := 435) (by decide +kernel) rfl
theorem se_X6_append : Cond.selects yX6_append.cls yX6_append yX6_append ∈ TT := tt_t (i := 436) (by decide +kernel) rfl
theorem ds_X6_append : yX6_append.cls ≠ "java/lang/invoke/MethodHandle" ∧ yX6_append.cls ≠ "java/lang/invoke/VarHandle" ∧ (parseMethodDescriptor yX6_append.desc).map (fun d => d.parameters.length) = some 1 := by decide +kernel
def mX6_clearText : MT := (2, (some .int), [], "clearText")
theorem co_X6_clearText : Cond.code yX6_clearText cX6_clearText mX6_clearText.1 mX6_clearText.2.1 ∈ TT := tt_t (i := 247) (by decide +kernel) rfl
theorem im_X6_clearText : Cond.instanceMethod yX6_clearText ∈ TT := tt_t (i := 245) (by decide +kernel) rfl
theorem se_X6_clearText : Cond.selects yX6_clearText.cls yX6_clearText yX6_clearText ∈ TT := tt_t (i := 246) (by decide +kernel) rfl
theorem ds_X6_clearText : yX6_clearText.cls ≠ "java/lang/invoke/MethodHandle" ∧ yX6_clearText.cls ≠ "java/lang/invoke/VarHandle" ∧ (parseMethodDescriptor yX6_clearText.desc).map (fun d => d.parameters.length) = some 0 := by decide +kernel
def mX6_errorPosition : MT := (1, (some .int), [], "errorPosition")
theorem co_X6_errorPosition : Cond.code yX6_errorPosition cX6_errorPosition mX6_errorPosition.1 mX6_errorPosition.2.1 ∈ TT := tt_t (i := 251) (by decide +kernel) rfl
theorem im_X6_errorPosition : Cond.instanceMethod yX6_errorPosition ∈ TT := tt_t (i := 249) (by decide +kernel) rfl
theorem se_X6_errorPosition : Cond.selects yX6_errorPosition.cls yX6_errorPosition yX6_errorPosition ∈ TT := tt_t (i := 250) (by decide +kernel) rfl
theorem ds_X6_errorPosition : yX6_errorPosition.cls ≠ "java/lang/invoke/MethodHandle" ∧ yX6_errorPosition.cls ≠ "java/lang/invoke/VarHandle" ∧ (parseMethodDescriptor yX6_errorPosition.desc).map (fun d => d.parameters.length) = some 0 := by decide +kernel
def mX6_load : MT := (2, (some .int), [], "load")
theorem co_X6_load : Cond.code yX6_load cX6_load mX6_load.1 mX6_load.2.1 ∈ TT := tt_t (i := 535) (by decide +kernel) rfl
theorem im_X6_load : Cond.instanceMethod yX6_load ∈ TT := tt_t (i := 533) (by decide +kernel) rfl
theorem se_X6_load : Cond.selects yX6_load.cls yX6_load yX6_load ∈ TT := tt_t (i := 534) (by decide +kernel) rfl
theorem ds_X6_load : yX6_load.cls ≠ "java/lang/invoke/MethodHandle" ∧ yX6_load.cls ≠ "java/lang/invoke/VarHandle" ∧ (parseMethodDescriptor yX6_load.desc).map (fun d => d.parameters.length) = some 0 := by decide +kernel
def mX6_about : MT := (2, (some .int), [], "about")
theorem co_X6_about : Cond.code yX6_about cX6_about mX6_about.1 mX6_about.2.1 ∈ TT := tt_t (i := 547) (by decide +kernel) rfl
theorem im_X6_about : Cond.instanceMethod yX6_about ∈ TT := tt_t (i := 545) (by decide +kernel) rfl
theorem se_X6_about : Cond.selects yX6_about.cls yX6_about yX6_about ∈ TT := tt_t (i := 546) (by decide +kernel) rfl
theorem ds_X6_about : yX6_about.cls ≠ "java/lang/invoke/MethodHandle" ∧ yX6_about.cls ≠ "java/lang/invoke/VarHandle" ∧ (parseMethodDescriptor yX6_about.desc).map (fun d => d.parameters.length) = some 1 := by decide +kernel
def mX6_room : MT := (4, (some .int), [], "room")
theorem co_X6_room : Cond.code yX6_room cX6_room mX6_room.1 mX6_room.2.1 ∈ TT := tt_t (i := 559) (by decide +kernel) rfl
theorem im_X6_room : Cond.instanceMethod yX6_room ∈ TT := tt_t (i := 557) (by decide +kernel) rfl
theorem se_X6_room : Cond.selects yX6_room.cls yX6_room yX6_room ∈ TT := tt_t (i := 558) (by decide +kernel) rfl
theorem ds_X6_room : yX6_room.cls ≠ "java/lang/invoke/MethodHandle" ∧ yX6_room.cls ≠ "java/lang/invoke/VarHandle" ∧ (parseMethodDescriptor yX6_room.desc).map (fun d => d.parameters.length) = some 2 := by decide +kernel
def mX6_owes : MT := (2, (some .int), [], "owes")
theorem co_X6_owes : Cond.code yX6_owes cX6_owes mX6_owes.1 mX6_owes.2.1 ∈ TT := tt_t (i := 594) (by decide +kernel) rfl
theorem im_X6_owes : Cond.instanceMethod yX6_owes ∈ TT := tt_t (i := 592) (by decide +kernel) rfl
theorem se_X6_owes : Cond.selects yX6_owes.cls yX6_owes yX6_owes ∈ TT := tt_t (i := 593) (by decide +kernel) rfl
theorem ds_X6_owes : yX6_owes.cls ≠ "java/lang/invoke/MethodHandle" ∧ yX6_owes.cls ≠ "java/lang/invoke/VarHandle" ∧ (parseMethodDescriptor yX6_owes.desc).map (fun d => d.parameters.length) = some 1 := by decide +kernel
def mX6_booking : MT := (4, (some .int), [], "booking")
theorem co_X6_booking : Cond.code yX6_booking cX6_booking mX6_booking.1 mX6_booking.2.1 ∈ TT := tt_t (i := 615) (by decide +kernel) rfl
theorem im_X6_booking : Cond.instanceMethod yX6_booking ∈ TT := tt_t (i := 613) (by decide +kernel) rfl
theorem se_X6_booking : Cond.selects yX6_booking.cls yX6_booking yX6_booking ∈ TT := tt_t (i := 614) (by decide +kernel) rfl
theorem ds_X6_booking : yX6_booking.cls ≠ "java/lang/invoke/MethodHandle" ∧ yX6_booking.cls ≠ "java/lang/invoke/VarHandle" ∧ (parseMethodDescriptor yX6_booking.desc).map (fun d => d.parameters.length) = some 2 := by decide +kernel
def mX6_addRoom : MT := (5, (some .int), [], "addRoom")
theorem co_X6_addRoom : Cond.code yX6_addRoom cX6_addRoom mX6_addRoom.1 mX6_addRoom.2.1 ∈ TT := tt_t (i := 636) (by decide +kernel) rfl
theorem im_X6_addRoom : Cond.instanceMethod yX6_addRoom ∈ TT := tt_t (i := 634) (by decide +kernel) rfl
theorem se_X6_addRoom : Cond.selects yX6_addRoom.cls yX6_addRoom yX6_addRoom ∈ TT := tt_t (i := 635) (by decide +kernel) rfl
theorem ds_X6_addRoom : yX6_addRoom.cls ≠ "java/lang/invoke/MethodHandle" ∧ yX6_addRoom.cls ≠ "java/lang/invoke/VarHandle" ∧ (parseMethodDescriptor yX6_addRoom.desc).map (fun d => d.parameters.length) = some 4 := by decide +kernel
def mX6_addGroup : MT := (1, (some .int), [], "addGroup")
theorem co_X6_addGroup : Cond.code yX6_addGroup cX6_addGroup mX6_addGroup.1 mX6_addGroup.2.1 ∈ TT := tt_t (i := 651) (by decide +kernel) rfl
theorem im_X6_addGroup : Cond.instanceMethod yX6_addGroup ∈ TT := tt_t (i := 649) (by decide +kernel) rfl
theorem se_X6_addGroup : Cond.selects yX6_addGroup.cls yX6_addGroup yX6_addGroup ∈ TT := tt_t (i := 650) (by decide +kernel) rfl
theorem ds_X6_addGroup : yX6_addGroup.cls ≠ "java/lang/invoke/MethodHandle" ∧ yX6_addGroup.cls ≠ "java/lang/invoke/VarHandle" ∧ (parseMethodDescriptor yX6_addGroup.desc).map (fun d => d.parameters.length) = some 0 := by decide +kernel
def mX6_book : MT := (6, (some .int), [], "book")
theorem co_X6_book : Cond.code yX6_book cX6_book mX6_book.1 mX6_book.2.1 ∈ TT := tt_t (i := 660) (by decide +kernel) rfl
theorem im_X6_book : Cond.instanceMethod yX6_book ∈ TT := tt_t (i := 658) (by decide +kernel) rfl
theorem se_X6_book : Cond.selects yX6_book.cls yX6_book yX6_book ∈ TT := tt_t (i := 659) (by decide +kernel) rfl
theorem ds_X6_book : yX6_book.cls ≠ "java/lang/invoke/MethodHandle" ∧ yX6_book.cls ≠ "java/lang/invoke/VarHandle" ∧ (parseMethodDescriptor yX6_book.desc).map (fun d => d.parameters.length) = some 5 := by decide +kernel
def mX6_cancel : MT := (3, (some .int), [], "cancel")
theorem co_X6_cancel : Cond.code yX6_cancel cX6_cancel mX6_cancel.1 mX6_cancel.2.1 ∈ TT := tt_t (i := 674) (by decide +kernel) rfl
theorem im_X6_cancel : Cond.instanceMethod yX6_cancel ∈ TT := tt_t (i := 672) (by decide +kernel) rfl
theorem se_X6_cancel : Cond.selects yX6_cancel.cls yX6_cancel yX6_cancel ∈ TT := tt_t (i := 673) (by decide +kernel) rfl
theorem ds_X6_cancel : yX6_cancel.cls ≠ "java/lang/invoke/MethodHandle" ∧ yX6_cancel.cls ≠ "java/lang/invoke/VarHandle" ∧ (parseMethodDescriptor yX6_cancel.desc).map (fun d => d.parameters.length) = some 1 := by decide +kernel
def mX6_prove : MT := (4, (some .int), [], "prove")
theorem co_X6_prove : Cond.code yX6_prove cX6_prove mX6_prove.1 mX6_prove.2.1 ∈ TT := tt_t (i := 690) (by decide +kernel) rfl
theorem im_X6_prove : Cond.instanceMethod yX6_prove ∈ TT := tt_t (i := 688) (by decide +kernel) rfl
theorem se_X6_prove : Cond.selects yX6_prove.cls yX6_prove yX6_prove ∈ TT := tt_t (i := 689) (by decide +kernel) rfl
theorem ds_X6_prove : yX6_prove.cls ≠ "java/lang/invoke/MethodHandle" ∧ yX6_prove.cls ≠ "java/lang/invoke/VarHandle" ∧ (parseMethodDescriptor yX6_prove.desc).map (fun d => d.parameters.length) = some 2 := by decide +kernel
def mX6_outside : MT := (3, (some .int), [], "outside")
theorem co_X6_outside : Cond.code yX6_outside cX6_outside mX6_outside.1 mX6_outside.2.1 ∈ TT := tt_t (i := 702) (by decide +kernel) rfl
theorem im_X6_outside : Cond.instanceMethod yX6_outside ∈ TT := tt_t (i := 700) (by decide +kernel) rfl
theorem se_X6_outside : Cond.selects yX6_outside.cls yX6_outside yX6_outside ∈ TT := tt_t (i := 701) (by decide +kernel) rfl
theorem ds_X6_outside : yX6_outside.cls ≠ "java/lang/invoke/MethodHandle" ∧ yX6_outside.cls ≠ "java/lang/invoke/VarHandle" ∧ (parseMethodDescriptor yX6_outside.desc).map (fun d => d.parameters.length) = some 1 := by decide +kernel
def mX6_pay : MT := (2, (some .int), [], "pay")
theorem co_X6_pay : Cond.code yX6_pay cX6_pay mX6_pay.1 mX6_pay.2.1 ∈ TT := tt_t (i := 709) (by decide +kernel) rfl
theorem im_X6_pay : Cond.instanceMethod yX6_pay ∈ TT := tt_t (i := 707) (by decide +kernel) rfl
theorem se_X6_pay : Cond.selects yX6_pay.cls yX6_pay yX6_pay ∈ TT := tt_t (i := 708) (by decide +kernel) rfl
theorem ds_X6_pay : yX6_pay.cls ≠ "java/lang/invoke/MethodHandle" ∧ yX6_pay.cls ≠ "java/lang/invoke/VarHandle" ∧ (parseMethodDescriptor yX6_pay.desc).map (fun d => d.parameters.length) = some 1 := by decide +kernel
def mX6_pass : MT := (3, (some .int), [], "pass")
theorem co_X6_pass : Cond.code yX6_pass cX6_pass mX6_pass.1 mX6_pass.2.1 ∈ TT := tt_t (i := 720) (by decide +kernel) rfl
theorem im_X6_pass : Cond.instanceMethod yX6_pass ∈ TT := tt_t (i := 718) (by decide +kernel) rfl
theorem se_X6_pass : Cond.selects yX6_pass.cls yX6_pass yX6_pass ∈ TT := tt_t (i := 719) (by decide +kernel) rfl
theorem ds_X6_pass : yX6_pass.cls ≠ "java/lang/invoke/MethodHandle" ∧ yX6_pass.cls ≠ "java/lang/invoke/VarHandle" ∧ (parseMethodDescriptor yX6_pass.desc).map (fun d => d.parameters.length) = some 1 := by decide +kernel
def mX6_undo : MT := (1, (some .int), [], "undo")
theorem co_X6_undo : Cond.code yX6_undo cX6_undo mX6_undo.1 mX6_undo.2.1 ∈ TT := tt_t (i := 728) (by decide +kernel) rfl
theorem im_X6_undo : Cond.instanceMethod yX6_undo ∈ TT := tt_t (i := 726) (by decide +kernel) rfl
theorem se_X6_undo : Cond.selects yX6_undo.cls yX6_undo yX6_undo ∈ TT := tt_t (i := 727) (by decide +kernel) rfl
theorem ds_X6_undo : yX6_undo.cls ≠ "java/lang/invoke/MethodHandle" ∧ yX6_undo.cls ≠ "java/lang/invoke/VarHandle" ∧ (parseMethodDescriptor yX6_undo.desc).map (fun d => d.parameters.length) = some 0 := by decide +kernel
def mX6_later : MT := (4, (some .int), [], "later")
theorem co_X6_later : Cond.code yX6_later cX6_later mX6_later.1 mX6_later.2.1 ∈ TT := tt_t (i := 740) (by decide +kernel) rfl
theorem im_X6_later : Cond.instanceMethod yX6_later ∈ TT := tt_t (i := 738) (by decide +kernel) rfl
theorem se_X6_later : Cond.selects yX6_later.cls yX6_later yX6_later ∈ TT := tt_t (i := 739) (by decide +kernel) rfl
theorem ds_X6_later : yX6_later.cls ≠ "java/lang/invoke/MethodHandle" ∧ yX6_later.cls ≠ "java/lang/invoke/VarHandle" ∧ (parseMethodDescriptor yX6_later.desc).map (fun d => d.parameters.length) = some 2 := by decide +kernel
def mX6_begins : MT := (5, (some .int), [], "begins")
theorem co_X6_begins : Cond.code yX6_begins cX6_begins mX6_begins.1 mX6_begins.2.1 ∈ TT := tt_t (i := 747) (by decide +kernel) rfl
theorem im_X6_begins : Cond.instanceMethod yX6_begins ∈ TT := tt_t (i := 745) (by decide +kernel) rfl
theorem se_X6_begins : Cond.selects yX6_begins.cls yX6_begins yX6_begins ∈ TT := tt_t (i := 746) (by decide +kernel) rfl
theorem ds_X6_begins : yX6_begins.cls ≠ "java/lang/invoke/MethodHandle" ∧ yX6_begins.cls ≠ "java/lang/invoke/VarHandle" ∧ (parseMethodDescriptor yX6_begins.desc).map (fun d => d.parameters.length) = some 1 := by decide +kernel
def mX6_cost : MT := (7, (some .int), [], "cost")
theorem co_X6_cost : Cond.code yX6_cost cX6_cost mX6_cost.1 mX6_cost.2.1 ∈ TT := tt_t (i := 756) (by decide +kernel) rfl
theorem im_X6_cost : Cond.instanceMethod yX6_cost ∈ TT := tt_t (i := 754) (by decide +kernel) rfl
theorem se_X6_cost : Cond.selects yX6_cost.cls yX6_cost yX6_cost ∈ TT := tt_t (i := 755) (by decide +kernel) rfl
theorem ds_X6_cost : yX6_cost.cls ≠ "java/lang/invoke/MethodHandle" ∧ yX6_cost.cls ≠ "java/lang/invoke/VarHandle" ∧ (parseMethodDescriptor yX6_cost.desc).map (fun d => d.parameters.length) = some 5 := by decide +kernel
def mX6_willOwe : MT := (2, (some .int), [], "willOwe")
theorem co_X6_willOwe : Cond.code yX6_willOwe cX6_willOwe mX6_willOwe.1 mX6_willOwe.2.1 ∈ TT := tt_t (i := 763) (by decide +kernel) rfl
theorem im_X6_willOwe : Cond.instanceMethod yX6_willOwe ∈ TT := tt_t (i := 761) (by decide +kernel) rfl
theorem se_X6_willOwe : Cond.selects yX6_willOwe.cls yX6_willOwe yX6_willOwe ∈ TT := tt_t (i := 762) (by decide +kernel) rfl
theorem ds_X6_willOwe : yX6_willOwe.cls ≠ "java/lang/invoke/MethodHandle" ∧ yX6_willOwe.cls ≠ "java/lang/invoke/VarHandle" ∧ (parseMethodDescriptor yX6_willOwe.desc).map (fun d => d.parameters.length) = some 1 := by decide +kernel
def mX6_coldest : MT := (1, (some .int), [], "coldest")
theorem co_X6_coldest : Cond.code yX6_coldest cX6_coldest mX6_coldest.1 mX6_coldest.2.1 ∈ TT := tt_t (i := 327) (by decide +kernel) rfl
theorem im_X6_coldest : Cond.instanceMethod yX6_coldest ∈ TT := tt_t (i := 325) (by decide +kernel) rfl
theorem se_X6_coldest : Cond.selects yX6_coldest.cls yX6_coldest yX6_coldest ∈ TT := tt_t (i := 326) (by decide +kernel) rfl
theorem ds_X6_coldest : yX6_coldest.cls ≠ "java/lang/invoke/MethodHandle" ∧ yX6_coldest.cls ≠ "java/lang/invoke/VarHandle" ∧ (parseMethodDescriptor yX6_coldest.desc).map (fun d => d.parameters.length) = some 0 := by decide +kernel
def mX6_passAllBookingsOnTrial : MT := (1, none, [], "passAllBookingsOnTrial")
theorem co_X6_passAllBookingsOnTrial : Cond.code yX6_passAllBookingsOnTrial cX6_passAllBookingsOnTrial mX6_passAllBookingsOnTrial.1 mX6_passAllBookingsOnTrial.2.1 ∈ TT := tt_t (i := 331) (by decide +kernel) rfl
theorem im_X6_passAllBookingsOnTrial : Cond.instanceMethod yX6_passAllBookingsOnTrial ∈ TT := tt_t (i := 330) (by decide +kernel) rfl
theorem se_X6_passAllBookingsOnTrial : Cond.selects yX6_passAllBookingsOnTrial.cls yX6_passAllBookingsOnTrial yX6_passAllBookingsOnTrial ∈ TT := tt_p (i := 8) (by decide +kernel) rfl
theorem ds_X6_passAllBookingsOnTrial : yX6_passAllBookingsOnTrial.cls ≠ "java/lang/invoke/MethodHandle" ∧ yX6_passAllBookingsOnTrial.cls ≠ "java/lang/invoke/VarHandle" ∧ (parseMethodDescriptor yX6_passAllBookingsOnTrial.desc).map (fun d => d.parameters.length) = some 0 := by decide +kernel
def mX6_runScript : MT := (5, (some .int), [], "runScript")
theorem co_X6_runScript : Cond.code yX6_runScript cX6_runScript mX6_runScript.1 mX6_runScript.2.1 ∈ TT := tt_t (i := 770) (by decide +kernel) rfl
theorem im_X6_runScript : Cond.instanceMethod yX6_runScript ∈ TT := tt_t (i := 768) (by decide +kernel) rfl
theorem se_X6_runScript : Cond.selects yX6_runScript.cls yX6_runScript yX6_runScript ∈ TT := tt_t (i := 769) (by decide +kernel) rfl
theorem ds_X6_runScript : yX6_runScript.cls ≠ "java/lang/invoke/MethodHandle" ∧ yX6_runScript.cls ≠ "java/lang/invoke/VarHandle" ∧ (parseMethodDescriptor yX6_runScript.desc).map (fun d => d.parameters.length) = some 2 := by decide +kernel
def mX6_simulate : MT := (8, (some .int), [], "simulate")
theorem co_X6_simulate : Cond.code yX6_simulate cX6_simulate mX6_simulate.1 mX6_simulate.2.1 ∈ TT := tt_t (i := 829) (by decide +kernel) rfl
theorem im_X6_simulate : Cond.instanceMethod yX6_simulate ∈ TT := tt_t (i := 827) (by decide +kernel) rfl
theorem se_X6_simulate : Cond.selects yX6_simulate.cls yX6_simulate yX6_simulate ∈ TT := tt_t (i := 828) (by decide +kernel) rfl
theorem ds_X6_simulate : yX6_simulate.cls ≠ "java/lang/invoke/MethodHandle" ∧ yX6_simulate.cls ≠ "java/lang/invoke/VarHandle" ∧ (parseMethodDescriptor yX6_simulate.desc).map (fun d => d.parameters.length) = some 2 := by decide +kernel
def mX6_save : MT := (2, (some .int), [], "save")
theorem co_X6_save : Cond.code yX6_save cX6_save mX6_save.1 mX6_save.2.1 ∈ TT := tt_t (i := 844) (by decide +kernel) rfl
theorem im_X6_save : Cond.instanceMethod yX6_save ∈ TT := tt_t (i := 842) (by decide +kernel) rfl
theorem se_X6_save : Cond.selects yX6_save.cls yX6_save yX6_save ∈ TT := tt_t (i := 843) (by decide +kernel) rfl
theorem ds_X6_save : yX6_save.cls ≠ "java/lang/invoke/MethodHandle" ∧ yX6_save.cls ≠ "java/lang/invoke/VarHandle" ∧ (parseMethodDescriptor yX6_save.desc).map (fun d => d.parameters.length) = some 1 := by decide +kernel
def mX6_restore : MT := (2, (some .int), [], "restore")
theorem co_X6_restore : Cond.code yX6_restore cX6_restore mX6_restore.1 mX6_restore.2.1 ∈ TT := tt_t (i := 855) (by decide +kernel) rfl
theorem im_X6_restore : Cond.instanceMethod yX6_restore ∈ TT := tt_t (i := 853) (by decide +kernel) rfl
theorem se_X6_restore : Cond.selects yX6_restore.cls yX6_restore yX6_restore ∈ TT := tt_t (i := 854) (by decide +kernel) rfl
theorem ds_X6_restore : yX6_restore.cls ≠ "java/lang/invoke/MethodHandle" ∧ yX6_restore.cls ≠ "java/lang/invoke/VarHandle" ∧ (parseMethodDescriptor yX6_restore.desc).map (fun d => d.parameters.length) = some 1 := by decide +kernel
def mX6_requireRange : MT := (3, none, [], "requireRange")
theorem co_X6_requireRange : Cond.code yX6_requireRange cX6_requireRange mX6_requireRange.1 mX6_requireRange.2.1 ∈ TT := tt_t (i := 440) (by decide +kernel) rfl
theorem sm_X6_requireRange : Cond.static yX6_requireRange ∈ TT := tt_t (i := 439) (by decide +kernel) rfl
theorem ds_X6_requireRange : yX6_requireRange.cls ≠ "java/lang/invoke/MethodHandle" ∧ yX6_requireRange.cls ≠ "java/lang/invoke/VarHandle" ∧ (parseMethodDescriptor yX6_requireRange.desc).map (fun d => d.parameters.length) = some 3 := by decide +kernel
def mX6_requireRoom : MT := (3, (some (.object "HallHeating$Room")), [], "requireRoom")
theorem co_X6_requireRoom : Cond.code yX6_requireRoom cX6_requireRoom mX6_requireRoom.1 mX6_requireRoom.2.1 ∈ TT := tt_t (i := 563) (by decide +kernel) rfl
theorem im_X6_requireRoom : Cond.instanceMethod yX6_requireRoom ∈ TT := tt_t (i := 562) (by decide +kernel) rfl
theorem se_X6_requireRoom : Cond.selects yX6_requireRoom.cls yX6_requireRoom yX6_requireRoom ∈ TT := tt_p (i := 16) (by decide +kernel) rfl
theorem ds_X6_requireRoom : yX6_requireRoom.cls ≠ "java/lang/invoke/MethodHandle" ∧ yX6_requireRoom.cls ≠ "java/lang/invoke/VarHandle" ∧ (parseMethodDescriptor yX6_requireRoom.desc).map (fun d => d.parameters.length) = some 1 := by decide +kernel
def mX6_requireGroup : MT := (2, none, [], "requireGroup")
theorem co_X6_requireGroup : Cond.code yX6_requireGroup cX6_requireGroup mX6_requireGroup.1 mX6_requireGroup.2.1 ∈ TT := tt_t (i := 598) (by decide +kernel) rfl
theorem im_X6_requireGroup : Cond.instanceMethod yX6_requireGroup ∈ TT := tt_t (i := 597) (by decide +kernel) rfl
theorem se_X6_requireGroup : Cond.selects yX6_requireGroup.cls yX6_requireGroup yX6_requireGroup ∈ TT := tt_p (i := 17) (by decide +kernel) rfl
theorem ds_X6_requireGroup : yX6_requireGroup.cls ≠ "java/lang/invoke/MethodHandle" ∧ yX6_requireGroup.cls ≠ "java/lang/invoke/VarHandle" ∧ (parseMethodDescriptor yX6_requireGroup.desc).map (fun d => d.parameters.length) = some 1 := by decide +kernel
def mX6_requireBooking : MT := (3, (some (.object "HallHeating$Booking")), [], "requireBooking")
theorem co_X6_requireBooking : Cond.code yX6_requireBooking cX6_requireBooking mX6_requireBooking.1 mX6_requireBooking.2.1 ∈ TT := tt_t (i := 619) (by decide +kernel) rfl
theorem im_X6_requireBooking : Cond.instanceMethod yX6_requireBooking ∈ TT := tt_t (i := 618) (by decide +kernel) rfl
theorem se_X6_requireBooking : Cond.selects yX6_requireBooking.cls yX6_requireBooking yX6_requireBooking ∈ TT := tt_p (i := 18) (by decide +kernel) rfl
theorem ds_X6_requireBooking : yX6_requireBooking.cls ≠ "java/lang/invoke/MethodHandle" ∧ yX6_requireBooking.cls ≠ "java/lang/invoke/VarHandle" ∧ (parseMethodDescriptor yX6_requireBooking.desc).map (fun d => d.parameters.length) = some 1 := by decide +kernel
def mX6_requireSlot : MT := (1, none, [], "requireSlot")
theorem co_X6_requireSlot : Cond.code yX6_requireSlot cX6_requireSlot mX6_requireSlot.1 mX6_requireSlot.2.1 ∈ TT := tt_t (i := 847) (by decide +kernel) rfl
theorem sm_X6_requireSlot : Cond.static yX6_requireSlot ∈ TT := tt_t (i := 846) (by decide +kernel) rfl
theorem ds_X6_requireSlot : yX6_requireSlot.cls ≠ "java/lang/invoke/MethodHandle" ∧ yX6_requireSlot.cls ≠ "java/lang/invoke/VarHandle" ∧ (parseMethodDescriptor yX6_requireSlot.desc).map (fun d => d.parameters.length) = some 1 := by decide +kernel
def mX6_requireBookingArguments : MT := (6, none, [], "requireBookingArguments")
theorem co_X6_requireBookingArguments : Cond.code yX6_requireBookingArguments cX6_requireBookingArguments mX6_requireBookingArguments.1 mX6_requireBookingArguments.2.1 ∈ TT := tt_t (i := 664) (by decide +kernel) rfl
theorem im_X6_requireBookingArguments : Cond.instanceMethod yX6_requireBookingArguments ∈ TT := tt_t (i := 663) (by decide +kernel) rfl
theorem se_X6_requireBookingArguments : Cond.selects yX6_requireBookingArguments.cls yX6_requireBookingArguments yX6_requireBookingArguments ∈ TT := tt_p (i := 19) (by decide +kernel) rfl
theorem ds_X6_requireBookingArguments : yX6_requireBookingArguments.cls ≠ "java/lang/invoke/MethodHandle" ∧ yX6_requireBookingArguments.cls ≠ "java/lang/invoke/VarHandle" ∧ (parseMethodDescriptor yX6_requireBookingArguments.desc).map (fun d => d.parameters.length) = some 5 := by decide +kernel
def mX7_init : MT := (1, none, [], "<init>")
theorem co_X7_init : Cond.code yX7_init cX7_init mX7_init.1 mX7_init.2.1 ∈ TT := tt_t (i := 861) (by decide +kernel) rfl
theorem im_X7_init : Cond.instanceMethod yX7_init ∈ TT := tt_t (i := 860) (by decide +kernel) rfl
theorem ds_X7_init : yX7_init.cls ≠ "java/lang/invoke/MethodHandle" ∧ yX7_init.cls ≠ "java/lang/invoke/VarHandle" ∧ (parseMethodDescriptor yX7_init.desc).map (fun d => d.parameters.length) = some 0 := by decide +kernel
def mX7_thrown : MT := (1, (some .int), [], "thrown")
theorem co_X7_thrown : Cond.code yX7_thrown cX7_thrown mX7_thrown.1 mX7_thrown.2.1 ∈ TT := tt_t (i := 906) (by decide +kernel) rfl
theorem im_X7_thrown : Cond.instanceMethod yX7_thrown ∈ TT := tt_t (i := 904) (by decide +kernel) rfl
theorem se_X7_thrown : Cond.selects yX7_thrown.cls yX7_thrown yX7_thrown ∈ TT := tt_t (i := 905) (by decide +kernel) rfl
theorem ds_X7_thrown : yX7_thrown.cls ≠ "java/lang/invoke/MethodHandle" ∧ yX7_thrown.cls ≠ "java/lang/invoke/VarHandle" ∧ (parseMethodDescriptor yX7_thrown.desc).map (fun d => d.parameters.length) = some 0 := by decide +kernel
def mX7_refused : MT := (2, (some .boolean), [], "refused")
theorem co_X7_refused : Cond.code yX7_refused cX7_refused mX7_refused.1 mX7_refused.2.1 ∈ TT := tt_t (i := 918) (by decide +kernel) rfl
theorem im_X7_refused : Cond.instanceMethod yX7_refused ∈ TT := tt_t (i := 917) (by decide +kernel) rfl
theorem se_X7_refused : Cond.selects yX7_refused.cls yX7_refused yX7_refused ∈ TT := tt_p (i := 27) (by decide +kernel) rfl
theorem ds_X7_refused : yX7_refused.cls ≠ "java/lang/invoke/MethodHandle" ∧ yX7_refused.cls ≠ "java/lang/invoke/VarHandle" ∧ (parseMethodDescriptor yX7_refused.desc).map (fun d => d.parameters.length) = some 1 := by decide +kernel
def mX7_in : MT := (6, (some .boolean), [], "in")
theorem co_X7_in : Cond.code yX7_in cX7_in mX7_in.1 mX7_in.2.1 ∈ TT := tt_t (i := 914) (by decide +kernel) rfl
theorem sm_X7_in : Cond.static yX7_in ∈ TT := tt_t (i := 913) (by decide +kernel) rfl
theorem ds_X7_in : yX7_in.cls ≠ "java/lang/invoke/MethodHandle" ∧ yX7_in.cls ≠ "java/lang/invoke/VarHandle" ∧ (parseMethodDescriptor yX7_in.desc).map (fun d => d.parameters.length) = some 3 := by decide +kernel
def mX7_copy : MT := (6, none, [], "copy")
theorem co_X7_copy : Cond.code yX7_copy cX7_copy mX7_copy.1 mX7_copy.2.1 ∈ TT := tt_t (i := 984) (by decide +kernel) rfl
theorem sm_X7_copy : Cond.static yX7_copy ∈ TT := tt_t (i := 983) (by decide +kernel) rfl
theorem ds_X7_copy : yX7_copy.cls ≠ "java/lang/invoke/MethodHandle" ∧ yX7_copy.cls ≠ "java/lang/invoke/VarHandle" ∧ (parseMethodDescriptor yX7_copy.desc).map (fun d => d.parameters.length) = some 5 := by decide +kernel
def mX7_tenTo : MT := (4, (some .long), [], "tenTo")
theorem co_X7_tenTo : Cond.code yX7_tenTo cX7_tenTo mX7_tenTo.1 mX7_tenTo.2.1 ∈ TT := tt_t (i := 1144) (by decide +kernel) rfl
theorem sm_X7_tenTo : Cond.static yX7_tenTo ∈ TT := tt_t (i := 1143) (by decide +kernel) rfl
theorem ds_X7_tenTo : yX7_tenTo.cls ≠ "java/lang/invoke/MethodHandle" ∧ yX7_tenTo.cls ≠ "java/lang/invoke/VarHandle" ∧ (parseMethodDescriptor yX7_tenTo.desc).map (fun d => d.parameters.length) = some 1 := by decide +kernel
def mX7_clean : MT := (2, none, [], "clean")
theorem co_X7_clean : Cond.code yX7_clean cX7_clean mX7_clean.1 mX7_clean.2.1 ∈ TT := tt_t (i := 865) (by decide +kernel) rfl
theorem sm_X7_clean : Cond.static yX7_clean ∈ TT := tt_t (i := 864) (by decide +kernel) rfl
theorem ds_X7_clean : yX7_clean.cls ≠ "java/lang/invoke/MethodHandle" ∧ yX7_clean.cls ≠ "java/lang/invoke/VarHandle" ∧ (parseMethodDescriptor yX7_clean.desc).map (fun d => d.parameters.length) = some 1 := by decide +kernel
def mX7_remember : MT := (1, none, [], "remember")
theorem co_X7_remember : Cond.code yX7_remember cX7_remember mX7_remember.1 mX7_remember.2.1 ∈ TT := tt_t (i := 1041) (by decide +kernel) rfl
theorem im_X7_remember : Cond.instanceMethod yX7_remember ∈ TT := tt_t (i := 1040) (by decide +kernel) rfl
theorem se_X7_remember : Cond.selects yX7_remember.cls yX7_remember yX7_remember ∈ TT := tt_p (i := 39) (by decide +kernel) rfl
theorem ds_X7_remember : yX7_remember.cls ≠ "java/lang/invoke/MethodHandle" ∧ yX7_remember.cls ≠ "java/lang/invoke/VarHandle" ∧ (parseMethodDescriptor yX7_remember.desc).map (fun d => d.parameters.length) = some 0 := by decide +kernel
def mX7_begin : MT := (1, none, [], "begin")
theorem co_X7_begin : Cond.code yX7_begin cX7_begin mX7_begin.1 mX7_begin.2.1 ∈ TT := tt_t (i := 1117) (by decide +kernel) rfl
theorem im_X7_begin : Cond.instanceMethod yX7_begin ∈ TT := tt_t (i := 1116) (by decide +kernel) rfl
theorem se_X7_begin : Cond.selects yX7_begin.cls yX7_begin yX7_begin ∈ TT := tt_p (i := 41) (by decide +kernel) rfl
theorem ds_X7_begin : yX7_begin.cls ≠ "java/lang/invoke/MethodHandle" ∧ yX7_begin.cls ≠ "java/lang/invoke/VarHandle" ∧ (parseMethodDescriptor yX7_begin.desc).map (fun d => d.parameters.length) = some 0 := by decide +kernel
def mX7_roomAt : MT := (2, (some .int), [], "roomAt")
theorem co_X7_roomAt : Cond.code yX7_roomAt cX7_roomAt mX7_roomAt.1 mX7_roomAt.2.1 ∈ TT := tt_t (i := 957) (by decide +kernel) rfl
theorem sm_X7_roomAt : Cond.static yX7_roomAt ∈ TT := tt_t (i := 956) (by decide +kernel) rfl
theorem ds_X7_roomAt : yX7_roomAt.cls ≠ "java/lang/invoke/MethodHandle" ∧ yX7_roomAt.cls ≠ "java/lang/invoke/VarHandle" ∧ (parseMethodDescriptor yX7_roomAt.desc).map (fun d => d.parameters.length) = some 2 := by decide +kernel
def mX7_bookAt : MT := (2, (some .int), [], "bookAt")
theorem co_X7_bookAt : Cond.code yX7_bookAt cX7_bookAt mX7_bookAt.1 mX7_bookAt.2.1 ∈ TT := tt_t (i := 967) (by decide +kernel) rfl
theorem sm_X7_bookAt : Cond.static yX7_bookAt ∈ TT := tt_t (i := 966) (by decide +kernel) rfl
theorem ds_X7_bookAt : yX7_bookAt.cls ≠ "java/lang/invoke/MethodHandle" ∧ yX7_bookAt.cls ≠ "java/lang/invoke/VarHandle" ∧ (parseMethodDescriptor yX7_bookAt.desc).map (fun d => d.parameters.length) = some 2 := by decide +kernel
def mX7_endOf : MT := (2, (some .int), [], "endOf")
theorem co_X7_endOf : Cond.code yX7_endOf cX7_endOf mX7_endOf.1 mX7_endOf.2.1 ∈ TT := tt_t (i := 970) (by decide +kernel) rfl
theorem sm_X7_endOf : Cond.static yX7_endOf ∈ TT := tt_t (i := 969) (by decide +kernel) rfl
theorem ds_X7_endOf : yX7_endOf.cls ≠ "java/lang/invoke/MethodHandle" ∧ yX7_endOf.cls ≠ "java/lang/invoke/VarHandle" ∧ (parseMethodDescriptor yX7_endOf.desc).map (fun d => d.parameters.length) = some 2 := by decide +kernel
def mX7_isOver : MT := (2, (some .boolean), [], "isOver")
theorem co_X7_isOver : Cond.code yX7_isOver cX7_isOver mX7_isOver.1 mX7_isOver.2.1 ∈ TT := tt_t (i := 1003) (by decide +kernel) rfl
theorem sm_X7_isOver : Cond.static yX7_isOver ∈ TT := tt_t (i := 1002) (by decide +kernel) rfl
theorem ds_X7_isOver : yX7_isOver.cls ≠ "java/lang/invoke/MethodHandle" ∧ yX7_isOver.cls ≠ "java/lang/invoke/VarHandle" ∧ (parseMethodDescriptor yX7_isOver.desc).map (fun d => d.parameters.length) = some 2 := by decide +kernel
def mX7_currentOf : MT := (5, (some .int), [], "currentOf")
theorem co_X7_currentOf : Cond.code yX7_currentOf cX7_currentOf mX7_currentOf.1 mX7_currentOf.2.1 ∈ TT := tt_t (i := 1000) (by decide +kernel) rfl
theorem sm_X7_currentOf : Cond.static yX7_currentOf ∈ TT := tt_t (i := 999) (by decide +kernel) rfl
theorem ds_X7_currentOf : yX7_currentOf.cls ≠ "java/lang/invoke/MethodHandle" ∧ yX7_currentOf.cls ≠ "java/lang/invoke/VarHandle" ∧ (parseMethodDescriptor yX7_currentOf.desc).map (fun d => d.parameters.length) = some 2 := by decide +kernel
def mX7_nextOf : MT := (5, (some .int), [], "nextOf")
theorem co_X7_nextOf : Cond.code yX7_nextOf cX7_nextOf mX7_nextOf.1 mX7_nextOf.2.1 ∈ TT := tt_t (i := 1006) (by decide +kernel) rfl
theorem sm_X7_nextOf : Cond.static yX7_nextOf ∈ TT := tt_t (i := 1005) (by decide +kernel) rfl
theorem ds_X7_nextOf : yX7_nextOf.cls ≠ "java/lang/invoke/MethodHandle" ∧ yX7_nextOf.cls ≠ "java/lang/invoke/VarHandle" ∧ (parseMethodDescriptor yX7_nextOf.desc).map (fun d => d.parameters.length) = some 2 := by decide +kernel
def mX7_cooled : MT := (3, (some .int), [], "cooled")
theorem co_X7_cooled : Cond.code yX7_cooled cX7_cooled mX7_cooled.1 mX7_cooled.2.1 ∈ TT := tt_t (i := 1015) (by decide +kernel) rfl
theorem sm_X7_cooled : Cond.static yX7_cooled ∈ TT := tt_t (i := 1014) (by decide +kernel) rfl
theorem ds_X7_cooled : yX7_cooled.cls ≠ "java/lang/invoke/MethodHandle" ∧ yX7_cooled.cls ≠ "java/lang/invoke/VarHandle" ∧ (parseMethodDescriptor yX7_cooled.desc).map (fun d => d.parameters.length) = some 2 := by decide +kernel
def mX7_isPreheated : MT := (4, (some .boolean), [], "isPreheated")
theorem co_X7_isPreheated : Cond.code yX7_isPreheated cX7_isPreheated mX7_isPreheated.1 mX7_isPreheated.2.1 ∈ TT := tt_t (i := 1012) (by decide +kernel) rfl
theorem sm_X7_isPreheated : Cond.static yX7_isPreheated ∈ TT := tt_t (i := 1011) (by decide +kernel) rfl
theorem ds_X7_isPreheated : yX7_isPreheated.cls ≠ "java/lang/invoke/MethodHandle" ∧ yX7_isPreheated.cls ≠ "java/lang/invoke/VarHandle" ∧ (parseMethodDescriptor yX7_isPreheated.desc).map (fun d => d.parameters.length) = some 3 := by decide +kernel
def mX7_heaterOf : MT := (3, (some .int), [], "heaterOf")
theorem co_X7_heaterOf : Cond.code yX7_heaterOf cX7_heaterOf mX7_heaterOf.1 mX7_heaterOf.2.1 ∈ TT := tt_t (i := 1009) (by decide +kernel) rfl
theorem sm_X7_heaterOf : Cond.static yX7_heaterOf ∈ TT := tt_t (i := 1008) (by decide +kernel) rfl
theorem ds_X7_heaterOf : yX7_heaterOf.cls ≠ "java/lang/invoke/MethodHandle" ∧ yX7_heaterOf.cls ≠ "java/lang/invoke/VarHandle" ∧ (parseMethodDescriptor yX7_heaterOf.desc).map (fun d => d.parameters.length) = some 2 := by decide +kernel
def mX7_charge : MT := (4, none, [], "charge")
theorem co_X7_charge : Cond.code yX7_charge cX7_charge mX7_charge.1 mX7_charge.2.1 ∈ TT := tt_t (i := 1102) (by decide +kernel) rfl
theorem sm_X7_charge : Cond.static yX7_charge ∈ TT := tt_t (i := 1101) (by decide +kernel) rfl
theorem ds_X7_charge : yX7_charge.cls ≠ "java/lang/invoke/MethodHandle" ∧ yX7_charge.cls ≠ "java/lang/invoke/VarHandle" ∧ (parseMethodDescriptor yX7_charge.desc).map (fun d => d.parameters.length) = some 3 := by decide +kernel
def mX7_goRoom : MT := (8, (some .int), [], "goRoom")
theorem co_X7_goRoom : Cond.code yX7_goRoom cX7_goRoom mX7_goRoom.1 mX7_goRoom.2.1 ∈ TT := tt_t (i := 1099) (by decide +kernel) rfl
theorem sm_X7_goRoom : Cond.static yX7_goRoom ∈ TT := tt_t (i := 1098) (by decide +kernel) rfl
theorem ds_X7_goRoom : yX7_goRoom.cls ≠ "java/lang/invoke/MethodHandle" ∧ yX7_goRoom.cls ≠ "java/lang/invoke/VarHandle" ∧ (parseMethodDescriptor yX7_goRoom.desc).map (fun d => d.parameters.length) = some 2 := by decide +kernel
def mX7_settle : MT := (5, none, [], "settle")
theorem co_X7_settle : Cond.code yX7_settle cX7_settle mX7_settle.1 mX7_settle.2.1 ∈ TT := tt_t (i := 1105) (by decide +kernel) rfl
theorem sm_X7_settle : Cond.static yX7_settle ∈ TT := tt_t (i := 1104) (by decide +kernel) rfl
theorem ds_X7_settle : yX7_settle.cls ≠ "java/lang/invoke/MethodHandle" ∧ yX7_settle.cls ≠ "java/lang/invoke/VarHandle" ∧ (parseMethodDescriptor yX7_settle.desc).map (fun d => d.parameters.length) = some 2 := by decide +kernel
def mX7_goHour : MT := (4, none, [], "goHour")
theorem co_X7_goHour : Cond.code yX7_goHour cX7_goHour mX7_goHour.1 mX7_goHour.2.1 ∈ TT := tt_t (i := 1096) (by decide +kernel) rfl
theorem sm_X7_goHour : Cond.static yX7_goHour ∈ TT := tt_t (i := 1095) (by decide +kernel) rfl
theorem ds_X7_goHour : yX7_goHour.cls ≠ "java/lang/invoke/MethodHandle" ∧ yX7_goHour.cls ≠ "java/lang/invoke/VarHandle" ∧ (parseMethodDescriptor yX7_goHour.desc).map (fun d => d.parameters.length) = some 1 := by decide +kernel
def mX7_goHours : MT := (3, none, [], "goHours")
theorem co_X7_goHours : Cond.code yX7_goHours cX7_goHours mX7_goHours.1 mX7_goHours.2.1 ∈ TT := tt_t (i := 1093) (by decide +kernel) rfl
theorem sm_X7_goHours : Cond.static yX7_goHours ∈ TT := tt_t (i := 1092) (by decide +kernel) rfl
theorem ds_X7_goHours : yX7_goHours.cls ≠ "java/lang/invoke/MethodHandle" ∧ yX7_goHours.cls ≠ "java/lang/invoke/VarHandle" ∧ (parseMethodDescriptor yX7_goHours.desc).map (fun d => d.parameters.length) = some 2 := by decide +kernel
def mX7_goAll : MT := (3, none, [], "goAll")
theorem co_X7_goAll : Cond.code yX7_goAll cX7_goAll mX7_goAll.1 mX7_goAll.2.1 ∈ TT := tt_t (i := 1132) (by decide +kernel) rfl
theorem sm_X7_goAll : Cond.static yX7_goAll ∈ TT := tt_t (i := 1131) (by decide +kernel) rfl
theorem ds_X7_goAll : yX7_goAll.cls ≠ "java/lang/invoke/MethodHandle" ∧ yX7_goAll.cls ≠ "java/lang/invoke/VarHandle" ∧ (parseMethodDescriptor yX7_goAll.desc).map (fun d => d.parameters.length) = some 1 := by decide +kernel
def mX7_isFree : MT := (6, (some .boolean), [], "isFree")
theorem co_X7_isFree : Cond.code yX7_isFree cX7_isFree mX7_isFree.1 mX7_isFree.2.1 ∈ TT := tt_t (i := 964) (by decide +kernel) rfl
theorem sm_X7_isFree : Cond.static yX7_isFree ∈ TT := tt_t (i := 963) (by decide +kernel) rfl
theorem ds_X7_isFree : yX7_isFree.cls ≠ "java/lang/invoke/MethodHandle" ∧ yX7_isFree.cls ≠ "java/lang/invoke/VarHandle" ∧ (parseMethodDescriptor yX7_isFree.desc).map (fun d => d.parameters.length) = some 4 := by decide +kernel
def mX7_canBook : MT := (4, (some .boolean), [], "canBook")
theorem co_X7_canBook : Cond.code yX7_canBook cX7_canBook mX7_canBook.1 mX7_canBook.2.1 ∈ TT := tt_t (i := 1059) (by decide +kernel) rfl
theorem sm_X7_canBook : Cond.static yX7_canBook ∈ TT := tt_t (i := 1058) (by decide +kernel) rfl
theorem ds_X7_canBook : yX7_canBook.cls ≠ "java/lang/invoke/MethodHandle" ∧ yX7_canBook.cls ≠ "java/lang/invoke/VarHandle" ∧ (parseMethodDescriptor yX7_canBook.desc).map (fun d => d.parameters.length) = some 4 := by decide +kernel
def mX7_addRoomTo : MT := (6, none, [], "addRoomTo")
theorem co_X7_addRoomTo : Cond.code yX7_addRoomTo cX7_addRoomTo mX7_addRoomTo.1 mX7_addRoomTo.2.1 ∈ TT := tt_t (i := 954) (by decide +kernel) rfl
theorem sm_X7_addRoomTo : Cond.static yX7_addRoomTo ∈ TT := tt_t (i := 953) (by decide +kernel) rfl
theorem ds_X7_addRoomTo : yX7_addRoomTo.cls ≠ "java/lang/invoke/MethodHandle" ∧ yX7_addRoomTo.cls ≠ "java/lang/invoke/VarHandle" ∧ (parseMethodDescriptor yX7_addRoomTo.desc).map (fun d => d.parameters.length) = some 5 := by decide +kernel
def mX7_bookTo : MT := (8, none, [], "bookTo")
theorem co_X7_bookTo : Cond.code yX7_bookTo cX7_bookTo mX7_bookTo.1 mX7_bookTo.2.1 ∈ TT := tt_t (i := 973) (by decide +kernel) rfl
theorem sm_X7_bookTo : Cond.static yX7_bookTo ∈ TT := tt_t (i := 972) (by decide +kernel) rfl
theorem ds_X7_bookTo : yX7_bookTo.cls ≠ "java/lang/invoke/MethodHandle" ∧ yX7_bookTo.cls ≠ "java/lang/invoke/VarHandle" ∧ (parseMethodDescriptor yX7_bookTo.desc).map (fun d => d.parameters.length) = some 6 := by decide +kernel
def mX7_canCancel : MT := (2, (some .boolean), [], "canCancel")
theorem co_X7_canCancel : Cond.code yX7_canCancel cX7_canCancel mX7_canCancel.1 mX7_canCancel.2.1 ∈ TT := tt_t (i := 1066) (by decide +kernel) rfl
theorem sm_X7_canCancel : Cond.static yX7_canCancel ∈ TT := tt_t (i := 1065) (by decide +kernel) rfl
theorem ds_X7_canCancel : yX7_canCancel.cls ≠ "java/lang/invoke/MethodHandle" ∧ yX7_canCancel.cls ≠ "java/lang/invoke/VarHandle" ∧ (parseMethodDescriptor yX7_canCancel.desc).map (fun d => d.parameters.length) = some 2 := by decide +kernel
def mX7_drop : MT := (3, none, [], "drop")
theorem co_X7_drop : Cond.code yX7_drop cX7_drop mX7_drop.1 mX7_drop.2.1 ∈ TT := tt_t (i := 1069) (by decide +kernel) rfl
theorem sm_X7_drop : Cond.static yX7_drop ∈ TT := tt_t (i := 1068) (by decide +kernel) rfl
theorem ds_X7_drop : yX7_drop.cls ≠ "java/lang/invoke/MethodHandle" ∧ yX7_drop.cls ≠ "java/lang/invoke/VarHandle" ∧ (parseMethodDescriptor yX7_drop.desc).map (fun d => d.parameters.length) = some 2 := by decide +kernel
def mX7_append : MT := (2, (some .int), [], "append")
theorem co_X7_append : Cond.code yX7_append cX7_append mX7_append.1 mX7_append.2.1 ∈ TT := tt_t (i := 910) (by decide +kernel) rfl
theorem im_X7_append : Cond.instanceMethod yX7_append ∈ TT := tt_t (i := 908) (by decide +kernel) rfl
theorem se_X7_append : Cond.selects yX7_append.cls yX7_append yX7_append ∈ TT := tt_t (i := 909) (by decide +kernel) rfl
theorem ds_X7_append : yX7_append.cls ≠ "java/lang/invoke/MethodHandle" ∧ yX7_append.cls ≠ "java/lang/invoke/VarHandle" ∧ (parseMethodDescriptor yX7_append.desc).map (fun d => d.parameters.length) = some 1 := by decide +kernel
def mX7_clearText : MT := (2, (some .int), [], "clearText")
theorem co_X7_clearText : Cond.code yX7_clearText cX7_clearText mX7_clearText.1 mX7_clearText.2.1 ∈ TT := tt_t (i := 922) (by decide +kernel) rfl
theorem im_X7_clearText : Cond.instanceMethod yX7_clearText ∈ TT := tt_t (i := 920) (by decide +kernel) rfl
theorem se_X7_clearText : Cond.selects yX7_clearText.cls yX7_clearText yX7_clearText ∈ TT := tt_t (i := 921) (by decide +kernel) rfl
theorem ds_X7_clearText : yX7_clearText.cls ≠ "java/lang/invoke/MethodHandle" ∧ yX7_clearText.cls ≠ "java/lang/invoke/VarHandle" ∧ (parseMethodDescriptor yX7_clearText.desc).map (fun d => d.parameters.length) = some 0 := by decide +kernel
def mX7_isNext : MT := (2, (some .boolean), [], "isNext")
theorem co_X7_isNext : Cond.code yX7_isNext cX7_isNext mX7_isNext.1 mX7_isNext.2.1 ∈ TT := tt_t (i := 934) (by decide +kernel) rfl
theorem im_X7_isNext : Cond.instanceMethod yX7_isNext ∈ TT := tt_t (i := 933) (by decide +kernel) rfl
theorem se_X7_isNext : Cond.selects yX7_isNext.cls yX7_isNext yX7_isNext ∈ TT := tt_p (i := 29) (by decide +kernel) rfl
theorem ds_X7_isNext : yX7_isNext.cls ≠ "java/lang/invoke/MethodHandle" ∧ yX7_isNext.cls ≠ "java/lang/invoke/VarHandle" ∧ (parseMethodDescriptor yX7_isNext.desc).map (fun d => d.parameters.length) = some 1 := by decide +kernel
def mX7_accept : MT := (2, none, [], "accept")
theorem co_X7_accept : Cond.code yX7_accept cX7_accept mX7_accept.1 mX7_accept.2.1 ∈ TT := tt_t (i := 938) (by decide +kernel) rfl
theorem im_X7_accept : Cond.instanceMethod yX7_accept ∈ TT := tt_t (i := 937) (by decide +kernel) rfl
theorem se_X7_accept : Cond.selects yX7_accept.cls yX7_accept yX7_accept ∈ TT := tt_p (i := 30) (by decide +kernel) rfl
theorem ds_X7_accept : yX7_accept.cls ≠ "java/lang/invoke/MethodHandle" ∧ yX7_accept.cls ≠ "java/lang/invoke/VarHandle" ∧ (parseMethodDescriptor yX7_accept.desc).map (fun d => d.parameters.length) = some 1 := by decide +kernel
def mX7_digit : MT := (4, (some .int), [], "digit")
theorem co_X7_digit : Cond.code yX7_digit cX7_digit mX7_digit.1 mX7_digit.2.1 ∈ TT := tt_t (i := 946) (by decide +kernel) rfl
theorem im_X7_digit : Cond.instanceMethod yX7_digit ∈ TT := tt_t (i := 945) (by decide +kernel) rfl
theorem se_X7_digit : Cond.selects yX7_digit.cls yX7_digit yX7_digit ∈ TT := tt_p (i := 32) (by decide +kernel) rfl
theorem ds_X7_digit : yX7_digit.cls ≠ "java/lang/invoke/MethodHandle" ∧ yX7_digit.cls ≠ "java/lang/invoke/VarHandle" ∧ (parseMethodDescriptor yX7_digit.desc).map (fun d => d.parameters.length) = some 2 := by decide +kernel
def mX7_two : MT := (6, (some .int), [], "two")
theorem co_X7_two : Cond.code yX7_two cX7_two mX7_two.1 mX7_two.2.1 ∈ TT := tt_t (i := 951) (by decide +kernel) rfl
theorem im_X7_two : Cond.instanceMethod yX7_two ∈ TT := tt_t (i := 950) (by decide +kernel) rfl
theorem se_X7_two : Cond.selects yX7_two.cls yX7_two yX7_two ∈ TT := tt_p (i := 33) (by decide +kernel) rfl
theorem ds_X7_two : yX7_two.cls ≠ "java/lang/invoke/MethodHandle" ∧ yX7_two.cls ≠ "java/lang/invoke/VarHandle" ∧ (parseMethodDescriptor yX7_two.desc).map (fun d => d.parameters.length) = some 2 := by decide +kernel
def mX7_readRoom : MT := (5, none, [], "readRoom")
theorem co_X7_readRoom : Cond.code yX7_readRoom cX7_readRoom mX7_readRoom.1 mX7_readRoom.2.1 ∈ TT := tt_t (i := 942) (by decide +kernel) rfl
theorem im_X7_readRoom : Cond.instanceMethod yX7_readRoom ∈ TT := tt_t (i := 941) (by decide +kernel) rfl
theorem se_X7_readRoom : Cond.selects yX7_readRoom.cls yX7_readRoom yX7_readRoom ∈ TT := tt_p (i := 31) (by decide +kernel) rfl
theorem ds_X7_readRoom : yX7_readRoom.cls ≠ "java/lang/invoke/MethodHandle" ∧ yX7_readRoom.cls ≠ "java/lang/invoke/VarHandle" ∧ (parseMethodDescriptor yX7_readRoom.desc).map (fun d => d.parameters.length) = some 0 := by decide +kernel
def mX7_readOutside : MT := (3, none, [], "readOutside")
theorem co_X7_readOutside : Cond.code yX7_readOutside cX7_readOutside mX7_readOutside.1 mX7_readOutside.2.1 ∈ TT := tt_t (i := 977) (by decide +kernel) rfl
theorem im_X7_readOutside : Cond.instanceMethod yX7_readOutside ∈ TT := tt_t (i := 976) (by decide +kernel) rfl
theorem se_X7_readOutside : Cond.selects yX7_readOutside.cls yX7_readOutside yX7_readOutside ∈ TT := tt_p (i := 35) (by decide +kernel) rfl
theorem ds_X7_readOutside : yX7_readOutside.cls ≠ "java/lang/invoke/MethodHandle" ∧ yX7_readOutside.cls ≠ "java/lang/invoke/VarHandle" ∧ (parseMethodDescriptor yX7_readOutside.desc).map (fun d => d.parameters.length) = some 0 := by decide +kernel
def mX7_readBooking : MT := (8, none, [], "readBooking")
theorem co_X7_readBooking : Cond.code yX7_readBooking cX7_readBooking mX7_readBooking.1 mX7_readBooking.2.1 ∈ TT := tt_t (i := 961) (by decide +kernel) rfl
theorem im_X7_readBooking : Cond.instanceMethod yX7_readBooking ∈ TT := tt_t (i := 960) (by decide +kernel) rfl
theorem se_X7_readBooking : Cond.selects yX7_readBooking.cls yX7_readBooking yX7_readBooking ∈ TT := tt_p (i := 34) (by decide +kernel) rfl
theorem ds_X7_readBooking : yX7_readBooking.cls ≠ "java/lang/invoke/MethodHandle" ∧ yX7_readBooking.cls ≠ "java/lang/invoke/VarHandle" ∧ (parseMethodDescriptor yX7_readBooking.desc).map (fun d => d.parameters.length) = some 0 := by decide +kernel
def mX7_readText : MT := (1, (some .int), [], "readText")
theorem co_X7_readText : Cond.code yX7_readText cX7_readText mX7_readText.1 mX7_readText.2.1 ∈ TT := tt_t (i := 930) (by decide +kernel) rfl
theorem im_X7_readText : Cond.instanceMethod yX7_readText ∈ TT := tt_t (i := 929) (by decide +kernel) rfl
theorem se_X7_readText : Cond.selects yX7_readText.cls yX7_readText yX7_readText ∈ TT := tt_p (i := 28) (by decide +kernel) rfl
theorem ds_X7_readText : yX7_readText.cls ≠ "java/lang/invoke/MethodHandle" ∧ yX7_readText.cls ≠ "java/lang/invoke/VarHandle" ∧ (parseMethodDescriptor yX7_readText.desc).map (fun d => d.parameters.length) = some 0 := by decide +kernel
def mX7_errorPosition : MT := (1, (some .int), [], "errorPosition")
theorem co_X7_errorPosition : Cond.code yX7_errorPosition cX7_errorPosition mX7_errorPosition.1 mX7_errorPosition.2.1 ∈ TT := tt_t (i := 926) (by decide +kernel) rfl
theorem im_X7_errorPosition : Cond.instanceMethod yX7_errorPosition ∈ TT := tt_t (i := 924) (by decide +kernel) rfl
theorem se_X7_errorPosition : Cond.selects yX7_errorPosition.cls yX7_errorPosition yX7_errorPosition ∈ TT := tt_t (i := 925) (by decide +kernel) rfl
theorem ds_X7_errorPosition : yX7_errorPosition.cls ≠ "java/lang/invoke/MethodHandle" ∧ yX7_errorPosition.cls ≠ "java/lang/invoke/VarHandle" ∧ (parseMethodDescriptor yX7_errorPosition.desc).map (fun d => d.parameters.length) = some 0 := by decide +kernel
def mX7_load : MT := (1, (some .int), [], "load")
theorem co_X7_load : Cond.code yX7_load cX7_load mX7_load.1 mX7_load.2.1 ∈ TT := tt_t (i := 981) (by decide +kernel) rfl
theorem im_X7_load : Cond.instanceMethod yX7_load ∈ TT := tt_t (i := 979) (by decide +kernel) rfl
theorem se_X7_load : Cond.selects yX7_load.cls yX7_load yX7_load ∈ TT := tt_t (i := 980) (by decide +kernel) rfl
theorem ds_X7_load : yX7_load.cls ≠ "java/lang/invoke/MethodHandle" ∧ yX7_load.cls ≠ "java/lang/invoke/VarHandle" ∧ (parseMethodDescriptor yX7_load.desc).map (fun d => d.parameters.length) = some 0 := by decide +kernel
def mX7_about : MT := (2, (some .int), [], "about")
theorem co_X7_about : Cond.code yX7_about cX7_about mX7_about.1 mX7_about.2.1 ∈ TT := tt_t (i := 988) (by decide +kernel) rfl
theorem im_X7_about : Cond.instanceMethod yX7_about ∈ TT := tt_t (i := 986) (by decide +kernel) rfl
theorem se_X7_about : Cond.selects yX7_about.cls yX7_about yX7_about ∈ TT := tt_t (i := 987) (by decide +kernel) rfl
theorem ds_X7_about : yX7_about.cls ≠ "java/lang/invoke/MethodHandle" ∧ yX7_about.cls ≠ "java/lang/invoke/VarHandle" ∧ (parseMethodDescriptor yX7_about.desc).map (fun d => d.parameters.length) = some 1 := by decide +kernel
def mX7_isRoom : MT := (2, (some .boolean), [], "isRoom")
theorem co_X7_isRoom : Cond.code yX7_isRoom cX7_isRoom mX7_isRoom.1 mX7_isRoom.2.1 ∈ TT := tt_t (i := 996) (by decide +kernel) rfl
theorem im_X7_isRoom : Cond.instanceMethod yX7_isRoom ∈ TT := tt_t (i := 995) (by decide +kernel) rfl
theorem se_X7_isRoom : Cond.selects yX7_isRoom.cls yX7_isRoom yX7_isRoom ∈ TT := tt_p (i := 36) (by decide +kernel) rfl
theorem ds_X7_isRoom : yX7_isRoom.cls ≠ "java/lang/invoke/MethodHandle" ∧ yX7_isRoom.cls ≠ "java/lang/invoke/VarHandle" ∧ (parseMethodDescriptor yX7_isRoom.desc).map (fun d => d.parameters.length) = some 1 := by decide +kernel
def mX7_isGroup : MT := (2, (some .boolean), [], "isGroup")
theorem co_X7_isGroup : Cond.code yX7_isGroup cX7_isGroup mX7_isGroup.1 mX7_isGroup.2.1 ∈ TT := tt_t (i := 1023) (by decide +kernel) rfl
theorem im_X7_isGroup : Cond.instanceMethod yX7_isGroup ∈ TT := tt_t (i := 1022) (by decide +kernel) rfl
theorem se_X7_isGroup : Cond.selects yX7_isGroup.cls yX7_isGroup yX7_isGroup ∈ TT := tt_p (i := 37) (by decide +kernel) rfl
theorem ds_X7_isGroup : yX7_isGroup.cls ≠ "java/lang/invoke/MethodHandle" ∧ yX7_isGroup.cls ≠ "java/lang/invoke/VarHandle" ∧ (parseMethodDescriptor yX7_isGroup.desc).map (fun d => d.parameters.length) = some 1 := by decide +kernel
def mX7_isBooking : MT := (2, (some .boolean), [], "isBooking")
theorem co_X7_isBooking : Cond.code yX7_isBooking cX7_isBooking mX7_isBooking.1 mX7_isBooking.2.1 ∈ TT := tt_t (i := 1031) (by decide +kernel) rfl
theorem im_X7_isBooking : Cond.instanceMethod yX7_isBooking ∈ TT := tt_t (i := 1030) (by decide +kernel) rfl
theorem se_X7_isBooking : Cond.selects yX7_isBooking.cls yX7_isBooking yX7_isBooking ∈ TT := tt_p (i := 38) (by decide +kernel) rfl
theorem ds_X7_isBooking : yX7_isBooking.cls ≠ "java/lang/invoke/MethodHandle" ∧ yX7_isBooking.cls ≠ "java/lang/invoke/VarHandle" ∧ (parseMethodDescriptor yX7_isBooking.desc).map (fun d => d.parameters.length) = some 1 := by decide +kernel
def mX7_room : MT := (3, (some .int), [], "room")
theorem co_X7_room : Cond.code yX7_room cX7_room mX7_room.1 mX7_room.2.1 ∈ TT := tt_t (i := 992) (by decide +kernel) rfl
theorem im_X7_room : Cond.instanceMethod yX7_room ∈ TT := tt_t (i := 990) (by decide +kernel) rfl
theorem se_X7_room : Cond.selects yX7_room.cls yX7_room yX7_room ∈ TT := tt_t (i := 991) (by decide +kernel) rfl
theorem ds_X7_room : yX7_room.cls ≠ "java/lang/invoke/MethodHandle" ∧ yX7_room.cls ≠ "java/lang/invoke/VarHandle" ∧ (parseMethodDescriptor yX7_room.desc).map (fun d => d.parameters.length) = some 2 := by decide +kernel
def mX7_owes : MT := (2, (some .int), [], "owes")
theorem co_X7_owes : Cond.code yX7_owes cX7_owes mX7_owes.1 mX7_owes.2.1 ∈ TT := tt_t (i := 1019) (by decide +kernel) rfl
theorem im_X7_owes : Cond.instanceMethod yX7_owes ∈ TT := tt_t (i := 1017) (by decide +kernel) rfl
theorem se_X7_owes : Cond.selects yX7_owes.cls yX7_owes yX7_owes ∈ TT := tt_t (i := 1018) (by decide +kernel) rfl
theorem ds_X7_owes : yX7_owes.cls ≠ "java/lang/invoke/MethodHandle" ∧ yX7_owes.cls ≠ "java/lang/invoke/VarHandle" ∧ (parseMethodDescriptor yX7_owes.desc).map (fun d => d.parameters.length) = some 1 := by decide +kernel
def mX7_booking : MT := (3, (some .int), [], "booking")
theorem co_X7_booking : Cond.code yX7_booking cX7_booking mX7_booking.1 mX7_booking.2.1 ∈ TT := tt_t (i := 1027) (by decide +kernel) rfl
theorem im_X7_booking : Cond.instanceMethod yX7_booking ∈ TT := tt_t (i := 1025) (by decide +kernel) rfl
theorem se_X7_booking : Cond.selects yX7_booking.cls yX7_booking yX7_booking ∈ TT := tt_t (i := 1026) (by decide +kernel) rfl
theorem ds_X7_booking : yX7_booking.cls ≠ "java/lang/invoke/MethodHandle" ∧ yX7_booking.cls ≠ "java/lang/invoke/VarHandle" ∧ (parseMethodDescriptor yX7_booking.desc).map (fun d => d.parameters.length) = some 2 := by decide +kernel
def mX7_addRoom : MT := (6, (some .int), [], "addRoom")
theorem co_X7_addRoom : Cond.code yX7_addRoom cX7_addRoom mX7_addRoom.1 mX7_addRoom.2.1 ∈ TT := tt_t (i := 1035) (by decide +kernel) rfl
theorem im_X7_addRoom : Cond.instanceMethod yX7_addRoom ∈ TT := tt_t (i := 1033) (by decide +kernel) rfl
theorem se_X7_addRoom : Cond.selects yX7_addRoom.cls yX7_addRoom yX7_addRoom ∈ TT := tt_t (i := 1034) (by decide +kernel) rfl
theorem ds_X7_addRoom : yX7_addRoom.cls ≠ "java/lang/invoke/MethodHandle" ∧ yX7_addRoom.cls ≠ "java/lang/invoke/VarHandle" ∧ (parseMethodDescriptor yX7_addRoom.desc).map (fun d => d.parameters.length) = some 4 := by decide +kernel
def mX7_addGroup : MT := (1, (some .int), [], "addGroup")
theorem co_X7_addGroup : Cond.code yX7_addGroup cX7_addGroup mX7_addGroup.1 mX7_addGroup.2.1 ∈ TT := tt_t (i := 1045) (by decide +kernel) rfl
theorem im_X7_addGroup : Cond.instanceMethod yX7_addGroup ∈ TT := tt_t (i := 1043) (by decide +kernel) rfl
theorem se_X7_addGroup : Cond.selects yX7_addGroup.cls yX7_addGroup yX7_addGroup ∈ TT := tt_t (i := 1044) (by decide +kernel) rfl
theorem ds_X7_addGroup : yX7_addGroup.cls ≠ "java/lang/invoke/MethodHandle" ∧ yX7_addGroup.cls ≠ "java/lang/invoke/VarHandle" ∧ (parseMethodDescriptor yX7_addGroup.desc).map (fun d => d.parameters.length) = some 0 := by decide +kernel
def mX7_isSound : MT := (4, (some .boolean), [], "isSound")
theorem co_X7_isSound : Cond.code yX7_isSound cX7_isSound mX7_isSound.1 mX7_isSound.2.1 ∈ TT := tt_t (i := 1053) (by decide +kernel) rfl
theorem im_X7_isSound : Cond.instanceMethod yX7_isSound ∈ TT := tt_t (i := 1052) (by decide +kernel) rfl
theorem se_X7_isSound : Cond.selects yX7_isSound.cls yX7_isSound yX7_isSound ∈ TT := tt_p (i := 40) (by decide +kernel) rfl
theorem ds_X7_isSound : yX7_isSound.cls ≠ "java/lang/invoke/MethodHandle" ∧ yX7_isSound.cls ≠ "java/lang/invoke/VarHandle" ∧ (parseMethodDescriptor yX7_isSound.desc).map (fun d => d.parameters.length) = some 3 := by decide +kernel
def mX7_book : MT := (7, (some .int), [], "book")
theorem co_X7_book : Cond.code yX7_book cX7_book mX7_book.1 mX7_book.2.1 ∈ TT := tt_t (i := 1049) (by decide +kernel) rfl
theorem im_X7_book : Cond.instanceMethod yX7_book ∈ TT := tt_t (i := 1047) (by decide +kernel) rfl
theorem se_X7_book : Cond.selects yX7_book.cls yX7_book yX7_book ∈ TT := tt_t (i := 1048) (by decide +kernel) rfl
theorem ds_X7_book : yX7_book.cls ≠ "java/lang/invoke/MethodHandle" ∧ yX7_book.cls ≠ "java/lang/invoke/VarHandle" ∧ (parseMethodDescriptor yX7_book.desc).map (fun d => d.parameters.length) = some 5 := by decide +kernel
def mX7_cancel : MT := (2, (some .int), [], "cancel")
theorem co_X7_cancel : Cond.code yX7_cancel cX7_cancel mX7_cancel.1 mX7_cancel.2.1 ∈ TT := tt_t (i := 1063) (by decide +kernel) rfl
theorem im_X7_cancel : Cond.instanceMethod yX7_cancel ∈ TT := tt_t (i := 1061) (by decide +kernel) rfl
theorem se_X7_cancel : Cond.selects yX7_cancel.cls yX7_cancel yX7_cancel ∈ TT := tt_t (i := 1062) (by decide +kernel) rfl
theorem ds_X7_cancel : yX7_cancel.cls ≠ "java/lang/invoke/MethodHandle" ∧ yX7_cancel.cls ≠ "java/lang/invoke/VarHandle" ∧ (parseMethodDescriptor yX7_cancel.desc).map (fun d => d.parameters.length) = some 1 := by decide +kernel
def mX7_prove : MT := (4, (some .int), [], "prove")
theorem co_X7_prove : Cond.code yX7_prove cX7_prove mX7_prove.1 mX7_prove.2.1 ∈ TT := tt_t (i := 1073) (by decide +kernel) rfl
theorem im_X7_prove : Cond.instanceMethod yX7_prove ∈ TT := tt_t (i := 1071) (by decide +kernel) rfl
theorem se_X7_prove : Cond.selects yX7_prove.cls yX7_prove yX7_prove ∈ TT := tt_t (i := 1072) (by decide +kernel) rfl
theorem ds_X7_prove : yX7_prove.cls ≠ "java/lang/invoke/MethodHandle" ∧ yX7_prove.cls ≠ "java/lang/invoke/VarHandle" ∧ (parseMethodDescriptor yX7_prove.desc).map (fun d => d.parameters.length) = some 2 := by decide +kernel
def mX7_isOutside : MT := (1, (some .boolean), [], "isOutside")
theorem co_X7_isOutside : Cond.code yX7_isOutside cX7_isOutside mX7_isOutside.1 mX7_isOutside.2.1 ∈ TT := tt_t (i := 1080) (by decide +kernel) rfl
theorem sm_X7_isOutside : Cond.static yX7_isOutside ∈ TT := tt_t (i := 1079) (by decide +kernel) rfl
theorem ds_X7_isOutside : yX7_isOutside.cls ≠ "java/lang/invoke/MethodHandle" ∧ yX7_isOutside.cls ≠ "java/lang/invoke/VarHandle" ∧ (parseMethodDescriptor yX7_isOutside.desc).map (fun d => d.parameters.length) = some 1 := by decide +kernel
def mX7_outside : MT := (3, (some .int), [], "outside")
theorem co_X7_outside : Cond.code yX7_outside cX7_outside mX7_outside.1 mX7_outside.2.1 ∈ TT := tt_t (i := 1077) (by decide +kernel) rfl
theorem im_X7_outside : Cond.instanceMethod yX7_outside ∈ TT := tt_t (i := 1075) (by decide +kernel) rfl
theorem se_X7_outside : Cond.selects yX7_outside.cls yX7_outside yX7_outside ∈ TT := tt_t (i := 1076) (by decide +kernel) rfl
theorem ds_X7_outside : yX7_outside.cls ≠ "java/lang/invoke/MethodHandle" ∧ yX7_outside.cls ≠ "java/lang/invoke/VarHandle" ∧ (parseMethodDescriptor yX7_outside.desc).map (fun d => d.parameters.length) = some 1 := by decide +kernel
def mX7_pay : MT := (3, (some .int), [], "pay")
theorem co_X7_pay : Cond.code yX7_pay cX7_pay mX7_pay.1 mX7_pay.2.1 ∈ TT := tt_t (i := 1085) (by decide +kernel) rfl
theorem im_X7_pay : Cond.instanceMethod yX7_pay ∈ TT := tt_t (i := 1083) (by decide +kernel) rfl
theorem se_X7_pay : Cond.selects yX7_pay.cls yX7_pay yX7_pay ∈ TT := tt_t (i := 1084) (by decide +kernel) rfl
theorem ds_X7_pay : yX7_pay.cls ≠ "java/lang/invoke/MethodHandle" ∧ yX7_pay.cls ≠ "java/lang/invoke/VarHandle" ∧ (parseMethodDescriptor yX7_pay.desc).map (fun d => d.parameters.length) = some 1 := by decide +kernel
def mX7_pass : MT := (3, (some .int), [], "pass")
theorem co_X7_pass : Cond.code yX7_pass cX7_pass mX7_pass.1 mX7_pass.2.1 ∈ TT := tt_t (i := 1089) (by decide +kernel) rfl
theorem im_X7_pass : Cond.instanceMethod yX7_pass ∈ TT := tt_t (i := 1087) (by decide +kernel) rfl
theorem se_X7_pass : Cond.selects yX7_pass.cls yX7_pass yX7_pass ∈ TT := tt_t (i := 1088) (by decide +kernel) rfl
theorem ds_X7_pass : yX7_pass.cls ≠ "java/lang/invoke/MethodHandle" ∧ yX7_pass.cls ≠ "java/lang/invoke/VarHandle" ∧ (parseMethodDescriptor yX7_pass.desc).map (fun d => d.parameters.length) = some 1 := by decide +kernel
def mX7_undo : MT := (1, (some .int), [], "undo")
theorem co_X7_undo : Cond.code yX7_undo cX7_undo mX7_undo.1 mX7_undo.2.1 ∈ TT := tt_t (i := 1109) (by decide +kernel) rfl
theorem im_X7_undo : Cond.instanceMethod yX7_undo ∈ TT := tt_t (i := 1107) (by decide +kernel) rfl
theorem se_X7_undo : Cond.selects yX7_undo.cls yX7_undo yX7_undo ∈ TT := tt_t (i := 1108) (by decide +kernel) rfl
theorem ds_X7_undo : yX7_undo.cls ≠ "java/lang/invoke/MethodHandle" ∧ yX7_undo.cls ≠ "java/lang/invoke/VarHandle" ∧ (parseMethodDescriptor yX7_undo.desc).map (fun d => d.parameters.length) = some 0 := by decide +kernel
def mX7_later : MT := (3, (some .int), [], "later")
theorem co_X7_later : Cond.code yX7_later cX7_later mX7_later.1 mX7_later.2.1 ∈ TT := tt_t (i := 1113) (by decide +kernel) rfl
theorem im_X7_later : Cond.instanceMethod yX7_later ∈ TT := tt_t (i := 1111) (by decide +kernel) rfl
theorem se_X7_later : Cond.selects yX7_later.cls yX7_later yX7_later ∈ TT := tt_t (i := 1112) (by decide +kernel) rfl
theorem ds_X7_later : yX7_later.cls ≠ "java/lang/invoke/MethodHandle" ∧ yX7_later.cls ≠ "java/lang/invoke/VarHandle" ∧ (parseMethodDescriptor yX7_later.desc).map (fun d => d.parameters.length) = some 2 := by decide +kernel
def mX7_begins : MT := (2, (some .int), [], "begins")
theorem co_X7_begins : Cond.code yX7_begins cX7_begins mX7_begins.1 mX7_begins.2.1 ∈ TT := tt_t (i := 1121) (by decide +kernel) rfl
theorem im_X7_begins : Cond.instanceMethod yX7_begins ∈ TT := tt_t (i := 1119) (by decide +kernel) rfl
theorem se_X7_begins : Cond.selects yX7_begins.cls yX7_begins yX7_begins ∈ TT := tt_t (i := 1120) (by decide +kernel) rfl
theorem ds_X7_begins : yX7_begins.cls ≠ "java/lang/invoke/MethodHandle" ∧ yX7_begins.cls ≠ "java/lang/invoke/VarHandle" ∧ (parseMethodDescriptor yX7_begins.desc).map (fun d => d.parameters.length) = some 1 := by decide +kernel
def mX7_cost : MT := (8, (some .int), [], "cost")
theorem co_X7_cost : Cond.code yX7_cost cX7_cost mX7_cost.1 mX7_cost.2.1 ∈ TT := tt_t (i := 1125) (by decide +kernel) rfl
theorem im_X7_cost : Cond.instanceMethod yX7_cost ∈ TT := tt_t (i := 1123) (by decide +kernel) rfl
theorem se_X7_cost : Cond.selects yX7_cost.cls yX7_cost yX7_cost ∈ TT := tt_t (i := 1124) (by decide +kernel) rfl
theorem ds_X7_cost : yX7_cost.cls ≠ "java/lang/invoke/MethodHandle" ∧ yX7_cost.cls ≠ "java/lang/invoke/VarHandle" ∧ (parseMethodDescriptor yX7_cost.desc).map (fun d => d.parameters.length) = some 5 := by decide +kernel
def mX7_willOwe : MT := (2, (some .int), [], "willOwe")
theorem co_X7_willOwe : Cond.code yX7_willOwe cX7_willOwe mX7_willOwe.1 mX7_willOwe.2.1 ∈ TT := tt_t (i := 1129) (by decide +kernel) rfl
theorem im_X7_willOwe : Cond.instanceMethod yX7_willOwe ∈ TT := tt_t (i := 1127) (by decide +kernel) rfl
theorem se_X7_willOwe : Cond.selects yX7_willOwe.cls yX7_willOwe yX7_willOwe ∈ TT := tt_t (i := 1128) (by decide +kernel) rfl
theorem ds_X7_willOwe : yX7_willOwe.cls ≠ "java/lang/invoke/MethodHandle" ∧ yX7_willOwe.cls ≠ "java/lang/invoke/VarHandle" ∧ (parseMethodDescriptor yX7_willOwe.desc).map (fun d => d.parameters.length) = some 1 := by decide +kernel
def mX7_coldest : MT := (3, (some .int), [], "coldest")
theorem co_X7_coldest : Cond.code yX7_coldest cX7_coldest mX7_coldest.1 mX7_coldest.2.1 ∈ TT := tt_t (i := 1136) (by decide +kernel) rfl
theorem im_X7_coldest : Cond.instanceMethod yX7_coldest ∈ TT := tt_t (i := 1134) (by decide +kernel) rfl
theorem se_X7_coldest : Cond.selects yX7_coldest.cls yX7_coldest yX7_coldest ∈ TT := tt_t (i := 1135) (by decide +kernel) rfl
theorem ds_X7_coldest : yX7_coldest.cls ≠ "java/lang/invoke/MethodHandle" ∧ yX7_coldest.cls ≠ "java/lang/invoke/VarHandle" ∧ (parseMethodDescriptor yX7_coldest.desc).map (fun d => d.parameters.length) = some 0 := by decide +kernel
def mX7_does : MT := (8, (some .boolean), [], "does")
theorem co_X7_does : Cond.code yX7_does cX7_does mX7_does.1 mX7_does.2.1 ∈ TT := tt_t (i := 1150) (by decide +kernel) rfl
theorem im_X7_does : Cond.instanceMethod yX7_does ∈ TT := tt_t (i := 1149) (by decide +kernel) rfl
theorem se_X7_does : Cond.selects yX7_does.cls yX7_does yX7_does ∈ TT := tt_p (i := 42) (by decide +kernel) rfl
theorem ds_X7_does : yX7_does.cls ≠ "java/lang/invoke/MethodHandle" ∧ yX7_does.cls ≠ "java/lang/invoke/VarHandle" ∧ (parseMethodDescriptor yX7_does.desc).map (fun d => d.parameters.length) = some 1 := by decide +kernel
def mX7_runScript : MT := (6, (some .int), [], "runScript")
theorem co_X7_runScript : Cond.code yX7_runScript cX7_runScript mX7_runScript.1 mX7_runScript.2.1 ∈ TT := tt_t (i := 1140) (by decide +kernel) rfl
theorem im_X7_runScript : Cond.instanceMethod yX7_runScript ∈ TT := tt_t (i := 1138) (by decide +kernel) rfl
theorem se_X7_runScript : Cond.selects yX7_runScript.cls yX7_runScript yX7_runScript ∈ TT := tt_t (i := 1139) (by decide +kernel) rfl
theorem ds_X7_runScript : yX7_runScript.cls ≠ "java/lang/invoke/MethodHandle" ∧ yX7_runScript.cls ≠ "java/lang/invoke/VarHandle" ∧ (parseMethodDescriptor yX7_runScript.desc).map (fun d => d.parameters.length) = some 2 := by decide +kernel
def mX7_markAll : MT := (3, none, [], "markAll")
theorem co_X7_markAll : Cond.code yX7_markAll cX7_markAll mX7_markAll.1 mX7_markAll.2.1 ∈ TT := tt_t (i := 1161) (by decide +kernel) rfl
theorem im_X7_markAll : Cond.instanceMethod yX7_markAll ∈ TT := tt_t (i := 1160) (by decide +kernel) rfl
theorem se_X7_markAll : Cond.selects yX7_markAll.cls yX7_markAll yX7_markAll ∈ TT := tt_p (i := 43) (by decide +kernel) rfl
theorem ds_X7_markAll : yX7_markAll.cls ≠ "java/lang/invoke/MethodHandle" ∧ yX7_markAll.cls ≠ "java/lang/invoke/VarHandle" ∧ (parseMethodDescriptor yX7_markAll.desc).map (fun d => d.parameters.length) = some 0 := by decide +kernel
def mX7_simulate : MT := (8, (some .int), [], "simulate")
theorem co_X7_simulate : Cond.code yX7_simulate cX7_simulate mX7_simulate.1 mX7_simulate.2.1 ∈ TT := tt_t (i := 1154) (by decide +kernel) rfl
theorem im_X7_simulate : Cond.instanceMethod yX7_simulate ∈ TT := tt_t (i := 1152) (by decide +kernel) rfl
theorem se_X7_simulate : Cond.selects yX7_simulate.cls yX7_simulate yX7_simulate ∈ TT := tt_t (i := 1153) (by decide +kernel) rfl
theorem ds_X7_simulate : yX7_simulate.cls ≠ "java/lang/invoke/MethodHandle" ∧ yX7_simulate.cls ≠ "java/lang/invoke/VarHandle" ∧ (parseMethodDescriptor yX7_simulate.desc).map (fun d => d.parameters.length) = some 2 := by decide +kernel
def mX7_save : MT := (2, (some .int), [], "save")
theorem co_X7_save : Cond.code yX7_save cX7_save mX7_save.1 mX7_save.2.1 ∈ TT := tt_t (i := 1165) (by decide +kernel) rfl
theorem im_X7_save : Cond.instanceMethod yX7_save ∈ TT := tt_t (i := 1163) (by decide +kernel) rfl
theorem se_X7_save : Cond.selects yX7_save.cls yX7_save yX7_save ∈ TT := tt_t (i := 1164) (by decide +kernel) rfl
theorem ds_X7_save : yX7_save.cls ≠ "java/lang/invoke/MethodHandle" ∧ yX7_save.cls ≠ "java/lang/invoke/VarHandle" ∧ (parseMethodDescriptor yX7_save.desc).map (fun d => d.parameters.length) = some 1 := by decide +kernel
def mX7_restore : MT := (2, (some .int), [], "restore")
theorem co_X7_restore : Cond.code yX7_restore cX7_restore mX7_restore.1 mX7_restore.2.1 ∈ TT := tt_t (i := 1169) (by decide +kernel) rfl
theorem im_X7_restore : Cond.instanceMethod yX7_restore ∈ TT := tt_t (i := 1167) (by decide +kernel) rfl
theorem se_X7_restore : Cond.selects yX7_restore.cls yX7_restore yX7_restore ∈ TT := tt_t (i := 1168) (by decide +kernel) rfl
theorem ds_X7_restore : yX7_restore.cls ≠ "java/lang/invoke/MethodHandle" ∧ yX7_restore.cls ≠ "java/lang/invoke/VarHandle" ∧ (parseMethodDescriptor yX7_restore.desc).map (fun d => d.parameters.length) = some 1 := by decide +kernel
def mL_append : MT := (4, (some .int), [(0, 9, 12, 13), (0, 9, 15, 15)], "append")
theorem co_L_append : Cond.codeWith yL_append cL_append mL_append.1 mL_append.2.1 mL_append.2.2.1 ∈ TT := tt_t (i := 431) (by decide +kernel) rfl
theorem sm_L_append : Cond.static yL_append ∈ TT := tt_t (i := 430) (by decide +kernel) rfl
theorem ds_L_append : yL_append.cls ≠ "java/lang/invoke/MethodHandle" ∧ yL_append.cls ≠ "java/lang/invoke/VarHandle" ∧ (parseMethodDescriptor yL_append.desc).map (fun d => d.parameters.length) = some 3 := by decide +kernel
def mL_load : MT := (3, (some .int), [(0, 8, 11, 15)], "load")
theorem co_L_load : Cond.codeWith yL_load cL_load mL_load.1 mL_load.2.1 mL_load.2.2.1 ∈ TT := tt_t (i := 531) (by decide +kernel) rfl
theorem sm_L_load : Cond.static yL_load ∈ TT := tt_t (i := 530) (by decide +kernel) rfl
theorem ds_L_load : yL_load.cls ≠ "java/lang/invoke/MethodHandle" ∧ yL_load.cls ≠ "java/lang/invoke/VarHandle" ∧ (parseMethodDescriptor yL_load.desc).map (fun d => d.parameters.length) = some 2 := by decide +kernel
def mL_about : MT := (4, (some .int), [(0, 9, 12, 13)], "about")
theorem co_L_about : Cond.codeWith yL_about cL_about mL_about.1 mL_about.2.1 mL_about.2.2.1 ∈ TT := tt_t (i := 543) (by decide +kernel) rfl
theorem sm_L_about : Cond.static yL_about ∈ TT := tt_t (i := 542) (by decide +kernel) rfl
theorem ds_L_about : yL_about.cls ≠ "java/lang/invoke/MethodHandle" ∧ yL_about.cls ≠ "java/lang/invoke/VarHandle" ∧ (parseMethodDescriptor yL_about.desc).map (fun d => d.parameters.length) = some 3 := by decide +kernel
def mL_room : MT := (5, (some .int), [(0, 10, 13, 28), (0, 10, 17, 13)], "room")
theorem co_L_room : Cond.codeWith yL_room cL_room mL_room.1 mL_room.2.1 mL_room.2.2.1 ∈ TT := tt_t (i := 554) (by decide +kernel) rfl
theorem sm_L_room : Cond.static yL_room ∈ TT := tt_t (i := 553) (by decide +kernel) rfl
theorem ds_L_room : yL_room.cls ≠ "java/lang/invoke/MethodHandle" ∧ yL_room.cls ≠ "java/lang/invoke/VarHandle" ∧ (parseMethodDescriptor yL_room.desc).map (fun d => d.parameters.length) = some 4 := by decide +kernel
def mL_owes : MT := (4, (some .int), [(0, 9, 12, 28)], "owes")
theorem co_L_owes : Cond.codeWith yL_owes cL_owes mL_owes.1 mL_owes.2.1 mL_owes.2.2.1 ∈ TT := tt_t (i := 590) (by decide +kernel) rfl
theorem sm_L_owes : Cond.static yL_owes ∈ TT := tt_t (i := 589) (by decide +kernel) rfl
theorem ds_L_owes : yL_owes.cls ≠ "java/lang/invoke/MethodHandle" ∧ yL_owes.cls ≠ "java/lang/invoke/VarHandle" ∧ (parseMethodDescriptor yL_owes.desc).map (fun d => d.parameters.length) = some 3 := by decide +kernel
def mL_booking : MT := (5, (some .int), [(0, 10, 13, 28), (0, 10, 17, 13)], "booking")
theorem co_L_booking : Cond.codeWith yL_booking cL_booking mL_booking.1 mL_booking.2.1 mL_booking.2.2.1 ∈ TT := tt_t (i := 611) (by decide +kernel) rfl
theorem sm_L_booking : Cond.static yL_booking ∈ TT := tt_t (i := 610) (by decide +kernel) rfl
theorem ds_L_booking : yL_booking.cls ≠ "java/lang/invoke/MethodHandle" ∧ yL_booking.cls ≠ "java/lang/invoke/VarHandle" ∧ (parseMethodDescriptor yL_booking.desc).map (fun d => d.parameters.length) = some 4 := by decide +kernel
def mL_addRoom : MT := (7, (some .int), [(0, 14, 17, 13), (0, 14, 21, 15)], "addRoom")
theorem co_L_addRoom : Cond.codeWith yL_addRoom cL_addRoom mL_addRoom.1 mL_addRoom.2.1 mL_addRoom.2.2.1 ∈ TT := tt_t (i := 632) (by decide +kernel) rfl
theorem sm_L_addRoom : Cond.static yL_addRoom ∈ TT := tt_t (i := 631) (by decide +kernel) rfl
theorem ds_L_addRoom : yL_addRoom.cls ≠ "java/lang/invoke/MethodHandle" ∧ yL_addRoom.cls ≠ "java/lang/invoke/VarHandle" ∧ (parseMethodDescriptor yL_addRoom.desc).map (fun d => d.parameters.length) = some 6 := by decide +kernel
def mL_addGroup : MT := (3, (some .int), [(0, 8, 11, 15)], "addGroup")
theorem co_L_addGroup : Cond.codeWith yL_addGroup cL_addGroup mL_addGroup.1 mL_addGroup.2.1 mL_addGroup.2.2.1 ∈ TT := tt_t (i := 647) (by decide +kernel) rfl
theorem sm_L_addGroup : Cond.static yL_addGroup ∈ TT := tt_t (i := 646) (by decide +kernel) rfl
theorem ds_L_addGroup : yL_addGroup.cls ≠ "java/lang/invoke/MethodHandle" ∧ yL_addGroup.cls ≠ "java/lang/invoke/VarHandle" ∧ (parseMethodDescriptor yL_addGroup.desc).map (fun d => d.parameters.length) = some 2 := by decide +kernel
def mL_book : MT := (8, (some .int), [(0, 16, 19, 28), (0, 16, 23, 13), (0, 16, 27, 15)], "book")
theorem co_L_book : Cond.codeWith yL_book cL_book mL_book.1 mL_book.2.1 mL_book.2.2.1 ∈ TT := tt_t (i := 656) (by decide +kernel) rfl
theorem sm_L_book : Cond.static yL_book ∈ TT := tt_t (i := 655) (by decide +kernel) rfl
theorem ds_L_book : yL_book.cls ≠ "java/lang/invoke/MethodHandle" ∧ yL_book.cls ≠ "java/lang/invoke/VarHandle" ∧ (parseMethodDescriptor yL_book.desc).map (fun d => d.parameters.length) = some 7 := by decide +kernel
def mL_cancel : MT := (4, (some .int), [(0, 9, 12, 28), (0, 9, 15, 15)], "cancel")
theorem co_L_cancel : Cond.codeWith yL_cancel cL_cancel mL_cancel.1 mL_cancel.2.1 mL_cancel.2.2.1 ∈ TT := tt_t (i := 670) (by decide +kernel) rfl
theorem sm_L_cancel : Cond.static yL_cancel ∈ TT := tt_t (i := 669) (by decide +kernel) rfl
theorem ds_L_cancel : yL_cancel.cls ≠ "java/lang/invoke/MethodHandle" ∧ yL_cancel.cls ≠ "java/lang/invoke/VarHandle" ∧ (parseMethodDescriptor yL_cancel.desc).map (fun d => d.parameters.length) = some 3 := by decide +kernel
def mL_prove : MT := (5, (some .int), [(0, 10, 13, 28), (0, 10, 17, 15)], "prove")
theorem co_L_prove : Cond.codeWith yL_prove cL_prove mL_prove.1 mL_prove.2.1 mL_prove.2.2.1 ∈ TT := tt_t (i := 686) (by decide +kernel) rfl
theorem sm_L_prove : Cond.static yL_prove ∈ TT := tt_t (i := 685) (by decide +kernel) rfl
theorem ds_L_prove : yL_prove.cls ≠ "java/lang/invoke/MethodHandle" ∧ yL_prove.cls ≠ "java/lang/invoke/VarHandle" ∧ (parseMethodDescriptor yL_prove.desc).map (fun d => d.parameters.length) = some 4 := by decide +kernel
def mL_outside : MT := (4, (some .int), [(0, 9, 12, 13)], "outside")
theorem co_L_outside : Cond.codeWith yL_outside cL_outside mL_outside.1 mL_outside.2.1 mL_outside.2.2.1 ∈ TT := tt_t (i := 698) (by decide +kernel) rfl
theorem sm_L_outside : Cond.static yL_outside ∈ TT := tt_t (i := 697) (by decide +kernel) rfl
theorem ds_L_outside : yL_outside.cls ≠ "java/lang/invoke/MethodHandle" ∧ yL_outside.cls ≠ "java/lang/invoke/VarHandle" ∧ (parseMethodDescriptor yL_outside.desc).map (fun d => d.parameters.length) = some 3 := by decide +kernel
def mL_pay : MT := (4, (some .int), [(0, 9, 12, 28)], "pay")
theorem co_L_pay : Cond.codeWith yL_pay cL_pay mL_pay.1 mL_pay.2.1 mL_pay.2.2.1 ∈ TT := tt_t (i := 705) (by decide +kernel) rfl
theorem sm_L_pay : Cond.static yL_pay ∈ TT := tt_t (i := 704) (by decide +kernel) rfl
theorem ds_L_pay : yL_pay.cls ≠ "java/lang/invoke/MethodHandle" ∧ yL_pay.cls ≠ "java/lang/invoke/VarHandle" ∧ (parseMethodDescriptor yL_pay.desc).map (fun d => d.parameters.length) = some 3 := by decide +kernel
def mL_pass : MT := (4, (some .int), [(0, 9, 12, 13), (0, 9, 15, 15)], "pass")
theorem co_L_pass : Cond.codeWith yL_pass cL_pass mL_pass.1 mL_pass.2.1 mL_pass.2.2.1 ∈ TT := tt_t (i := 716) (by decide +kernel) rfl
theorem sm_L_pass : Cond.static yL_pass ∈ TT := tt_t (i := 715) (by decide +kernel) rfl
theorem ds_L_pass : yL_pass.cls ≠ "java/lang/invoke/MethodHandle" ∧ yL_pass.cls ≠ "java/lang/invoke/VarHandle" ∧ (parseMethodDescriptor yL_pass.desc).map (fun d => d.parameters.length) = some 3 := by decide +kernel
def mL_undo : MT := (3, (some .int), [(0, 8, 11, 15)], "undo")
theorem co_L_undo : Cond.codeWith yL_undo cL_undo mL_undo.1 mL_undo.2.1 mL_undo.2.2.1 ∈ TT := tt_t (i := 724) (by decide +kernel) rfl
theorem sm_L_undo : Cond.static yL_undo ∈ TT := tt_t (i := 723) (by decide +kernel) rfl
theorem ds_L_undo : yL_undo.cls ≠ "java/lang/invoke/MethodHandle" ∧ yL_undo.cls ≠ "java/lang/invoke/VarHandle" ∧ (parseMethodDescriptor yL_undo.desc).map (fun d => d.parameters.length) = some 2 := by decide +kernel
def mL_later : MT := (5, (some .int), [(0, 10, 13, 28), (0, 10, 17, 13)], "later")
theorem co_L_later : Cond.codeWith yL_later cL_later mL_later.1 mL_later.2.1 mL_later.2.2.1 ∈ TT := tt_t (i := 736) (by decide +kernel) rfl
theorem sm_L_later : Cond.static yL_later ∈ TT := tt_t (i := 735) (by decide +kernel) rfl
theorem ds_L_later : yL_later.cls ≠ "java/lang/invoke/MethodHandle" ∧ yL_later.cls ≠ "java/lang/invoke/VarHandle" ∧ (parseMethodDescriptor yL_later.desc).map (fun d => d.parameters.length) = some 4 := by decide +kernel
def mL_begins : MT := (4, (some .int), [(0, 9, 12, 28)], "begins")
theorem co_L_begins : Cond.codeWith yL_begins cL_begins mL_begins.1 mL_begins.2.1 mL_begins.2.2.1 ∈ TT := tt_t (i := 743) (by decide +kernel) rfl
theorem sm_L_begins : Cond.static yL_begins ∈ TT := tt_t (i := 742) (by decide +kernel) rfl
theorem ds_L_begins : yL_begins.cls ≠ "java/lang/invoke/MethodHandle" ∧ yL_begins.cls ≠ "java/lang/invoke/VarHandle" ∧ (parseMethodDescriptor yL_begins.desc).map (fun d => d.parameters.length) = some 3 := by decide +kernel
def mL_cost : MT := (8, (some .int), [(0, 16, 19, 28), (0, 16, 23, 13)], "cost")
theorem co_L_cost : Cond.codeWith yL_cost cL_cost mL_cost.1 mL_cost.2.1 mL_cost.2.2.1 ∈ TT := tt_t (i := 752) (by decide +kernel) rfl
theorem sm_L_cost : Cond.static yL_cost ∈ TT := tt_t (i := 751) (by decide +kernel) rfl
theorem ds_L_cost : yL_cost.cls ≠ "java/lang/invoke/MethodHandle" ∧ yL_cost.cls ≠ "java/lang/invoke/VarHandle" ∧ (parseMethodDescriptor yL_cost.desc).map (fun d => d.parameters.length) = some 7 := by decide +kernel
def mL_willOwe : MT := (4, (some .int), [(0, 9, 12, 28)], "willOwe")
theorem co_L_willOwe : Cond.codeWith yL_willOwe cL_willOwe mL_willOwe.1 mL_willOwe.2.1 mL_willOwe.2.2.1 ∈ TT := tt_t (i := 759) (by decide +kernel) rfl
theorem sm_L_willOwe : Cond.static yL_willOwe ∈ TT := tt_t (i := 758) (by decide +kernel) rfl
theorem ds_L_willOwe : yL_willOwe.cls ≠ "java/lang/invoke/MethodHandle" ∧ yL_willOwe.cls ≠ "java/lang/invoke/VarHandle" ∧ (parseMethodDescriptor yL_willOwe.desc).map (fun d => d.parameters.length) = some 3 := by decide +kernel
def mL_runScript : MT := (6, (some .int), [(0, 11, 14, 13)], "runScript")
theorem co_L_runScript : Cond.codeWith yL_runScript cL_runScript mL_runScript.1 mL_runScript.2.1 mL_runScript.2.2.1 ∈ TT := tt_t (i := 766) (by decide +kernel) rfl
theorem sm_L_runScript : Cond.static yL_runScript ∈ TT := tt_t (i := 765) (by decide +kernel) rfl
theorem ds_L_runScript : yL_runScript.cls ≠ "java/lang/invoke/MethodHandle" ∧ yL_runScript.cls ≠ "java/lang/invoke/VarHandle" ∧ (parseMethodDescriptor yL_runScript.desc).map (fun d => d.parameters.length) = some 4 := by decide +kernel
def mL_simulate : MT := (6, (some .int), [(0, 11, 14, 13)], "simulate")
theorem co_L_simulate : Cond.codeWith yL_simulate cL_simulate mL_simulate.1 mL_simulate.2.1 mL_simulate.2.2.1 ∈ TT := tt_t (i := 825) (by decide +kernel) rfl
theorem sm_L_simulate : Cond.static yL_simulate ∈ TT := tt_t (i := 824) (by decide +kernel) rfl
theorem ds_L_simulate : yL_simulate.cls ≠ "java/lang/invoke/MethodHandle" ∧ yL_simulate.cls ≠ "java/lang/invoke/VarHandle" ∧ (parseMethodDescriptor yL_simulate.desc).map (fun d => d.parameters.length) = some 4 := by decide +kernel
def mL_save : MT := (4, (some .int), [(0, 9, 12, 28)], "save")
theorem co_L_save : Cond.codeWith yL_save cL_save mL_save.1 mL_save.2.1 mL_save.2.2.1 ∈ TT := tt_t (i := 840) (by decide +kernel) rfl
theorem sm_L_save : Cond.static yL_save ∈ TT := tt_t (i := 839) (by decide +kernel) rfl
theorem ds_L_save : yL_save.cls ≠ "java/lang/invoke/MethodHandle" ∧ yL_save.cls ≠ "java/lang/invoke/VarHandle" ∧ (parseMethodDescriptor yL_save.desc).map (fun d => d.parameters.length) = some 3 := by decide +kernel
def mL_restore : MT := (4, (some .int), [(0, 9, 12, 28), (0, 9, 15, 15)], "restore")
theorem co_L_restore : Cond.codeWith yL_restore cL_restore mL_restore.1 mL_restore.2.1 mL_restore.2.2.1 ∈ TT := tt_t (i := 851) (by decide +kernel) rfl
theorem sm_L_restore : Cond.static yL_restore ∈ TT := tt_t (i := 850) (by decide +kernel) rfl
theorem ds_L_restore : yL_restore.cls ≠ "java/lang/invoke/MethodHandle" ∧ yL_restore.cls ≠ "java/lang/invoke/VarHandle" ∧ (parseMethodDescriptor yL_restore.desc).map (fun d => d.parameters.length) = some 3 := by decide +kernel
theorem in_X0 : Cond.initialized RX0 ∈ TT := tt_t (i := 5) (by decide +kernel) rfl
theorem ins_X0 : Cond.instantiable (clR 0) (nF 0) ∈ TT := tt_t (i := 78) (by decide +kernel) rfl
theorem in_X1 : Cond.initialized RX1 ∈ TT := tt_t (i := 7) (by decide +kernel) rfl
theorem ins_X1 : Cond.instantiable (clR 1) (nF 1) ∈ TT := tt_t (i := 197) (by decide +kernel) rfl
theorem in_X2 : Cond.initialized RX2 ∈ TT := tt_t (i := 3) (by decide +kernel) rfl
theorem ins_X2 : Cond.instantiable (clR 2) (nF 2) ∈ TT := tt_t (i := 47) (by decide +kernel) rfl
theorem in_X3 : Cond.initialized RX3 ∈ TT := tt_t (i := 2) (by decide +kernel) rfl
theorem ins_X3 : Cond.instantiable (clR 3) (nF 3) ∈ TT := tt_t (i := 26) (by decide +kernel) rfl
theorem in_X4 : Cond.initialized RX4 ∈ TT := tt_t (i := 6) (by decide +kernel) rfl
theorem ins_X4 : Cond.instantiable (clR 4) (nF 4) ∈ TT := tt_t (i := 177) (by decide +kernel) rfl
theorem in_X5 : Cond.initialized RX5 ∈ TT := tt_t (i := 4) (by decide +kernel) rfl
theorem ins_X5 : Cond.instantiable (clR 5) (nF 5) ∈ TT := tt_t (i := 56) (by decide +kernel) rfl
theorem in_X6 : Cond.initialized RX6 ∈ TT := tt_t (i := 1) (by decide +kernel) rfl
theorem ins_X6 : Cond.instantiable (clR 6) (nF 6) ∈ TT := tt_t (i := 18) (by decide +kernel) rfl
theorem in_X7 : Cond.initialized RX7 ∈ TT := tt_t (i := 8) (by decide +kernel) rfl
theorem ins_X7 : Cond.instantiable (clR 7) (nF 7) ∈ TT := tt_t (i := 858) (by decide +kernel) rfl
theorem in_L : Cond.initialized RL ∈ TT := tt_t (i := 0) (by decide +kernel) rfl
theorem vl_L_7 : VL RL 7 yX6_append cX6_append mX6_append 1 6 := ⟨tt_t (i := 434) (by decide +kernel) rfl, im_X6_append, se_X6_append, in_X6, co_X6_append, ds_X6_append, by decide, rfl⟩
theorem cl_L_8 : Cond.classLink RL 8 (clR 6) ∈ TT := tt_t (i := 17) (by decide +kernel) rfl
theorem vl_L_17 : VL RL 17 yX6_load cX6_load mX6_load 0 6 := ⟨tt_t (i := 532) (by decide +kernel) rfl, im_X6_load, se_X6_load, in_X6, co_X6_load, ds_X6_load, by decide, rfl⟩
theorem vl_L_21 : VL RL 21 yX6_about cX6_about mX6_about 1 6 := ⟨tt_t (i := 544) (by decide +kernel) rfl, im_X6_about, se_X6_about, in_X6, co_X6_about, ds_X6_about, by decide, rfl⟩
theorem vl_L_24 : VL RL 24 yX6_room cX6_room mX6_room 2 6 := ⟨tt_t (i := 556) (by decide +kernel) rfl, im_X6_room, se_X6_room, in_X6, co_X6_room, ds_X6_room, by decide, rfl⟩
theorem vl_L_30 : VL RL 30 yX6_owes cX6_owes mX6_owes 1 6 := ⟨tt_t (i := 591) (by decide +kernel) rfl, im_X6_owes, se_X6_owes, in_X6, co_X6_owes, ds_X6_owes, by decide, rfl⟩
theorem vl_L_33 : VL RL 33 yX6_booking cX6_booking mX6_booking 2 6 := ⟨tt_t (i := 612) (by decide +kernel) rfl, im_X6_booking, se_X6_booking, in_X6, co_X6_booking, ds_X6_booking, by decide, rfl⟩
theorem vl_L_36 : VL RL 36 yX6_addRoom cX6_addRoom mX6_addRoom 4 6 := ⟨tt_t (i := 633) (by decide +kernel) rfl, im_X6_addRoom, se_X6_addRoom, in_X6, co_X6_addRoom, ds_X6_addRoom, by decide, rfl⟩
theorem vl_L_40 : VL RL 40 yX6_addGroup cX6_addGroup mX6_addGroup 0 6 := ⟨tt_t (i := 648) (by decide +kernel) rfl, im_X6_addGroup, se_X6_addGroup, in_X6, co_X6_addGroup, ds_X6_addGroup, by decide, rfl⟩
theorem vl_L_43 : VL RL 43 yX6_book cX6_book mX6_book 5 6 := ⟨tt_t (i := 657) (by decide +kernel) rfl, im_X6_book, se_X6_book, in_X6, co_X6_book, ds_X6_book, by decide, rfl⟩
theorem vl_L_47 : VL RL 47 yX6_cancel cX6_cancel mX6_cancel 1 6 := ⟨tt_t (i := 671) (by decide +kernel) rfl, im_X6_cancel, se_X6_cancel, in_X6, co_X6_cancel, ds_X6_cancel, by decide, rfl⟩
theorem vl_L_50 : VL RL 50 yX6_prove cX6_prove mX6_prove 2 6 := ⟨tt_t (i := 687) (by decide +kernel) rfl, im_X6_prove, se_X6_prove, in_X6, co_X6_prove, ds_X6_prove, by decide, rfl⟩
theorem vl_L_54 : VL RL 54 yX6_outside cX6_outside mX6_outside 1 6 := ⟨tt_t (i := 699) (by decide +kernel) rfl, im_X6_outside, se_X6_outside, in_X6, co_X6_outside, ds_X6_outside, by decide, rfl⟩
theorem vl_L_57 : VL RL 57 yX6_pay cX6_pay mX6_pay 1 6 := ⟨tt_t (i := 706) (by decide +kernel) rfl, im_X6_pay, se_X6_pay, in_X6, co_X6_pay, ds_X6_pay, by decide, rfl⟩
theorem vl_L_60 : VL RL 60 yX6_pass cX6_pass mX6_pass 1 6 := ⟨tt_t (i := 717) (by decide +kernel) rfl, im_X6_pass, se_X6_pass, in_X6, co_X6_pass, ds_X6_pass, by decide, rfl⟩
theorem vl_L_63 : VL RL 63 yX6_undo cX6_undo mX6_undo 0 6 := ⟨tt_t (i := 725) (by decide +kernel) rfl, im_X6_undo, se_X6_undo, in_X6, co_X6_undo, ds_X6_undo, by decide, rfl⟩
theorem vl_L_66 : VL RL 66 yX6_later cX6_later mX6_later 2 6 := ⟨tt_t (i := 737) (by decide +kernel) rfl, im_X6_later, se_X6_later, in_X6, co_X6_later, ds_X6_later, by decide, rfl⟩
theorem vl_L_69 : VL RL 69 yX6_begins cX6_begins mX6_begins 1 6 := ⟨tt_t (i := 744) (by decide +kernel) rfl, im_X6_begins, se_X6_begins, in_X6, co_X6_begins, ds_X6_begins, by decide, rfl⟩
theorem vl_L_72 : VL RL 72 yX6_cost cX6_cost mX6_cost 5 6 := ⟨tt_t (i := 753) (by decide +kernel) rfl, im_X6_cost, se_X6_cost, in_X6, co_X6_cost, ds_X6_cost, by decide, rfl⟩
theorem vl_L_75 : VL RL 75 yX6_willOwe cX6_willOwe mX6_willOwe 1 6 := ⟨tt_t (i := 760) (by decide +kernel) rfl, im_X6_willOwe, se_X6_willOwe, in_X6, co_X6_willOwe, ds_X6_willOwe, by decide, rfl⟩
theorem vl_L_78 : VL RL 78 yX6_runScript cX6_runScript mX6_runScript 2 6 := ⟨tt_t (i := 767) (by decide +kernel) rfl, im_X6_runScript, se_X6_runScript, in_X6, co_X6_runScript, ds_X6_runScript, by decide, rfl⟩
theorem vl_L_82 : VL RL 82 yX6_simulate cX6_simulate mX6_simulate 2 6 := ⟨tt_t (i := 826) (by decide +kernel) rfl, im_X6_simulate, se_X6_simulate, in_X6, co_X6_simulate, ds_X6_simulate, by decide, rfl⟩
theorem vl_L_86 : VL RL 86 yX6_save cX6_save mX6_save 1 6 := ⟨tt_t (i := 841) (by decide +kernel) rfl, im_X6_save, se_X6_save, in_X6, co_X6_save, ds_X6_save, by decide, rfl⟩
theorem vl_L_89 : VL RL 89 yX6_restore cX6_restore mX6_restore 1 6 := ⟨tt_t (i := 852) (by decide +kernel) rfl, im_X6_restore, se_X6_restore, in_X6, co_X6_restore, ds_X6_restore, by decide, rfl⟩
theorem il_L_92 : IL RL 92 yX6_init cX6_init mX6_init 0 := ⟨Or.inl (tt_t (i := 19) (by decide +kernel) rfl), im_X6_init, rfl, in_X6, co_X6_init, rfl, ds_X6_init⟩
theorem cl_L_93 : Cond.classLink RL 93 (clR 7) ∈ TT := tt_t (i := 857) (by decide +kernel) rfl
theorem il_L_95 : IL RL 95 yX7_init cX7_init mX7_init 0 := ⟨Or.inl (tt_t (i := 859) (by decide +kernel) rfl), im_X7_init, rfl, in_X7, co_X7_init, rfl, ds_X7_init⟩
theorem sl_L_96 : SLH RL 96 yL_append cL_append mL_append 3 := ⟨tt_t (i := 429) (by decide +kernel) rfl, sm_L_append, in_L, co_L_append, ds_L_append⟩
theorem vl_L_101 : VL RL 101 yX7_append cX7_append mX7_append 1 7 := ⟨tt_t (i := 907) (by decide +kernel) rfl, im_X7_append, se_X7_append, in_X7, co_X7_append, ds_X7_append, by decide, rfl⟩
theorem vl_L_102 : VL RL 102 yX7_thrown cX7_thrown mX7_thrown 0 7 := ⟨tt_t (i := 903) (by decide +kernel) rfl, im_X7_thrown, se_X7_thrown, in_X7, co_X7_thrown, ds_X7_thrown, by decide, rfl⟩
theorem vl_L_105 : VL RL 105 yX6_clearText cX6_clearText mX6_clearText 0 6 := ⟨tt_t (i := 244) (by decide +kernel) rfl, im_X6_clearText, se_X6_clearText, in_X6, co_X6_clearText, ds_X6_clearText, by decide, rfl⟩
theorem vl_L_108 : VL RL 108 yX7_clearText cX7_clearText mX7_clearText 0 7 := ⟨tt_t (i := 919) (by decide +kernel) rfl, im_X7_clearText, se_X7_clearText, in_X7, co_X7_clearText, ds_X7_clearText, by decide, rfl⟩
theorem vl_L_109 : VL RL 109 yX6_errorPosition cX6_errorPosition mX6_errorPosition 0 6 := ⟨tt_t (i := 248) (by decide +kernel) rfl, im_X6_errorPosition, se_X6_errorPosition, in_X6, co_X6_errorPosition, ds_X6_errorPosition, by decide, rfl⟩
theorem vl_L_112 : VL RL 112 yX7_errorPosition cX7_errorPosition mX7_errorPosition 0 7 := ⟨tt_t (i := 923) (by decide +kernel) rfl, im_X7_errorPosition, se_X7_errorPosition, in_X7, co_X7_errorPosition, ds_X7_errorPosition, by decide, rfl⟩
theorem sl_L_113 : SLH RL 113 yL_load cL_load mL_load 2 := ⟨tt_t (i := 529) (by decide +kernel) rfl, sm_L_load, in_L, co_L_load, ds_L_load⟩
theorem vl_L_116 : VL RL 116 yX7_load cX7_load mX7_load 0 7 := ⟨tt_t (i := 978) (by decide +kernel) rfl, im_X7_load, se_X7_load, in_X7, co_X7_load, ds_X7_load, by decide, rfl⟩
theorem sl_L_117 : SLH RL 117 yL_about cL_about mL_about 3 := ⟨tt_t (i := 541) (by decide +kernel) rfl, sm_L_about, in_L, co_L_about, ds_L_about⟩
theorem vl_L_119 : VL RL 119 yX7_about cX7_about mX7_about 1 7 := ⟨tt_t (i := 985) (by decide +kernel) rfl, im_X7_about, se_X7_about, in_X7, co_X7_about, ds_X7_about, by decide, rfl⟩
theorem sl_L_120 : SLH RL 120 yL_room cL_room mL_room 4 := ⟨tt_t (i := 552) (by decide +kernel) rfl, sm_L_room, in_L, co_L_room, ds_L_room⟩
theorem vl_L_123 : VL RL 123 yX7_room cX7_room mX7_room 2 7 := ⟨tt_t (i := 989) (by decide +kernel) rfl, im_X7_room, se_X7_room, in_X7, co_X7_room, ds_X7_room, by decide, rfl⟩
theorem sl_L_124 : SLH RL 124 yL_owes cL_owes mL_owes 3 := ⟨tt_t (i := 588) (by decide +kernel) rfl, sm_L_owes, in_L, co_L_owes, ds_L_owes⟩
theorem vl_L_126 : VL RL 126 yX7_owes cX7_owes mX7_owes 1 7 := ⟨tt_t (i := 1016) (by decide +kernel) rfl, im_X7_owes, se_X7_owes, in_X7, co_X7_owes, ds_X7_owes, by decide, rfl⟩
theorem sl_L_127 : SLH RL 127 yL_booking cL_booking mL_booking 4 := ⟨tt_t (i := 609) (by decide +kernel) rfl, sm_L_booking, in_L, co_L_booking, ds_L_booking⟩
theorem vl_L_129 : VL RL 129 yX7_booking cX7_booking mX7_booking 2 7 := ⟨tt_t (i := 1024) (by decide +kernel) rfl, im_X7_booking, se_X7_booking, in_X7, co_X7_booking, ds_X7_booking, by decide, rfl⟩
theorem sl_L_130 : SLH RL 130 yL_addRoom cL_addRoom mL_addRoom 6 := ⟨tt_t (i := 630) (by decide +kernel) rfl, sm_L_addRoom, in_L, co_L_addRoom, ds_L_addRoom⟩
theorem vl_L_133 : VL RL 133 yX7_addRoom cX7_addRoom mX7_addRoom 4 7 := ⟨tt_t (i := 1032) (by decide +kernel) rfl, im_X7_addRoom, se_X7_addRoom, in_X7, co_X7_addRoom, ds_X7_addRoom, by decide, rfl⟩
theorem sl_L_134 : SLH RL 134 yL_addGroup cL_addGroup mL_addGroup 2 := ⟨tt_t (i := 645) (by decide +kernel) rfl, sm_L_addGroup, in_L, co_L_addGroup, ds_L_addGroup⟩
theorem vl_L_136 : VL RL 136 yX7_addGroup cX7_addGroup mX7_addGroup 0 7 := ⟨tt_t (i := 1042) (by decide +kernel) rfl, im_X7_addGroup, se_X7_addGroup, in_X7, co_X7_addGroup, ds_X7_addGroup, by decide, rfl⟩
theorem sl_L_137 : SLH RL 137 yL_book cL_book mL_book 7 := ⟨tt_t (i := 654) (by decide +kernel) rfl, sm_L_book, in_L, co_L_book, ds_L_book⟩
theorem vl_L_140 : VL RL 140 yX7_book cX7_book mX7_book 5 7 := ⟨tt_t (i := 1046) (by decide +kernel) rfl, im_X7_book, se_X7_book, in_X7, co_X7_book, ds_X7_book, by decide, rfl⟩
theorem sl_L_141 : SLH RL 141 yL_cancel cL_cancel mL_cancel 3 := ⟨tt_t (i := 668) (by decide +kernel) rfl, sm_L_cancel, in_L, co_L_cancel, ds_L_cancel⟩
theorem vl_L_143 : VL RL 143 yX7_cancel cX7_cancel mX7_cancel 1 7 := ⟨tt_t (i := 1060) (by decide +kernel) rfl, im_X7_cancel, se_X7_cancel, in_X7, co_X7_cancel, ds_X7_cancel, by decide, rfl⟩
theorem sl_L_144 : SLH RL 144 yL_prove cL_prove mL_prove 4 := ⟨tt_t (i := 684) (by decide +kernel) rfl, sm_L_prove, in_L, co_L_prove, ds_L_prove⟩
theorem vl_L_147 : VL RL 147 yX7_prove cX7_prove mX7_prove 2 7 := ⟨tt_t (i := 1070) (by decide +kernel) rfl, im_X7_prove, se_X7_prove, in_X7, co_X7_prove, ds_X7_prove, by decide, rfl⟩
theorem sl_L_148 : SLH RL 148 yL_outside cL_outside mL_outside 3 := ⟨tt_t (i := 696) (by decide +kernel) rfl, sm_L_outside, in_L, co_L_outside, ds_L_outside⟩
theorem vl_L_150 : VL RL 150 yX7_outside cX7_outside mX7_outside 1 7 := ⟨tt_t (i := 1074) (by decide +kernel) rfl, im_X7_outside, se_X7_outside, in_X7, co_X7_outside, ds_X7_outside, by decide, rfl⟩
theorem sl_L_151 : SLH RL 151 yL_pay cL_pay mL_pay 3 := ⟨tt_t (i := 703) (by decide +kernel) rfl, sm_L_pay, in_L, co_L_pay, ds_L_pay⟩
theorem vl_L_153 : VL RL 153 yX7_pay cX7_pay mX7_pay 1 7 := ⟨tt_t (i := 1082) (by decide +kernel) rfl, im_X7_pay, se_X7_pay, in_X7, co_X7_pay, ds_X7_pay, by decide, rfl⟩
theorem sl_L_154 : SLH RL 154 yL_pass cL_pass mL_pass 3 := ⟨tt_t (i := 714) (by decide +kernel) rfl, sm_L_pass, in_L, co_L_pass, ds_L_pass⟩
theorem vl_L_156 : VL RL 156 yX7_pass cX7_pass mX7_pass 1 7 := ⟨tt_t (i := 1086) (by decide +kernel) rfl, im_X7_pass, se_X7_pass, in_X7, co_X7_pass, ds_X7_pass, by decide, rfl⟩
theorem sl_L_157 : SLH RL 157 yL_undo cL_undo mL_undo 2 := ⟨tt_t (i := 722) (by decide +kernel) rfl, sm_L_undo, in_L, co_L_undo, ds_L_undo⟩
theorem vl_L_159 : VL RL 159 yX7_undo cX7_undo mX7_undo 0 7 := ⟨tt_t (i := 1106) (by decide +kernel) rfl, im_X7_undo, se_X7_undo, in_X7, co_X7_undo, ds_X7_undo, by decide, rfl⟩
theorem sl_L_160 : SLH RL 160 yL_later cL_later mL_later 4 := ⟨tt_t (i := 734) (by decide +kernel) rfl, sm_L_later, in_L, co_L_later, ds_L_later⟩
theorem vl_L_162 : VL RL 162 yX7_later cX7_later mX7_later 2 7 := ⟨tt_t (i := 1110) (by decide +kernel) rfl, im_X7_later, se_X7_later, in_X7, co_X7_later, ds_X7_later, by decide, rfl⟩
theorem sl_L_163 : SLH RL 163 yL_begins cL_begins mL_begins 3 := ⟨tt_t (i := 741) (by decide +kernel) rfl, sm_L_begins, in_L, co_L_begins, ds_L_begins⟩
theorem vl_L_165 : VL RL 165 yX7_begins cX7_begins mX7_begins 1 7 := ⟨tt_t (i := 1118) (by decide +kernel) rfl, im_X7_begins, se_X7_begins, in_X7, co_X7_begins, ds_X7_begins, by decide, rfl⟩
theorem sl_L_166 : SLH RL 166 yL_cost cL_cost mL_cost 7 := ⟨tt_t (i := 750) (by decide +kernel) rfl, sm_L_cost, in_L, co_L_cost, ds_L_cost⟩
theorem vl_L_168 : VL RL 168 yX7_cost cX7_cost mX7_cost 5 7 := ⟨tt_t (i := 1122) (by decide +kernel) rfl, im_X7_cost, se_X7_cost, in_X7, co_X7_cost, ds_X7_cost, by decide, rfl⟩
theorem sl_L_169 : SLH RL 169 yL_willOwe cL_willOwe mL_willOwe 3 := ⟨tt_t (i := 757) (by decide +kernel) rfl, sm_L_willOwe, in_L, co_L_willOwe, ds_L_willOwe⟩
theorem vl_L_171 : VL RL 171 yX7_willOwe cX7_willOwe mX7_willOwe 1 7 := ⟨tt_t (i := 1126) (by decide +kernel) rfl, im_X7_willOwe, se_X7_willOwe, in_X7, co_X7_willOwe, ds_X7_willOwe, by decide, rfl⟩
theorem vl_L_172 : VL RL 172 yX6_coldest cX6_coldest mX6_coldest 0 6 := ⟨tt_t (i := 324) (by decide +kernel) rfl, im_X6_coldest, se_X6_coldest, in_X6, co_X6_coldest, ds_X6_coldest, by decide, rfl⟩
theorem vl_L_175 : VL RL 175 yX7_coldest cX7_coldest mX7_coldest 0 7 := ⟨tt_t (i := 1133) (by decide +kernel) rfl, im_X7_coldest, se_X7_coldest, in_X7, co_X7_coldest, ds_X7_coldest, by decide, rfl⟩
theorem kl_L_176 : Cond.constantLong RL 176 (4294967295) ∈ TT := tt_t (i := 1170) (by decide +kernel) rfl
theorem sl_L_178 : SLH RL 178 yL_runScript cL_runScript mL_runScript 4 := ⟨tt_t (i := 764) (by decide +kernel) rfl, sm_L_runScript, in_L, co_L_runScript, ds_L_runScript⟩
theorem vl_L_181 : VL RL 181 yX7_runScript cX7_runScript mX7_runScript 2 7 := ⟨tt_t (i := 1137) (by decide +kernel) rfl, im_X7_runScript, se_X7_runScript, in_X7, co_X7_runScript, ds_X7_runScript, by decide, rfl⟩
theorem sl_L_182 : SLH RL 182 yL_simulate cL_simulate mL_simulate 4 := ⟨tt_t (i := 823) (by decide +kernel) rfl, sm_L_simulate, in_L, co_L_simulate, ds_L_simulate⟩
theorem vl_L_185 : VL RL 185 yX7_simulate cX7_simulate mX7_simulate 2 7 := ⟨tt_t (i := 1151) (by decide +kernel) rfl, im_X7_simulate, se_X7_simulate, in_X7, co_X7_simulate, ds_X7_simulate, by decide, rfl⟩
theorem sl_L_186 : SLH RL 186 yL_save cL_save mL_save 3 := ⟨tt_t (i := 838) (by decide +kernel) rfl, sm_L_save, in_L, co_L_save, ds_L_save⟩
theorem vl_L_188 : VL RL 188 yX7_save cX7_save mX7_save 1 7 := ⟨tt_t (i := 1162) (by decide +kernel) rfl, im_X7_save, se_X7_save, in_X7, co_X7_save, ds_X7_save, by decide, rfl⟩
theorem sl_L_189 : SLH RL 189 yL_restore cL_restore mL_restore 3 := ⟨tt_t (i := 849) (by decide +kernel) rfl, sm_L_restore, in_L, co_L_restore, ds_L_restore⟩
theorem vl_L_191 : VL RL 191 yX7_restore cX7_restore mX7_restore 1 7 := ⟨tt_t (i := 1166) (by decide +kernel) rfl, im_X7_restore, se_X7_restore, in_X7, co_X7_restore, ds_X7_restore, by decide, rfl⟩
theorem jl_0_1 : Cond.methodLink RX0 1 Lib.objectInit ∈ TT := tt_t (i := 82) (by decide +kernel) rfl
theorem fl_0_7 : FL RX0 7 0 0 := ⟨by decide, by decide, tt_t (i := 83) (by decide +kernel) rfl⟩
theorem fI_0_7 : FI RX0 7 0 0 := ⟨fl_0_7, by decide⟩
theorem fP_0_7 : FP RX0 7 0 0 .int := ⟨fl_0_7, by decide, by decide, by decide +kernel⟩
theorem fl_0_13 : FL RX0 13 0 1 := ⟨by decide, by decide, tt_t (i := 86) (by decide +kernel) rfl⟩
theorem fI_0_13 : FI RX0 13 0 1 := ⟨fl_0_13, by decide⟩
theorem fP_0_13 : FP RX0 13 0 1 .int := ⟨fl_0_13, by decide, by decide, by decide +kernel⟩
theorem fl_0_16 : FL RX0 16 0 2 := ⟨by decide, by decide, tt_t (i := 88) (by decide +kernel) rfl⟩
theorem fI_0_16 : FI RX0 16 0 2 := ⟨fl_0_16, by decide⟩
theorem fP_0_16 : FP RX0 16 0 2 .int := ⟨fl_0_16, by decide, by decide, by decide +kernel⟩
theorem fl_0_19 : FL RX0 19 0 3 := ⟨by decide, by decide, tt_t (i := 90) (by decide +kernel) rfl⟩
theorem fI_0_19 : FI RX0 19 0 3 := ⟨fl_0_19, by decide⟩
theorem fP_0_19 : FP RX0 19 0 3 .int := ⟨fl_0_19, by decide, by decide, by decide +kernel⟩
theorem fl_0_22 : FL RX0 22 0 4 := ⟨by decide, by decide, tt_t (i := 91) (by decide +kernel) rfl⟩
theorem fI_0_22 : FI RX0 22 0 4 := ⟨fl_0_22, by decide⟩
theorem fP_0_22 : FP RX0 22 0 4 .int := ⟨fl_0_22, by decide, by decide, by decide +kernel⟩
theorem fl_0_25 : FL RX0 25 0 5 := ⟨by decide, by decide, tt_t (i := 93) (by decide +kernel) rfl⟩
theorem fI_0_25 : FI RX0 25 0 5 := ⟨fl_0_25, by decide⟩
theorem fP_0_25 : FP RX0 25 0 5 .boolean := ⟨fl_0_25, by decide, by decide, by decide +kernel⟩
theorem fl_0_29 : FL RX0 29 0 6 := ⟨by decide, by decide, tt_t (i := 95) (by decide +kernel) rfl⟩
theorem fI_0_29 : FI RX0 29 0 6 := ⟨fl_0_29, by decide⟩
theorem fP_0_29 : FP RX0 29 0 6 .int := ⟨fl_0_29, by decide, by decide, by decide +kernel⟩
theorem fl_0_32 : FL RX0 32 0 7 := ⟨by decide, by decide, tt_t (i := 97) (by decide +kernel) rfl⟩
theorem fI_0_32 : FI RX0 32 0 7 := ⟨fl_0_32, by decide⟩
theorem fP_0_32 : FP RX0 32 0 7 .int := ⟨fl_0_32, by decide, by decide, by decide +kernel⟩
theorem fl_0_35 : FL RX0 35 0 8 := ⟨by decide, by decide, tt_t (i := 99) (by decide +kernel) rfl⟩
theorem fI_0_35 : FI RX0 35 0 8 := ⟨fl_0_35, by decide⟩
theorem fP_0_35 : FP RX0 35 0 8 .boolean := ⟨fl_0_35, by decide, by decide, by decide +kernel⟩
theorem fl_0_38 : FL RX0 38 0 9 := ⟨by decide, by decide, tt_t (i := 101) (by decide +kernel) rfl⟩
theorem fI_0_38 : FI RX0 38 0 9 := ⟨fl_0_38, by decide⟩
theorem fP_0_38 : FP RX0 38 0 9 .int := ⟨fl_0_38, by decide, by decide, by decide +kernel⟩
theorem vl_0_41 : VL RX0 41 yX0_become cX0_become mX0_become 5 0 := ⟨tt_t (i := 348) (by decide +kernel) rfl, im_X0_become, se_X0_become, in_X0, co_X0_become, ds_X0_become, by decide, rfl⟩
theorem vl_0_45 : VL RX0 45 yX0_end cX0_end mX0_end 0 0 := ⟨tt_t (i := 312) (by decide +kernel) rfl, im_X0_end, se_X0_end, in_X0, co_X0_end, ds_X0_end, by decide, rfl⟩
theorem jl_1_3 : Cond.methodLink RX1 3 Lib.objectInit ∈ TT := tt_t (i := 201) (by decide +kernel) rfl
theorem kl_1_9 : Cond.constantLong RX1 9 (100000) ∈ TT := tt_t (i := 774) (by decide +kernel) rfl
theorem fl_1_11 : FL RX1 11 1 0 := ⟨by decide, by decide, tt_t (i := 202) (by decide +kernel) rfl⟩
theorem fI_1_11 : FI RX1 11 1 0 := ⟨fl_1_11, by decide⟩
theorem fP_1_11 : FP RX1 11 1 0 .int := ⟨fl_1_11, by decide, by decide, by decide +kernel⟩
theorem fl_1_17 : FL RX1 17 1 1 := ⟨by decide, by decide, tt_t (i := 203) (by decide +kernel) rfl⟩
theorem fI_1_17 : FI RX1 17 1 1 := ⟨fl_1_17, by decide⟩
theorem fP_1_17 : FP RX1 17 1 1 .int := ⟨fl_1_17, by decide, by decide, by decide +kernel⟩
theorem fl_1_20 : FL RX1 20 1 2 := ⟨by decide, by decide, tt_t (i := 204) (by decide +kernel) rfl⟩
theorem fI_1_20 : FI RX1 20 1 2 := ⟨fl_1_20, by decide⟩
theorem fP_1_20 : FP RX1 20 1 2 .int := ⟨fl_1_20, by decide, by decide, by decide +kernel⟩
theorem fl_1_23 : FL RX1 23 1 3 := ⟨by decide, by decide, tt_t (i := 205) (by decide +kernel) rfl⟩
theorem fI_1_23 : FI RX1 23 1 3 := ⟨fl_1_23, by decide⟩
theorem fP_1_23 : FP RX1 23 1 3 .int := ⟨fl_1_23, by decide, by decide, by decide +kernel⟩
theorem fl_1_26 : FL RX1 26 1 4 := ⟨by decide, by decide, tt_t (i := 206) (by decide +kernel) rfl⟩
theorem fI_1_26 : FI RX1 26 1 4 := ⟨fl_1_26, by decide⟩
theorem fP_1_26 : FP RX1 26 1 4 .int := ⟨fl_1_26, by decide, by decide, by decide +kernel⟩
theorem vl_1_29 : VL RX1 29 yX1_letsPass cX1_letsPass mX1_letsPass 2 1 := ⟨tt_t (i := 784) (by decide +kernel) rfl, im_X1_letsPass, se_X1_letsPass, in_X1, co_X1_letsPass, ds_X1_letsPass, by decide, rfl⟩
theorem vl_1_33 : VL RX1 33 yX1_changesOutdoors cX1_changesOutdoors mX1_changesOutdoors 2 1 := ⟨tt_t (i := 789) (by decide +kernel) rfl, im_X1_changesOutdoors, se_X1_changesOutdoors, in_X1, co_X1_changesOutdoors, ds_X1_changesOutdoors, by decide, rfl⟩
theorem vl_1_36 : VL RX1 36 yX1_proves cX1_proves mX1_proves 1 1 := ⟨tt_t (i := 793) (by decide +kernel) rfl, im_X1_proves, se_X1_proves, in_X1, co_X1_proves, ds_X1_proves, by decide, rfl⟩
theorem vl_1_40 : VL RX1 40 yX1_pays cX1_pays mX1_pays 1 1 := ⟨tt_t (i := 800) (by decide +kernel) rfl, im_X1_pays, se_X1_pays, in_X1, co_X1_pays, ds_X1_pays, by decide, rfl⟩
theorem vl_1_43 : VL RX1 43 yX1_cancels cX1_cancels mX1_cancels 1 1 := ⟨tt_t (i := 806) (by decide +kernel) rfl, im_X1_cancels, se_X1_cancels, in_X1, co_X1_cancels, ds_X1_cancels, by decide, rfl⟩
theorem vl_1_46 : VL RX1 46 yX2_findRoom cX2_findRoom mX2_findRoom 1 2 := ⟨tt_t (i := 797) (by decide +kernel) rfl, im_X2_findRoom, se_X2_findRoom, in_X2, co_X2_findRoom, ds_X2_findRoom, by decide, rfl⟩
theorem vl_1_52 : VL RX1 52 yX1_isAsWarm cX1_isAsWarm mX1_isAsWarm 2 1 := ⟨tt_t (i := 813) (by decide +kernel) rfl, im_X1_isAsWarm, se_X1_isAsWarm, in_X1, co_X1_isAsWarm, ds_X1_isAsWarm, by decide, rfl⟩
theorem vl_1_56 : VL RX1 56 yX2_hasGroup cX2_hasGroup mX2_hasGroup 1 2 := ⟨tt_t (i := 804) (by decide +kernel) rfl, im_X2_hasGroup, se_X2_hasGroup, in_X2, co_X2_hasGroup, ds_X2_hasGroup, by decide, rfl⟩
theorem vl_1_60 : VL RX1 60 yX2_owedBy cX2_owedBy mX2_owedBy 1 2 := ⟨tt_t (i := 817) (by decide +kernel) rfl, im_X2_owedBy, se_X2_owedBy, in_X2, co_X2_owedBy, ds_X2_owedBy, by decide, rfl⟩
theorem vl_1_64 : VL RX1 64 yX1_isOverOrNot cX1_isOverOrNot mX1_isOverOrNot 1 1 := ⟨tt_t (i := 818) (by decide +kernel) rfl, im_X1_isOverOrNot, se_X1_isOverOrNot, in_X1, co_X1_isOverOrNot, ds_X1_isOverOrNot, by decide, rfl⟩
theorem fl_1_67 : FL RX1 67 2 8 := ⟨by decide, by decide, tt_t (i := 144) (by decide +kernel) rfl⟩
theorem fI_1_67 : FI RX1 67 2 8 := ⟨fl_1_67, by decide⟩
theorem fl_1_70 : FL RX1 70 2 0 := ⟨by decide, by decide, tt_t (i := 125) (by decide +kernel) rfl⟩
theorem fI_1_70 : FI RX1 70 2 0 := ⟨fl_1_70, by decide⟩
theorem vl_1_73 : VL RX1 73 yX2_letHourPass cX2_letHourPass mX2_letHourPass 0 2 := ⟨tt_t (i := 788) (by decide +kernel) rfl, im_X2_letHourPass, se_X2_letHourPass, in_X2, co_X2_letHourPass, ds_X2_letHourPass, by decide, rfl⟩
theorem fl_1_76 : FL RX1 76 2 1 := ⟨by decide, by decide, tt_t (i := 128) (by decide +kernel) rfl⟩
theorem fI_1_76 : FI RX1 76 2 1 := ⟨fl_1_76, by decide⟩
theorem fP_1_76 : FP RX1 76 2 1 .int := ⟨fl_1_76, by decide, by decide, by decide +kernel⟩
theorem vl_1_79 : VL RX1 79 yX2_bookingOfNow cX2_bookingOfNow mX2_bookingOfNow 1 2 := ⟨tt_t (i := 798) (by decide +kernel) rfl, im_X2_bookingOfNow, se_X2_bookingOfNow, in_X2, co_X2_bookingOfNow, ds_X2_bookingOfNow, by decide, rfl⟩
theorem vl_1_82 : VL RX1 82 yX2_mark cX2_mark mX2_mark 2 2 := ⟨tt_t (i := 799) (by decide +kernel) rfl, im_X2_mark, se_X2_mark, in_X2, co_X2_mark, ds_X2_mark, by decide, rfl⟩
theorem vl_1_86 : VL RX1 86 yX2_settle cX2_settle mX2_settle 1 2 := ⟨tt_t (i := 805) (by decide +kernel) rfl, im_X2_settle, se_X2_settle, in_X2, co_X2_settle, ds_X2_settle, by decide, rfl⟩
theorem vl_1_89 : VL RX1 89 yX2_findBooking cX2_findBooking mX2_findBooking 1 2 := ⟨tt_t (i := 810) (by decide +kernel) rfl, im_X2_findBooking, se_X2_findBooking, in_X2, co_X2_findBooking, ds_X2_findBooking, by decide, rfl⟩
theorem vl_1_93 : VL RX1 93 yX0_mayGo cX0_mayGo mX0_mayGo 1 0 := ⟨tt_t (i := 811) (by decide +kernel) rfl, im_X0_mayGo, se_X0_mayGo, in_X0, co_X0_mayGo, ds_X0_mayGo, by decide, rfl⟩
theorem vl_1_98 : VL RX1 98 yX2_removeBooking cX2_removeBooking mX2_removeBooking 1 2 := ⟨tt_t (i := 812) (by decide +kernel) rfl, im_X2_removeBooking, se_X2_removeBooking, in_X2, co_X2_removeBooking, ds_X2_removeBooking, by decide, rfl⟩
theorem fl_1_102 : FL RX1 102 5 3 := ⟨by decide, by decide, tt_t (i := 66) (by decide +kernel) rfl⟩
theorem fI_1_102 : FI RX1 102 5 3 := ⟨fl_1_102, by decide⟩
theorem vl_1_107 : VL RX1 107 yX0_isOver cX0_isOver mX0_isOver 1 0 := ⟨tt_t (i := 822) (by decide +kernel) rfl, im_X0_isOver, se_X0_isOver, in_X0, co_X0_isOver, ds_X0_isOver, by decide, rfl⟩
theorem jl_2_3 : Cond.methodLink RX2 3 Lib.objectInit ∈ TT := tt_t (i := 51) (by decide +kernel) rfl
theorem fl_2_9 : FL RX2 9 2 1 := ⟨by decide, by decide, tt_t (i := 127) (by decide +kernel) rfl⟩
theorem fI_2_9 : FI RX2 9 2 1 := ⟨fl_2_9, by decide⟩
theorem fP_2_9 : FP RX2 9 2 1 .int := ⟨fl_2_9, by decide, by decide, by decide +kernel⟩
theorem cl_2_15 : Cond.classLink RX2 15 (clR 5) ∈ TT := tt_t (i := 52) (by decide +kernel) rfl
theorem fl_2_17 : FL RX2 17 2 2 := ⟨by decide, by decide, tt_t (i := 131) (by decide +kernel) rfl⟩
theorem fR_2_17 : FR RX2 17 2 2 := ⟨fl_2_17, by decide⟩
theorem fF_2_17 : FF RX2 17 2 2 := ⟨fl_2_17, by decide, by decide, by decide +kernel, Or.inr ⟨(.object "HallHeating$Room"), by decide +kernel⟩⟩
theorem fl_2_21 : FL RX2 21 2 4 := ⟨by decide, by decide, tt_t (i := 135) (by decide +kernel) rfl⟩
theorem fR_2_21 : FR RX2 21 2 4 := ⟨fl_2_21, by decide⟩
theorem fF_2_21 : FF RX2 21 2 4 := ⟨fl_2_21, by decide, by decide, by decide +kernel, Or.inr ⟨.int, by decide +kernel⟩⟩
theorem cl_2_25 : Cond.classLink RX2 25 (clR 0) ∈ TT := tt_t (i := 54) (by decide +kernel) rfl
theorem fl_2_27 : FL RX2 27 2 6 := ⟨by decide, by decide, tt_t (i := 139) (by decide +kernel) rfl⟩
theorem fR_2_27 : FR RX2 27 2 6 := ⟨fl_2_27, by decide⟩
theorem fF_2_27 : FF RX2 27 2 6 := ⟨fl_2_27, by decide, by decide, by decide +kernel, Or.inr ⟨(.object "HallHeating$Booking"), by decide +kernel⟩⟩
theorem il_2_31 : IL RX2 31 yX5_init cX5_init mX5_init 0 := ⟨Or.inr ⟨RX6, List.mem_filter.mpr ⟨List.mem_append_right _ (List.mem_of_getElem? (i := 57) (by decide +kernel)), rfl⟩⟩, im_X5_init, rfl, in_X5, co_X5_init, rfl, ds_X5_init⟩
theorem il_2_32 : IL RX2 32 yX0_init cX0_init mX0_init 0 := ⟨Or.inr ⟨RX6, List.mem_filter.mpr ⟨List.mem_append_right _ (List.mem_of_getElem? (i := 79) (by decide +kernel)), rfl⟩⟩, im_X0_init, rfl, in_X0, co_X0_init, rfl, ds_X0_init⟩
theorem fl_2_33 : FL RX2 33 2 0 := ⟨by decide, by decide, tt_t (i := 124) (by decide +kernel) rfl⟩
theorem fI_2_33 : FI RX2 33 2 0 := ⟨fl_2_33, by decide⟩
theorem fP_2_33 : FP RX2 33 2 0 .int := ⟨fl_2_33, by decide, by decide, by decide +kernel⟩
theorem fl_2_36 : FL RX2 36 2 3 := ⟨by decide, by decide, tt_t (i := 132) (by decide +kernel) rfl⟩
theorem fI_2_36 : FI RX2 36 2 3 := ⟨fl_2_36, by decide⟩
theorem fP_2_36 : FP RX2 36 2 3 .int := ⟨fl_2_36, by decide, by decide, by decide +kernel⟩
theorem fl_2_39 : FL RX2 39 2 5 := ⟨by decide, by decide, tt_t (i := 136) (by decide +kernel) rfl⟩
theorem fI_2_39 : FI RX2 39 2 5 := ⟨fl_2_39, by decide⟩
theorem fP_2_39 : FP RX2 39 2 5 .int := ⟨fl_2_39, by decide, by decide, by decide +kernel⟩
theorem fl_2_42 : FL RX2 42 2 7 := ⟨by decide, by decide, tt_t (i := 140) (by decide +kernel) rfl⟩
theorem fI_2_42 : FI RX2 42 2 7 := ⟨fl_2_42, by decide⟩
theorem fP_2_42 : FP RX2 42 2 7 .int := ⟨fl_2_42, by decide, by decide, by decide +kernel⟩
theorem fl_2_45 : FL RX2 45 2 8 := ⟨by decide, by decide, tt_t (i := 143) (by decide +kernel) rfl⟩
theorem fI_2_45 : FI RX2 45 2 8 := ⟨fl_2_45, by decide⟩
theorem fP_2_45 : FP RX2 45 2 8 .int := ⟨fl_2_45, by decide, by decide, by decide +kernel⟩
theorem fl_2_48 : FL RX2 48 2 9 := ⟨by decide, by decide, tt_t (i := 146) (by decide +kernel) rfl⟩
theorem fI_2_48 : FI RX2 48 2 9 := ⟨fl_2_48, by decide⟩
theorem fP_2_48 : FP RX2 48 2 9 .int := ⟨fl_2_48, by decide, by decide, by decide +kernel⟩
theorem fl_2_51 : FL RX2 51 2 10 := ⟨by decide, by decide, tt_t (i := 147) (by decide +kernel) rfl⟩
theorem fI_2_51 : FI RX2 51 2 10 := ⟨fl_2_51, by decide⟩
theorem fP_2_51 : FP RX2 51 2 10 .int := ⟨fl_2_51, by decide, by decide, by decide +kernel⟩
theorem fl_2_54 : FL RX2 54 2 11 := ⟨by decide, by decide, tt_t (i := 149) (by decide +kernel) rfl⟩
theorem fI_2_54 : FI RX2 54 2 11 := ⟨fl_2_54, by decide⟩
theorem fP_2_54 : FP RX2 54 2 11 .int := ⟨fl_2_54, by decide, by decide, by decide +kernel⟩
theorem vl_2_57 : VL RX2 57 yX5_copyFrom cX5_copyFrom mX5_copyFrom 1 5 := ⟨tt_t (i := 336) (by decide +kernel) rfl, im_X5_copyFrom, se_X5_copyFrom, in_X5, co_X5_copyFrom, ds_X5_copyFrom, by decide, rfl⟩
theorem jl_2_61 : Cond.methodLink RX2 61 arraycopyName ∈ TT := tt_t (i := 341) (by decide +kernel) rfl
theorem vl_2_67 : VL RX2 67 yX0_copyFrom cX0_copyFrom mX0_copyFrom 1 0 := ⟨tt_t (i := 344) (by decide +kernel) rfl, im_X0_copyFrom, se_X0_copyFrom, in_X0, co_X0_copyFrom, ds_X0_copyFrom, by decide, rfl⟩
theorem vl_2_70 : VL RX2 70 yX5_become cX5_become mX5_become 4 5 := ⟨tt_t (i := 284) (by decide +kernel) rfl, im_X5_become, se_X5_become, in_X5, co_X5_become, ds_X5_become, by decide, rfl⟩
theorem fl_2_74 : FL RX2 74 0 0 := ⟨by decide, by decide, tt_t (i := 84) (by decide +kernel) rfl⟩
theorem fI_2_74 : FI RX2 74 0 0 := ⟨fl_2_74, by decide⟩
theorem vl_2_77 : VL RX2 77 yX0_meets cX0_meets mX0_meets 2 0 := ⟨tt_t (i := 308) (by decide +kernel) rfl, im_X0_meets, se_X0_meets, in_X0, co_X0_meets, ds_X0_meets, by decide, rfl⟩
theorem vl_2_81 : VL RX2 81 yX0_become cX0_become mX0_become 5 0 := ⟨tt_t (i := 320) (by decide +kernel) rfl, im_X0_become, se_X0_become, in_X0, co_X0_become, ds_X0_become, by decide, rfl⟩
theorem vl_2_84 : VL RX2 84 yX2_findBooking cX2_findBooking mX2_findBooking 1 2 := ⟨tt_t (i := 385) (by decide +kernel) rfl, im_X2_findBooking, se_X2_findBooking, in_X2, co_X2_findBooking, ds_X2_findBooking, by decide, rfl⟩
theorem vl_2_88 : VL RX2 88 yX0_has cX0_has mX0_has 1 0 := ⟨tt_t (i := 373) (by decide +kernel) rfl, im_X0_has, se_X0_has, in_X0, co_X0_has, ds_X0_has, by decide, rfl⟩
theorem fl_2_92 : FL RX2 92 0 2 := ⟨by decide, by decide, tt_t (i := 89) (by decide +kernel) rfl⟩
theorem fI_2_92 : FI RX2 92 0 2 := ⟨fl_2_92, by decide⟩
theorem vl_2_95 : VL RX2 95 yX2_bookingOfNow cX2_bookingOfNow mX2_bookingOfNow 1 2 := ⟨tt_t (i := 369) (by decide +kernel) rfl, im_X2_bookingOfNow, se_X2_bookingOfNow, in_X2, co_X2_bookingOfNow, ds_X2_bookingOfNow, by decide, rfl⟩
theorem vl_2_99 : VL RX2 99 yX2_nextBooking cX2_nextBooking mX2_nextBooking 1 2 := ⟨tt_t (i := 377) (by decide +kernel) rfl, im_X2_nextBooking, se_X2_nextBooking, in_X2, co_X2_nextBooking, ds_X2_nextBooking, by decide, rfl⟩
theorem vl_2_102 : VL RX2 102 yX2_findRoom cX2_findRoom mX2_findRoom 1 2 := ⟨tt_t (i := 381) (by decide +kernel) rfl, im_X2_findRoom, se_X2_findRoom, in_X2, co_X2_findRoom, ds_X2_findRoom, by decide, rfl⟩
theorem vl_2_106 : VL RX2 106 yX2_mustPreheat cX2_mustPreheat mX2_mustPreheat 2 2 := ⟨tt_t (i := 389) (by decide +kernel) rfl, im_X2_mustPreheat, se_X2_mustPreheat, in_X2, co_X2_mustPreheat, ds_X2_mustPreheat, by decide, rfl⟩
theorem fl_2_110 : FL RX2 110 0 5 := ⟨by decide, by decide, tt_t (i := 94) (by decide +kernel) rfl⟩
theorem fI_2_110 : FI RX2 110 0 5 := ⟨fl_2_110, by decide⟩
theorem fP_2_110 : FP RX2 110 0 5 .boolean := ⟨fl_2_110, by decide, by decide, by decide +kernel⟩
theorem vl_2_114 : VL RX2 114 yX5_cooled cX5_cooled mX5_cooled 1 5 := ⟨tt_t (i := 393) (by decide +kernel) rfl, im_X5_cooled, se_X5_cooled, in_X5, co_X5_cooled, ds_X5_cooled, by decide, rfl⟩
theorem fl_2_117 : FL RX2 117 5 2 := ⟨by decide, by decide, tt_t (i := 64) (by decide +kernel) rfl⟩
theorem fI_2_117 : FI RX2 117 5 2 := ⟨fl_2_117, by decide⟩
theorem fl_2_120 : FL RX2 120 0 4 := ⟨by decide, by decide, tt_t (i := 92) (by decide +kernel) rfl⟩
theorem fI_2_120 : FI RX2 120 0 4 := ⟨fl_2_120, by decide⟩
theorem fl_2_123 : FL RX2 123 0 8 := ⟨by decide, by decide, tt_t (i := 100) (by decide +kernel) rfl⟩
theorem fI_2_123 : FI RX2 123 0 8 := ⟨fl_2_123, by decide⟩
theorem fP_2_123 : FP RX2 123 0 8 .boolean := ⟨fl_2_123, by decide, by decide, by decide +kernel⟩
theorem vl_2_126 : VL RX2 126 yX2_mark cX2_mark mX2_mark 2 2 := ⟨tt_t (i := 836) (by decide +kernel) rfl, im_X2_mark, se_X2_mark, in_X2, co_X2_mark, ds_X2_mark, by decide, rfl⟩
theorem vl_2_130 : VL RX2 130 yX2_hasGroup cX2_hasGroup mX2_hasGroup 1 2 := ⟨tt_t (i := 608) (by decide +kernel) rfl, im_X2_hasGroup, se_X2_hasGroup, in_X2, co_X2_hasGroup, ds_X2_hasGroup, by decide, rfl⟩
theorem vl_2_133 : VL RX2 133 yX2_letHourPass cX2_letHourPass mX2_letHourPass 0 2 := ⟨tt_t (i := 361) (by decide +kernel) rfl, im_X2_letHourPass, se_X2_letHourPass, in_X2, co_X2_letHourPass, ds_X2_letHourPass, by decide, rfl⟩
theorem vl_2_136 : VL RX2 136 yX2_heatingBooking cX2_heatingBooking mX2_heatingBooking 1 2 := ⟨tt_t (i := 365) (by decide +kernel) rfl, im_X2_heatingBooking, se_X2_heatingBooking, in_X2, co_X2_heatingBooking, ds_X2_heatingBooking, by decide, rfl⟩
theorem vl_2_139 : VL RX2 139 yX2_heatRoom cX2_heatRoom mX2_heatRoom 2 2 := ⟨tt_t (i := 397) (by decide +kernel) rfl, im_X2_heatRoom, se_X2_heatRoom, in_X2, co_X2_heatRoom, ds_X2_heatRoom, by decide, rfl⟩
theorem vl_2_143 : VL RX2 143 yX0_end cX0_end mX0_end 0 0 := ⟨tt_t (i := 353) (by decide +kernel) rfl, im_X0_end, se_X0_end, in_X0, co_X0_end, ds_X0_end, by decide, rfl⟩
theorem vl_2_147 : VL RX2 147 yX2_leaveHeat cX2_leaveHeat mX2_leaveHeat 1 2 := ⟨tt_t (i := 421) (by decide +kernel) rfl, im_X2_leaveHeat, se_X2_leaveHeat, in_X2, co_X2_leaveHeat, ds_X2_leaveHeat, by decide, rfl⟩
theorem fl_2_150 : FL RX2 150 5 3 := ⟨by decide, by decide, tt_t (i := 68) (by decide +kernel) rfl⟩
theorem fI_2_150 : FI RX2 150 5 3 := ⟨fl_2_150, by decide⟩
theorem fP_2_150 : FP RX2 150 5 3 .int := ⟨fl_2_150, by decide, by decide, by decide +kernel⟩
theorem vl_2_153 : VL RX2 153 yX5_warmTowards cX5_warmTowards mX5_warmTowards 1 5 := ⟨tt_t (i := 401) (by decide +kernel) rfl, im_X5_warmTowards, se_X5_warmTowards, in_X5, co_X5_warmTowards, ds_X5_warmTowards, by decide, rfl⟩
theorem vl_2_156 : VL RX2 156 yX2_chargeOwnHour cX2_chargeOwnHour mX2_chargeOwnHour 3 2 := ⟨tt_t (i := 409) (by decide +kernel) rfl, im_X2_chargeOwnHour, se_X2_chargeOwnHour, in_X2, co_X2_chargeOwnHour, ds_X2_chargeOwnHour, by decide, rfl⟩
theorem vl_2_160 : VL RX2 160 yX2_chargePreheat cX2_chargePreheat mX2_chargePreheat 2 2 := ⟨tt_t (i := 417) (by decide +kernel) rfl, im_X2_chargePreheat, se_X2_chargePreheat, in_X2, co_X2_chargePreheat, ds_X2_chargePreheat, by decide, rfl⟩
theorem fl_2_164 : FL RX2 164 0 6 := ⟨by decide, by decide, tt_t (i := 96) (by decide +kernel) rfl⟩
theorem fI_2_164 : FI RX2 164 0 6 := ⟨fl_2_164, by decide⟩
theorem fP_2_164 : FP RX2 164 0 6 .int := ⟨fl_2_164, by decide, by decide, by decide +kernel⟩
theorem fl_2_167 : FL RX2 167 0 1 := ⟨by decide, by decide, tt_t (i := 87) (by decide +kernel) rfl⟩
theorem fI_2_167 : FI RX2 167 0 1 := ⟨fl_2_167, by decide⟩
theorem vl_2_170 : VL RX2 170 yX2_chargeGroup cX2_chargeGroup mX2_chargeGroup 2 2 := ⟨tt_t (i := 413) (by decide +kernel) rfl, im_X2_chargeGroup, se_X2_chargeGroup, in_X2, co_X2_chargeGroup, ds_X2_chargeGroup, by decide, rfl⟩
theorem fl_2_174 : FL RX2 174 0 7 := ⟨by decide, by decide, tt_t (i := 98) (by decide +kernel) rfl⟩
theorem fI_2_174 : FI RX2 174 0 7 := ⟨fl_2_174, by decide⟩
theorem fP_2_174 : FP RX2 174 0 7 .int := ⟨fl_2_174, by decide, by decide, by decide +kernel⟩
theorem fl_2_177 : FL RX2 177 0 9 := ⟨by decide, by decide, tt_t (i := 102) (by decide +kernel) rfl⟩
theorem fI_2_177 : FI RX2 177 0 9 := ⟨fl_2_177, by decide⟩
theorem fP_2_177 : FP RX2 177 0 9 .int := ⟨fl_2_177, by decide, by decide, by decide +kernel⟩
theorem jl_2_180 : Cond.methodLink RX2 180 Lib.Math.max.name ∈ TT := tt_t (i := 354) (by decide +kernel) rfl
theorem jl_3_3 : Cond.methodLink RX3 3 Lib.objectInit ∈ TT := tt_t (i := 30) (by decide +kernel) rfl
theorem fl_3_9 : FL RX3 9 3 0 := ⟨by decide, by decide, tt_t (i := 31) (by decide +kernel) rfl⟩
theorem fR_3_9 : FR RX3 9 3 0 := ⟨fl_3_9, by decide⟩
theorem fF_3_9 : FF RX3 9 3 0 := ⟨fl_3_9, by decide, by decide, by decide +kernel, Or.inr ⟨.int, by decide +kernel⟩⟩
theorem fl_3_15 : FL RX3 15 3 1 := ⟨by decide, by decide, tt_t (i := 32) (by decide +kernel) rfl⟩
theorem fI_3_15 : FI RX3 15 3 1 := ⟨fl_3_15, by decide⟩
theorem fP_3_15 : FP RX3 15 3 1 .int := ⟨fl_3_15, by decide, by decide, by decide +kernel⟩
theorem vl_3_19 : VL RX3 19 yX2_clear cX2_clear mX2_clear 0 2 := ⟨tt_t (i := 256) (by decide +kernel) rfl, im_X2_clear, se_X2_clear, in_X2, co_X2_clear, ds_X2_clear, by decide, rfl⟩
theorem fl_3_24 : FL RX3 24 3 2 := ⟨by decide, by decide, tt_t (i := 34) (by decide +kernel) rfl⟩
theorem fI_3_24 : FI RX3 24 3 2 := ⟨fl_3_24, by decide⟩
theorem fP_3_24 : FP RX3 24 3 2 .int := ⟨fl_3_24, by decide, by decide, by decide +kernel⟩
theorem fl_3_27 : FL RX3 27 3 3 := ⟨by decide, by decide, tt_t (i := 35) (by decide +kernel) rfl⟩
theorem fI_3_27 : FI RX3 27 3 3 := ⟨fl_3_27, by decide⟩
theorem fP_3_27 : FP RX3 27 3 3 .int := ⟨fl_3_27, by decide, by decide, by decide +kernel⟩
theorem vl_3_30 : VL RX3 30 yX3_sign cX3_sign mX3_sign 0 3 := ⟨tt_t (i := 260) (by decide +kernel) rfl, im_X3_sign, se_X3_sign, in_X3, co_X3_sign, ds_X3_sign, by decide, rfl⟩
theorem vl_3_34 : VL RX3 34 yX3_require cX3_require mX3_require 1 3 := ⟨tt_t (i := 264) (by decide +kernel) rfl, im_X3_require, se_X3_require, in_X3, co_X3_require, ds_X3_require, by decide, rfl⟩
theorem vl_3_38 : VL RX3 38 yX3_readPart cX3_readPart mX3_readPart 1 3 := ⟨tt_t (i := 268) (by decide +kernel) rfl, im_X3_readPart, se_X3_readPart, in_X3, co_X3_readPart, ds_X3_readPart, by decide, rfl⟩
theorem vl_3_42 : VL RX3 42 yX3_readRoom cX3_readRoom mX3_readRoom 1 3 := ⟨tt_t (i := 272) (by decide +kernel) rfl, im_X3_readRoom, se_X3_readRoom, in_X3, co_X3_readRoom, ds_X3_readRoom, by decide, rfl⟩
theorem vl_3_45 : VL RX3 45 yX3_readGroup cX3_readGroup mX3_readGroup 1 3 := ⟨tt_t (i := 288) (by decide +kernel) rfl, im_X3_readGroup, se_X3_readGroup, in_X3, co_X3_readGroup, ds_X3_readGroup, by decide, rfl⟩
theorem vl_3_48 : VL RX3 48 yX3_readOutdoors cX3_readOutdoors mX3_readOutdoors 1 3 := ⟨tt_t (i := 296) (by decide +kernel) rfl, im_X3_readOutdoors, se_X3_readOutdoors, in_X3, co_X3_readOutdoors, ds_X3_readOutdoors, by decide, rfl⟩
theorem vl_3_51 : VL RX3 51 yX3_readBooking cX3_readBooking mX3_readBooking 1 3 := ⟨tt_t (i := 300) (by decide +kernel) rfl, im_X3_readBooking, se_X3_readBooking, in_X3, co_X3_readBooking, ds_X3_readBooking, by decide, rfl⟩
theorem fl_3_54 : FL RX3 54 2 3 := ⟨by decide, by decide, tt_t (i := 133) (by decide +kernel) rfl⟩
theorem fI_3_54 : FI RX3 54 2 3 := ⟨fl_3_54, by decide⟩
theorem vl_3_57 : VL RX3 57 yX3_readNumber cX3_readNumber mX3_readNumber 3 3 := ⟨tt_t (i := 276) (by decide +kernel) rfl, im_X3_readNumber, se_X3_readNumber, in_X3, co_X3_readNumber, ds_X3_readNumber, by decide, rfl⟩
theorem vl_3_61 : VL RX3 61 yX2_newRoom cX2_newRoom mX2_newRoom 4 2 := ⟨tt_t (i := 280) (by decide +kernel) rfl, im_X2_newRoom, se_X2_newRoom, in_X2, co_X2_newRoom, ds_X2_newRoom, by decide, rfl⟩
theorem fl_3_65 : FL RX3 65 2 5 := ⟨by decide, by decide, tt_t (i := 137) (by decide +kernel) rfl⟩
theorem fI_3_65 : FI RX3 65 2 5 := ⟨fl_3_65, by decide⟩
theorem vl_3_68 : VL RX3 68 yX2_newGroup cX2_newGroup mX2_newGroup 0 2 := ⟨tt_t (i := 292) (by decide +kernel) rfl, im_X2_newGroup, se_X2_newGroup, in_X2, co_X2_newGroup, ds_X2_newGroup, by decide, rfl⟩
theorem fl_3_71 : FL RX3 71 2 1 := ⟨by decide, by decide, tt_t (i := 129) (by decide +kernel) rfl⟩
theorem fI_3_71 : FI RX3 71 2 1 := ⟨fl_3_71, by decide⟩
theorem fP_3_71 : FP RX3 71 2 1 .int := ⟨fl_3_71, by decide, by decide, by decide +kernel⟩
theorem fl_3_74 : FL RX3 74 2 7 := ⟨by decide, by decide, tt_t (i := 141) (by decide +kernel) rfl⟩
theorem fI_3_74 : FI RX3 74 2 7 := ⟨fl_3_74, by decide⟩
theorem vl_3_77 : VL RX3 77 yX2_hasPlaceFor cX2_hasPlaceFor mX2_hasPlaceFor 3 2 := ⟨tt_t (i := 304) (by decide +kernel) rfl, im_X2_hasPlaceFor, se_X2_hasPlaceFor, in_X2, co_X2_hasPlaceFor, ds_X2_hasPlaceFor, by decide, rfl⟩
theorem vl_3_81 : VL RX3 81 yX2_newBooking cX2_newBooking mX2_newBooking 5 2 := ⟨tt_t (i := 316) (by decide +kernel) rfl, im_X2_newBooking, se_X2_newBooking, in_X2, co_X2_newBooking, ds_X2_newBooking, by decide, rfl⟩
theorem jl_4_3 : Cond.methodLink RX4 3 Lib.objectInit ∈ TT := tt_t (i := 181) (by decide +kernel) rfl
theorem cl_4_9 : Cond.classLink RX4 9 (clR 2) ∈ TT := tt_t (i := 182) (by decide +kernel) rfl
theorem fl_4_11 : FL RX4 11 4 0 := ⟨by decide, by decide, tt_t (i := 185) (by decide +kernel) rfl⟩
theorem fR_4_11 : FR RX4 11 4 0 := ⟨fl_4_11, by decide⟩
theorem fF_4_11 : FF RX4 11 4 0 := ⟨fl_4_11, by decide, by decide, by decide +kernel, Or.inr ⟨(.object "HallHeating$Hall"), by decide +kernel⟩⟩
theorem il_4_17 : IL RX4 17 yX2_init cX2_init mX2_init 0 := ⟨Or.inl (tt_t (i := 184) (by decide +kernel) rfl), im_X2_init, rfl, in_X2, co_X2_init, rfl, ds_X2_init⟩
theorem fl_4_18 : FL RX4 18 4 1 := ⟨by decide, by decide, tt_t (i := 186) (by decide +kernel) rfl⟩
theorem fI_4_18 : FI RX4 18 4 1 := ⟨fl_4_18, by decide⟩
theorem fP_4_18 : FP RX4 18 4 1 .int := ⟨fl_4_18, by decide, by decide, by decide +kernel⟩
theorem vl_4_22 : VL RX4 22 yX2_copyFrom cX2_copyFrom mX2_copyFrom 1 2 := ⟨tt_t (i := 642) (by decide +kernel) rfl, im_X2_copyFrom, se_X2_copyFrom, in_X2, co_X2_copyFrom, ds_X2_copyFrom, by decide, rfl⟩
theorem fl_4_26 : FL RX4 26 4 2 := ⟨by decide, by decide, tt_t (i := 187) (by decide +kernel) rfl⟩
theorem fI_4_26 : FI RX4 26 4 2 := ⟨fl_4_26, by decide⟩
theorem fP_4_26 : FP RX4 26 4 2 .int := ⟨fl_4_26, by decide, by decide, by decide +kernel⟩
theorem jl_4_29 : Cond.methodLink RX4 29 Lib.Math.min.name ∈ TT := tt_t (i := 643) (by decide +kernel) rfl
theorem jl_5_1 : Cond.methodLink RX5 1 Lib.objectInit ∈ TT := tt_t (i := 60) (by decide +kernel) rfl
theorem fl_5_7 : FL RX5 7 5 0 := ⟨by decide, by decide, tt_t (i := 61) (by decide +kernel) rfl⟩
theorem fI_5_7 : FI RX5 7 5 0 := ⟨fl_5_7, by decide⟩
theorem fP_5_7 : FP RX5 7 5 0 .int := ⟨fl_5_7, by decide, by decide, by decide +kernel⟩
theorem fl_5_13 : FL RX5 13 5 1 := ⟨by decide, by decide, tt_t (i := 62) (by decide +kernel) rfl⟩
theorem fI_5_13 : FI RX5 13 5 1 := ⟨fl_5_13, by decide⟩
theorem fP_5_13 : FP RX5 13 5 1 .int := ⟨fl_5_13, by decide, by decide, by decide +kernel⟩
theorem fl_5_16 : FL RX5 16 5 2 := ⟨by decide, by decide, tt_t (i := 63) (by decide +kernel) rfl⟩
theorem fI_5_16 : FI RX5 16 5 2 := ⟨fl_5_16, by decide⟩
theorem fP_5_16 : FP RX5 16 5 2 .int := ⟨fl_5_16, by decide, by decide, by decide +kernel⟩
theorem fl_5_19 : FL RX5 19 5 3 := ⟨by decide, by decide, tt_t (i := 65) (by decide +kernel) rfl⟩
theorem fI_5_19 : FI RX5 19 5 3 := ⟨fl_5_19, by decide⟩
theorem fP_5_19 : FP RX5 19 5 3 .int := ⟨fl_5_19, by decide, by decide, by decide +kernel⟩
theorem vl_5_22 : VL RX5 22 yX5_become cX5_become mX5_become 4 5 := ⟨tt_t (i := 340) (by decide +kernel) rfl, im_X5_become, se_X5_become, in_X5, co_X5_become, ds_X5_become, by decide, rfl⟩
theorem jl_5_26 : Cond.methodLink RX5 26 Lib.Math.min.name ∈ TT := tt_t (i := 405) (by decide +kernel) rfl
theorem jl_5_32 : Cond.methodLink RX5 32 Lib.Math.max.name ∈ TT := tt_t (i := 408) (by decide +kernel) rfl
theorem jl_6_1 : Cond.methodLink RX6 1 Lib.objectInit ∈ TT := tt_t (i := 22) (by decide +kernel) rfl
theorem cl_6_7 : Cond.classLink RX6 7 (clR 3) ∈ TT := tt_t (i := 25) (by decide +kernel) rfl
theorem il_6_9 : IL RX6 9 yX3_init cX3_init mX3_init 0 := ⟨Or.inr ⟨RX6, List.mem_filter.mpr ⟨List.mem_append_right _ (List.mem_of_getElem? (i := 27) (by decide +kernel)), rfl⟩⟩, im_X3_init, rfl, in_X3, co_X3_init, rfl, ds_X3_init⟩
theorem fl_6_10 : FL RX6 10 6 0 := ⟨by decide, by decide, tt_t (i := 219) (by decide +kernel) rfl⟩
theorem fR_6_10 : FR RX6 10 6 0 := ⟨fl_6_10, by decide⟩
theorem fF_6_10 : FF RX6 10 6 0 := ⟨fl_6_10, by decide, by decide, by decide +kernel, Or.inl ⟨"HallHeating$HallText", by decide +kernel⟩⟩
theorem cl_6_16 : Cond.classLink RX6 16 (clR 2) ∈ TT := tt_t (i := 46) (by decide +kernel) rfl
theorem il_6_18 : IL RX6 18 yX2_init cX2_init mX2_init 0 := ⟨Or.inl (tt_t (i := 48) (by decide +kernel) rfl), im_X2_init, rfl, in_X2, co_X2_init, rfl, ds_X2_init⟩
theorem fl_6_19 : FL RX6 19 6 1 := ⟨by decide, by decide, tt_t (i := 220) (by decide +kernel) rfl⟩
theorem fR_6_19 : FR RX6 19 6 1 := ⟨fl_6_19, by decide⟩
theorem fF_6_19 : FF RX6 19 6 1 := ⟨fl_6_19, by decide, by decide, by decide +kernel, Or.inl ⟨"HallHeating$Hall", by decide +kernel⟩⟩
theorem cl_6_23 : Cond.classLink RX6 23 (clR 4) ∈ TT := tt_t (i := 176) (by decide +kernel) rfl
theorem il_6_25 : IL RX6 25 yX4_init cX4_init mX4_init 0 := ⟨Or.inl (tt_t (i := 178) (by decide +kernel) rfl), im_X4_init, rfl, in_X4, co_X4_init, rfl, ds_X4_init⟩
theorem fl_6_26 : FL RX6 26 6 2 := ⟨by decide, by decide, tt_t (i := 221) (by decide +kernel) rfl⟩
theorem fR_6_26 : FR RX6 26 6 2 := ⟨fl_6_26, by decide⟩
theorem fF_6_26 : FF RX6 26 6 2 := ⟨fl_6_26, by decide, by decide, by decide +kernel, Or.inl ⟨"HallHeating$Memory", by decide +kernel⟩⟩
theorem fl_6_30 : FL RX6 30 6 3 := ⟨by decide, by decide, tt_t (i := 222) (by decide +kernel) rfl⟩
theorem fR_6_30 : FR RX6 30 6 3 := ⟨fl_6_30, by decide⟩
theorem fF_6_30 : FF RX6 30 6 3 := ⟨fl_6_30, by decide, by decide, by decide +kernel, Or.inr ⟨(.object "HallHeating$Hall"), by decide +kernel⟩⟩
theorem fl_6_34 : FL RX6 34 6 4 := ⟨by decide, by decide, tt_t (i := 223) (by decide +kernel) rfl⟩
theorem fR_6_34 : FR RX6 34 6 4 := ⟨fl_6_34, by decide⟩
theorem fF_6_34 : FF RX6 34 6 4 := ⟨fl_6_34, by decide, by decide, by decide +kernel, Or.inr ⟨.boolean, by decide +kernel⟩⟩
theorem cl_6_38 : Cond.classLink RX6 38 (clR 1) ∈ TT := tt_t (i := 196) (by decide +kernel) rfl
theorem il_6_40 : IL RX6 40 yX1_init cX1_init mX1_init 0 := ⟨Or.inr ⟨RX6, List.mem_filter.mpr ⟨List.mem_append_right _ (List.mem_of_getElem? (i := 198) (by decide +kernel)), rfl⟩⟩, im_X1_init, rfl, in_X1, co_X1_init, rfl, ds_X1_init⟩
theorem fl_6_41 : FL RX6 41 6 5 := ⟨by decide, by decide, tt_t (i := 224) (by decide +kernel) rfl⟩
theorem fR_6_41 : FR RX6 41 6 5 := ⟨fl_6_41, by decide⟩
theorem fF_6_41 : FF RX6 41 6 5 := ⟨fl_6_41, by decide, by decide, by decide +kernel, Or.inl ⟨"HallHeating$Command", by decide +kernel⟩⟩
theorem fl_6_45 : FL RX6 45 6 6 := ⟨by decide, by decide, tt_t (i := 225) (by decide +kernel) rfl⟩
theorem fR_6_45 : FR RX6 45 6 6 := ⟨fl_6_45, by decide⟩
theorem fF_6_45 : FF RX6 45 6 6 := ⟨fl_6_45, by decide, by decide, by decide +kernel, Or.inl ⟨"HallHeating$Hall", by decide +kernel⟩⟩
theorem fl_6_48 : FL RX6 48 6 7 := ⟨by decide, by decide, tt_t (i := 226) (by decide +kernel) rfl⟩
theorem fR_6_48 : FR RX6 48 6 7 := ⟨fl_6_48, by decide⟩
theorem fF_6_48 : FF RX6 48 6 7 := ⟨fl_6_48, by decide, by decide, by decide +kernel, Or.inl ⟨"HallHeating$Hall", by decide +kernel⟩⟩
theorem sl_6_51 : SL RX6 51 yX6_requireRange cX6_requireRange mX6_requireRange 3 := ⟨tt_t (i := 438) (by decide +kernel) rfl, sm_X6_requireRange, in_X6, co_X6_requireRange, ds_X6_requireRange⟩
theorem fl_6_55 : FL RX6 55 3 1 := ⟨by decide, by decide, tt_t (i := 33) (by decide +kernel) rfl⟩
theorem fI_6_55 : FI RX6 55 3 1 := ⟨fl_6_55, by decide⟩
theorem fP_6_55 : FP RX6 55 3 1 .int := ⟨fl_6_55, by decide, by decide, by decide +kernel⟩
theorem cl_6_59 : Cond.classLink RX6 59 eS ∈ TT := tt_t (i := 509) (by decide +kernel) rfl
theorem vl_6_66 : VL RX6 66 yX3_add cX3_add mX3_add 1 3 := ⟨tt_t (i := 525) (by decide +kernel) rfl, im_X3_add, se_X3_add, in_X3, co_X3_add, ds_X3_add, by decide, rfl⟩
theorem vl_6_70 : VL RX6 70 yX3_readInto cX3_readInto mX3_readInto 1 3 := ⟨tt_t (i := 252) (by decide +kernel) rfl, im_X3_readInto, se_X3_readInto, in_X3, co_X3_readInto, ds_X3_readInto, by decide, rfl⟩
theorem vl_6_76 : VL RX6 76 yX2_copyFrom cX2_copyFrom mX2_copyFrom 1 2 := ⟨tt_t (i := 332) (by decide +kernel) rfl, im_X2_copyFrom, se_X2_copyFrom, in_X2, co_X2_copyFrom, ds_X2_copyFrom, by decide, rfl⟩
theorem vl_6_80 : VL RX6 80 yX4_forgetAll cX4_forgetAll mX4_forgetAll 0 4 := ⟨tt_t (i := 537) (by decide +kernel) rfl, im_X4_forgetAll, se_X4_forgetAll, in_X4, co_X4_forgetAll, ds_X4_forgetAll, by decide, rfl⟩
theorem fl_6_83 : FL RX6 83 2 3 := ⟨by decide, by decide, tt_t (i := 134) (by decide +kernel) rfl⟩
theorem fI_6_83 : FI RX6 83 2 3 := ⟨fl_6_83, by decide⟩
theorem vl_6_86 : VL RX6 86 yX2_numberAbout cX2_numberAbout mX2_numberAbout 1 2 := ⟨tt_t (i := 548) (by decide +kernel) rfl, im_X2_numberAbout, se_X2_numberAbout, in_X2, co_X2_numberAbout, ds_X2_numberAbout, by decide, rfl⟩
theorem vl_6_90 : VL RX6 90 yX6_requireRoom cX6_requireRoom mX6_requireRoom 1 6 := ⟨tt_t (i := 560) (by decide +kernel) rfl, im_X6_requireRoom, se_X6_requireRoom, in_X6, co_X6_requireRoom, ds_X6_requireRoom, by decide, rfl⟩
theorem vl_6_94 : VL RX6 94 yX2_bookingOfNow cX2_bookingOfNow mX2_bookingOfNow 1 2 := ⟨tt_t (i := 581) (by decide +kernel) rfl, im_X2_bookingOfNow, se_X2_bookingOfNow, in_X2, co_X2_bookingOfNow, ds_X2_bookingOfNow, by decide, rfl⟩
theorem vl_6_97 : VL RX6 97 yX2_nextBooking cX2_nextBooking mX2_nextBooking 1 2 := ⟨tt_t (i := 582) (by decide +kernel) rfl, im_X2_nextBooking, se_X2_nextBooking, in_X2, co_X2_nextBooking, ds_X2_nextBooking, by decide, rfl⟩
theorem vl_6_100 : VL RX6 100 yX2_heatingBooking cX2_heatingBooking mX2_heatingBooking 1 2 := ⟨tt_t (i := 583) (by decide +kernel) rfl, im_X2_heatingBooking, se_X2_heatingBooking, in_X2, co_X2_heatingBooking, ds_X2_heatingBooking, by decide, rfl⟩
theorem vl_6_103 : VL RX6 103 yX5_numberAbout cX5_numberAbout mX5_numberAbout 1 5 := ⟨tt_t (i := 584) (by decide +kernel) rfl, im_X5_numberAbout, se_X5_numberAbout, in_X5, co_X5_numberAbout, ds_X5_numberAbout, by decide, rfl⟩
theorem vl_6_106 : VL RX6 106 yX6_requireGroup cX6_requireGroup mX6_requireGroup 1 6 := ⟨tt_t (i := 595) (by decide +kernel) rfl, im_X6_requireGroup, se_X6_requireGroup, in_X6, co_X6_requireGroup, ds_X6_requireGroup, by decide, rfl⟩
theorem vl_6_109 : VL RX6 109 yX2_owedBy cX2_owedBy mX2_owedBy 1 2 := ⟨tt_t (i := 604) (by decide +kernel) rfl, im_X2_owedBy, se_X2_owedBy, in_X2, co_X2_owedBy, ds_X2_owedBy, by decide, rfl⟩
theorem vl_6_112 : VL RX6 112 yX6_requireBooking cX6_requireBooking mX6_requireBooking 1 6 := ⟨tt_t (i := 616) (by decide +kernel) rfl, im_X6_requireBooking, se_X6_requireBooking, in_X6, co_X6_requireBooking, ds_X6_requireBooking, by decide, rfl⟩
theorem fl_6_116 : FL RX6 116 2 0 := ⟨by decide, by decide, tt_t (i := 126) (by decide +kernel) rfl⟩
theorem fI_6_116 : FI RX6 116 2 0 := ⟨fl_6_116, by decide⟩
theorem vl_6_119 : VL RX6 119 yX0_isOver cX0_isOver mX0_isOver 1 0 := ⟨tt_t (i := 622) (by decide +kernel) rfl, im_X0_isOver, se_X0_isOver, in_X0, co_X0_isOver, ds_X0_isOver, by decide, rfl⟩
theorem vl_6_125 : VL RX6 125 yX0_numberAbout cX0_numberAbout mX0_numberAbout 1 0 := ⟨tt_t (i := 626) (by decide +kernel) rfl, im_X0_numberAbout, se_X0_numberAbout, in_X0, co_X0_numberAbout, ds_X0_numberAbout, by decide, rfl⟩
theorem vl_6_128 : VL RX6 128 yX4_remember cX4_remember mX4_remember 1 4 := ⟨tt_t (i := 638) (by decide +kernel) rfl, im_X4_remember, se_X4_remember, in_X4, co_X4_remember, ds_X4_remember, by decide, rfl⟩
theorem vl_6_131 : VL RX6 131 yX2_newRoom cX2_newRoom mX2_newRoom 4 2 := ⟨tt_t (i := 644) (by decide +kernel) rfl, im_X2_newRoom, se_X2_newRoom, in_X2, co_X2_newRoom, ds_X2_newRoom, by decide, rfl⟩
theorem fl_6_135 : FL RX6 135 2 5 := ⟨by decide, by decide, tt_t (i := 138) (by decide +kernel) rfl⟩
theorem fI_6_135 : FI RX6 135 2 5 := ⟨fl_6_135, by decide⟩
theorem vl_6_140 : VL RX6 140 yX2_newGroup cX2_newGroup mX2_newGroup 0 2 := ⟨tt_t (i := 653) (by decide +kernel) rfl, im_X2_newGroup, se_X2_newGroup, in_X2, co_X2_newGroup, ds_X2_newGroup, by decide, rfl⟩
theorem vl_6_144 : VL RX6 144 yX6_requireBookingArguments cX6_requireBookingArguments mX6_requireBookingArguments 5 6 := ⟨tt_t (i := 661) (by decide +kernel) rfl, im_X6_requireBookingArguments, se_X6_requireBookingArguments, in_X6, co_X6_requireBookingArguments, ds_X6_requireBookingArguments, by decide, rfl⟩
theorem vl_6_148 : VL RX6 148 yX2_hasPlaceFor cX2_hasPlaceFor mX2_hasPlaceFor 3 2 := ⟨tt_t (i := 665) (by decide +kernel) rfl, im_X2_hasPlaceFor, se_X2_hasPlaceFor, in_X2, co_X2_hasPlaceFor, ds_X2_hasPlaceFor, by decide, rfl⟩
theorem vl_6_154 : VL RX6 154 yX2_newBooking cX2_newBooking mX2_newBooking 5 2 := ⟨tt_t (i := 667) (by decide +kernel) rfl, im_X2_newBooking, se_X2_newBooking, in_X2, co_X2_newBooking, ds_X2_newBooking, by decide, rfl⟩
theorem vl_6_158 : VL RX6 158 yX0_mayGo cX0_mayGo mX0_mayGo 1 0 := ⟨tt_t (i := 675) (by decide +kernel) rfl, im_X0_mayGo, se_X0_mayGo, in_X0, co_X0_mayGo, ds_X0_mayGo, by decide, rfl⟩
theorem vl_6_163 : VL RX6 163 yX2_removeBooking cX2_removeBooking mX2_removeBooking 1 2 := ⟨tt_t (i := 680) (by decide +kernel) rfl, im_X2_removeBooking, se_X2_removeBooking, in_X2, co_X2_removeBooking, ds_X2_removeBooking, by decide, rfl⟩
theorem fl_6_166 : FL RX6 166 2 7 := ⟨by decide, by decide, tt_t (i := 142) (by decide +kernel) rfl⟩
theorem fI_6_166 : FI RX6 166 2 7 := ⟨fl_6_166, by decide⟩
theorem vl_6_171 : VL RX6 171 yX2_mark cX2_mark mX2_mark 2 2 := ⟨tt_t (i := 692) (by decide +kernel) rfl, im_X2_mark, se_X2_mark, in_X2, co_X2_mark, ds_X2_mark, by decide, rfl⟩
theorem fl_6_175 : FL RX6 175 2 1 := ⟨by decide, by decide, tt_t (i := 130) (by decide +kernel) rfl⟩
theorem fI_6_175 : FI RX6 175 2 1 := ⟨fl_6_175, by decide⟩
theorem fP_6_175 : FP RX6 175 2 1 .int := ⟨fl_6_175, by decide, by decide, by decide +kernel⟩
theorem vl_6_178 : VL RX6 178 yX2_settle cX2_settle mX2_settle 1 2 := ⟨tt_t (i := 710) (by decide +kernel) rfl, im_X2_settle, se_X2_settle, in_X2, co_X2_settle, ds_X2_settle, by decide, rfl⟩
theorem fl_6_183 : FL RX6 183 2 8 := ⟨by decide, by decide, tt_t (i := 145) (by decide +kernel) rfl⟩
theorem fI_6_183 : FI RX6 183 2 8 := ⟨fl_6_183, by decide⟩
theorem vl_6_186 : VL RX6 186 yX2_letHoursPass cX2_letHoursPass mX2_letHoursPass 1 2 := ⟨tt_t (i := 357) (by decide +kernel) rfl, im_X2_letHoursPass, se_X2_letHoursPass, in_X2, co_X2_letHoursPass, ds_X2_letHoursPass, by decide, rfl⟩
theorem fl_6_189 : FL RX6 189 4 2 := ⟨by decide, by decide, tt_t (i := 188) (by decide +kernel) rfl⟩
theorem fI_6_189 : FI RX6 189 4 2 := ⟨fl_6_189, by decide⟩
theorem vl_6_194 : VL RX6 194 yX4_takeBack cX4_takeBack mX4_takeBack 1 4 := ⟨tt_t (i := 730) (by decide +kernel) rfl, im_X4_takeBack, se_X4_takeBack, in_X4, co_X4_takeBack, ds_X4_takeBack, by decide, rfl⟩
theorem vl_6_197 : VL RX6 197 yX2_findRoom cX2_findRoom mX2_findRoom 1 2 := ⟨tt_t (i := 564) (by decide +kernel) rfl, im_X2_findRoom, se_X2_findRoom, in_X2, co_X2_findRoom, ds_X2_findRoom, by decide, rfl⟩
theorem fl_6_200 : FL RX6 200 5 3 := ⟨by decide, by decide, tt_t (i := 67) (by decide +kernel) rfl⟩
theorem fI_6_200 : FI RX6 200 5 3 := ⟨fl_6_200, by decide⟩
theorem vl_6_203 : VL RX6 203 yX0_end cX0_end mX0_end 0 0 := ⟨tt_t (i := 748) (by decide +kernel) rfl, im_X0_end, se_X0_end, in_X0, co_X0_end, ds_X0_end, by decide, rfl⟩
theorem fl_6_206 : FL RX6 206 0 0 := ⟨by decide, by decide, tt_t (i := 85) (by decide +kernel) rfl⟩
theorem fI_6_206 : FI RX6 206 0 0 := ⟨fl_6_206, by decide⟩
theorem vl_6_209 : VL RX6 209 yX2_letHourPass cX2_letHourPass mX2_letHourPass 0 2 := ⟨tt_t (i := 749) (by decide +kernel) rfl, im_X2_letHourPass, se_X2_letHourPass, in_X2, co_X2_letHourPass, ds_X2_letHourPass, by decide, rfl⟩
theorem vl_6_212 : VL RX6 212 yX6_passAllBookingsOnTrial cX6_passAllBookingsOnTrial mX6_passAllBookingsOnTrial 0 6 := ⟨tt_t (i := 328) (by decide +kernel) rfl, im_X6_passAllBookingsOnTrial, se_X6_passAllBookingsOnTrial, in_X6, co_X6_passAllBookingsOnTrial, ds_X6_passAllBookingsOnTrial, by decide, rfl⟩
theorem vl_6_215 : VL RX6 215 yX2_coldestBooking cX2_coldestBooking mX2_coldestBooking 0 2 := ⟨tt_t (i := 425) (by decide +kernel) rfl, im_X2_coldestBooking, se_X2_coldestBooking, in_X2, co_X2_coldestBooking, ds_X2_coldestBooking, by decide, rfl⟩
theorem vl_6_218 : VL RX6 218 yX2_endOfBookings cX2_endOfBookings mX2_endOfBookings 0 2 := ⟨tt_t (i := 349) (by decide +kernel) rfl, im_X2_endOfBookings, se_X2_endOfBookings, in_X2, co_X2_endOfBookings, ds_X2_endOfBookings, by decide, rfl⟩
theorem sl_6_221 : SL RX6 221 yX1_withoutLast cX1_withoutLast mX1_withoutLast 2 := ⟨tt_t (i := 771) (by decide +kernel) rfl, sm_X1_withoutLast, in_X1, co_X1_withoutLast, ds_X1_withoutLast⟩
theorem cl_6_225 : Cond.classLink RX6 225 eA ∈ TT := tt_t (i := 441) (by decide +kernel) rfl
theorem vl_6_230 : VL RX6 230 yX1_become cX1_become mX1_become 1 1 := ⟨tt_t (i := 776) (by decide +kernel) rfl, im_X1_become, se_X1_become, in_X1, co_X1_become, ds_X1_become, by decide, rfl⟩
theorem vl_6_234 : VL RX6 234 yX1_succeedsOn cX1_succeedsOn mX1_succeedsOn 1 1 := ⟨tt_t (i := 780) (by decide +kernel) rfl, im_X1_succeedsOn, se_X1_succeedsOn, in_X1, co_X1_succeedsOn, ds_X1_succeedsOn, by decide, rfl⟩
theorem kl_6_238 : Cond.constantLong RX6 238 (6364136223846793005) ∈ TT := tt_t (i := 830) (by decide +kernel) rfl
theorem kl_6_240 : Cond.constantLong RX6 240 (1442695040888963407) ∈ TT := tt_t (i := 831) (by decide +kernel) rfl
theorem vl_6_242 : VL RX6 242 yX2_markAll cX2_markAll mX2_markAll 0 2 := ⟨tt_t (i := 832) (by decide +kernel) rfl, im_X2_markAll, se_X2_markAll, in_X2, co_X2_markAll, ds_X2_markAll, by decide, rfl⟩
theorem fl_6_245 : FL RX6 245 2 10 := ⟨by decide, by decide, tt_t (i := 148) (by decide +kernel) rfl⟩
theorem fI_6_245 : FI RX6 245 2 10 := ⟨fl_6_245, by decide⟩
theorem jl_6_248 : Cond.methodLink RX6 248 Lib.Math.min.name ∈ TT := tt_t (i := 837) (by decide +kernel) rfl
theorem fl_6_254 : FL RX6 254 2 11 := ⟨by decide, by decide, tt_t (i := 150) (by decide +kernel) rfl⟩
theorem fI_6_254 : FI RX6 254 2 11 := ⟨fl_6_254, by decide⟩
theorem sl_6_257 : SL RX6 257 yX6_requireSlot cX6_requireSlot mX6_requireSlot 1 := ⟨tt_t (i := 845) (by decide +kernel) rfl, sm_X6_requireSlot, in_X6, co_X6_requireSlot, ds_X6_requireSlot⟩
theorem cl_6_264 : Cond.classLink RX6 264 eI ∈ TT := tt_t (i := 565) (by decide +kernel) rfl
theorem vl_6_269 : VL RX6 269 yX2_hasGroup cX2_hasGroup mX2_hasGroup 1 2 := ⟨tt_t (i := 599) (by decide +kernel) rfl, im_X2_hasGroup, se_X2_hasGroup, in_X2, co_X2_hasGroup, ds_X2_hasGroup, by decide, rfl⟩
theorem vl_6_274 : VL RX6 274 yX2_findBooking cX2_findBooking mX2_findBooking 1 2 := ⟨tt_t (i := 620) (by decide +kernel) rfl, im_X2_findBooking, se_X2_findBooking, in_X2, co_X2_findBooking, ds_X2_findBooking, by decide, rfl⟩
theorem jl_7_1 : Cond.methodLink RX7 1 Lib.objectInit ∈ TT := tt_t (i := 862) (by decide +kernel) rfl
theorem fl_7_7 : FL RX7 7 7 1 := ⟨by decide, by decide, tt_t (i := 867) (by decide +kernel) rfl⟩
theorem fR_7_7 : FR RX7 7 7 1 := ⟨fl_7_7, by decide⟩
theorem fF_7_7 : FF RX7 7 7 1 := ⟨fl_7_7, by decide, by decide, by decide +kernel, Or.inr ⟨.int, by decide +kernel⟩⟩
theorem fl_7_13 : FL RX7 13 7 5 := ⟨by decide, by decide, tt_t (i := 871) (by decide +kernel) rfl⟩
theorem fR_7_13 : FR RX7 13 7 5 := ⟨fl_7_13, by decide⟩
theorem fF_7_13 : FF RX7 13 7 5 := ⟨fl_7_13, by decide, by decide, by decide +kernel, Or.inr ⟨.int, by decide +kernel⟩⟩
theorem fl_7_16 : FL RX7 16 7 6 := ⟨by decide, by decide, tt_t (i := 872) (by decide +kernel) rfl⟩
theorem fR_7_16 : FR RX7 16 7 6 := ⟨fl_7_16, by decide⟩
theorem fF_7_16 : FF RX7 16 7 6 := ⟨fl_7_16, by decide, by decide, by decide +kernel, Or.inr ⟨.int, by decide +kernel⟩⟩
theorem fl_7_19 : FL RX7 19 7 7 := ⟨by decide, by decide, tt_t (i := 873) (by decide +kernel) rfl⟩
theorem fR_7_19 : FR RX7 19 7 7 := ⟨fl_7_19, by decide⟩
theorem fF_7_19 : FF RX7 19 7 7 := ⟨fl_7_19, by decide, by decide, by decide +kernel, Or.inr ⟨.int, by decide +kernel⟩⟩
theorem fl_7_22 : FL RX7 22 7 8 := ⟨by decide, by decide, tt_t (i := 874) (by decide +kernel) rfl⟩
theorem fR_7_22 : FR RX7 22 7 8 := ⟨fl_7_22, by decide⟩
theorem fF_7_22 : FF RX7 22 7 8 := ⟨fl_7_22, by decide, by decide, by decide +kernel, Or.inr ⟨.int, by decide +kernel⟩⟩
theorem fl_7_25 : FL RX7 25 7 10 := ⟨by decide, by decide, tt_t (i := 876) (by decide +kernel) rfl⟩
theorem fR_7_25 : FR RX7 25 7 10 := ⟨fl_7_25, by decide⟩
theorem fF_7_25 : FF RX7 25 7 10 := ⟨fl_7_25, by decide, by decide, by decide +kernel, Or.inr ⟨.int, by decide +kernel⟩⟩
theorem fl_7_28 : FL RX7 28 7 11 := ⟨by decide, by decide, tt_t (i := 877) (by decide +kernel) rfl⟩
theorem fR_7_28 : FR RX7 28 7 11 := ⟨fl_7_28, by decide⟩
theorem fF_7_28 : FF RX7 28 7 11 := ⟨fl_7_28, by decide, by decide, by decide +kernel, Or.inr ⟨.boolean, by decide +kernel⟩⟩
theorem sl_7_32 : SL RX7 32 yX7_clean cX7_clean mX7_clean 1 := ⟨tt_t (i := 863) (by decide +kernel) rfl, sm_X7_clean, in_X7, co_X7_clean, ds_X7_clean⟩
theorem fl_7_36 : FL RX7 36 7 0 := ⟨by decide, by decide, tt_t (i := 866) (by decide +kernel) rfl⟩
theorem fI_7_36 : FI RX7 36 7 0 := ⟨fl_7_36, by decide⟩
theorem fP_7_36 : FP RX7 36 7 0 .int := ⟨fl_7_36, by decide, by decide, by decide +kernel⟩
theorem kl_7_40 : Cond.constantLong RX7 40 (10) ∈ TT := tt_t (i := 1145) (by decide +kernel) rfl
theorem fl_7_42 : FL RX7 42 7 9 := ⟨by decide, by decide, tt_t (i := 875) (by decide +kernel) rfl⟩
theorem fI_7_42 : FI RX7 42 7 9 := ⟨fl_7_42, by decide⟩
theorem fP_7_42 : FP RX7 42 7 9 .int := ⟨fl_7_42, by decide, by decide, by decide +kernel⟩
theorem sl_7_45 : SL RX7 45 yX7_copy cX7_copy mX7_copy 5 := ⟨tt_t (i := 982) (by decide +kernel) rfl, sm_X7_copy, in_X7, co_X7_copy, ds_X7_copy⟩
theorem sl_7_49 : SL RX7 49 yX7_bookAt cX7_bookAt mX7_bookAt 2 := ⟨tt_t (i := 965) (by decide +kernel) rfl, sm_X7_bookAt, in_X7, co_X7_bookAt, ds_X7_bookAt⟩
theorem sl_7_53 : SL RX7 53 yX7_endOf cX7_endOf mX7_endOf 2 := ⟨tt_t (i := 968) (by decide +kernel) rfl, sm_X7_endOf, in_X7, co_X7_endOf, ds_X7_endOf⟩
theorem sl_7_57 : SL RX7 57 yX7_isOver cX7_isOver mX7_isOver 2 := ⟨tt_t (i := 1001) (by decide +kernel) rfl, sm_X7_isOver, in_X7, co_X7_isOver, ds_X7_isOver⟩
theorem sl_7_61 : SL RX7 61 yX7_roomAt cX7_roomAt mX7_roomAt 2 := ⟨tt_t (i := 955) (by decide +kernel) rfl, sm_X7_roomAt, in_X7, co_X7_roomAt, ds_X7_roomAt⟩
theorem sl_7_64 : SL RX7 64 yX7_cooled cX7_cooled mX7_cooled 2 := ⟨tt_t (i := 1013) (by decide +kernel) rfl, sm_X7_cooled, in_X7, co_X7_cooled, ds_X7_cooled⟩
theorem sl_7_67 : SL RX7 67 yX7_currentOf cX7_currentOf mX7_currentOf 2 := ⟨tt_t (i := 998) (by decide +kernel) rfl, sm_X7_currentOf, in_X7, co_X7_currentOf, ds_X7_currentOf⟩
theorem sl_7_70 : SL RX7 70 yX7_nextOf cX7_nextOf mX7_nextOf 2 := ⟨tt_t (i := 1004) (by decide +kernel) rfl, sm_X7_nextOf, in_X7, co_X7_nextOf, ds_X7_nextOf⟩
theorem sl_7_73 : SL RX7 73 yX7_isPreheated cX7_isPreheated mX7_isPreheated 3 := ⟨tt_t (i := 1010) (by decide +kernel) rfl, sm_X7_isPreheated, in_X7, co_X7_isPreheated, ds_X7_isPreheated⟩
theorem sl_7_77 : SL RX7 77 yX7_heaterOf cX7_heaterOf mX7_heaterOf 2 := ⟨tt_t (i := 1007) (by decide +kernel) rfl, sm_X7_heaterOf, in_X7, co_X7_heaterOf, ds_X7_heaterOf⟩
theorem sl_7_80 : SL RX7 80 yX7_charge cX7_charge mX7_charge 3 := ⟨tt_t (i := 1100) (by decide +kernel) rfl, sm_X7_charge, in_X7, co_X7_charge, ds_X7_charge⟩
theorem sl_7_84 : SL RX7 84 yX7_goRoom cX7_goRoom mX7_goRoom 2 := ⟨tt_t (i := 1097) (by decide +kernel) rfl, sm_X7_goRoom, in_X7, co_X7_goRoom, ds_X7_goRoom⟩
theorem sl_7_87 : SL RX7 87 yX7_settle cX7_settle mX7_settle 2 := ⟨tt_t (i := 1103) (by decide +kernel) rfl, sm_X7_settle, in_X7, co_X7_settle, ds_X7_settle⟩
theorem sl_7_91 : SL RX7 91 yX7_goHour cX7_goHour mX7_goHour 1 := ⟨tt_t (i := 1094) (by decide +kernel) rfl, sm_X7_goHour, in_X7, co_X7_goHour, ds_X7_goHour⟩
theorem sl_7_94 : SL RX7 94 yX7_goHours cX7_goHours mX7_goHours 2 := ⟨tt_t (i := 1091) (by decide +kernel) rfl, sm_X7_goHours, in_X7, co_X7_goHours, ds_X7_goHours⟩
theorem sl_7_97 : SL RX7 97 yX7_isFree cX7_isFree mX7_isFree 4 := ⟨tt_t (i := 962) (by decide +kernel) rfl, sm_X7_isFree, in_X7, co_X7_isFree, ds_X7_isFree⟩
theorem kl_7_101 : Cond.constantLong RX7 101 (255) ∈ TT := tt_t (i := 911) (by decide +kernel) rfl
theorem sl_7_103 : SL RX7 103 yX7_in cX7_in mX7_in 3 := ⟨tt_t (i := 912) (by decide +kernel) rfl, sm_X7_in, in_X7, co_X7_in, ds_X7_in⟩
theorem fl_7_107 : FL RX7 107 7 2 := ⟨by decide, by decide, tt_t (i := 868) (by decide +kernel) rfl⟩
theorem fI_7_107 : FI RX7 107 7 2 := ⟨fl_7_107, by decide⟩
theorem fP_7_107 : FP RX7 107 7 2 .int := ⟨fl_7_107, by decide, by decide, by decide +kernel⟩
theorem vl_7_110 : VL RX7 110 yX7_refused cX7_refused mX7_refused 1 7 := ⟨tt_t (i := 915) (by decide +kernel) rfl, im_X7_refused, se_X7_refused, in_X7, co_X7_refused, ds_X7_refused, by decide, rfl⟩
theorem fl_7_114 : FL RX7 114 7 3 := ⟨by decide, by decide, tt_t (i := 869) (by decide +kernel) rfl⟩
theorem fI_7_114 : FI RX7 114 7 3 := ⟨fl_7_114, by decide⟩
theorem fP_7_114 : FP RX7 114 7 3 .int := ⟨fl_7_114, by decide, by decide, by decide +kernel⟩
theorem fl_7_117 : FL RX7 117 7 4 := ⟨by decide, by decide, tt_t (i := 870) (by decide +kernel) rfl⟩
theorem fI_7_117 : FI RX7 117 7 4 := ⟨fl_7_117, by decide⟩
theorem fP_7_117 : FP RX7 117 7 4 .boolean := ⟨fl_7_117, by decide, by decide, by decide +kernel⟩
theorem kl_7_121 : Cond.constantLong RX7 121 (9) ∈ TT := tt_t (i := 947) (by decide +kernel) rfl
theorem vl_7_123 : VL RX7 123 yX7_accept cX7_accept mX7_accept 1 7 := ⟨tt_t (i := 935) (by decide +kernel) rfl, im_X7_accept, se_X7_accept, in_X7, co_X7_accept, ds_X7_accept, by decide, rfl⟩
theorem vl_7_127 : VL RX7 127 yX7_digit cX7_digit mX7_digit 2 7 := ⟨tt_t (i := 943) (by decide +kernel) rfl, im_X7_digit, se_X7_digit, in_X7, co_X7_digit, ds_X7_digit, by decide, rfl⟩
theorem vl_7_130 : VL RX7 130 yX7_two cX7_two mX7_two 2 7 := ⟨tt_t (i := 948) (by decide +kernel) rfl, im_X7_two, se_X7_two, in_X7, co_X7_two, ds_X7_two, by decide, rfl⟩
theorem sl_7_133 : SL RX7 133 yX7_addRoomTo cX7_addRoomTo mX7_addRoomTo 5 := ⟨tt_t (i := 952) (by decide +kernel) rfl, sm_X7_addRoomTo, in_X7, co_X7_addRoomTo, ds_X7_addRoomTo⟩
theorem vl_7_137 : VL RX7 137 yX7_isNext cX7_isNext mX7_isNext 1 7 := ⟨tt_t (i := 931) (by decide +kernel) rfl, im_X7_isNext, se_X7_isNext, in_X7, co_X7_isNext, ds_X7_isNext, by decide, rfl⟩
theorem sl_7_140 : SL RX7 140 yX7_bookTo cX7_bookTo mX7_bookTo 6 := ⟨tt_t (i := 971) (by decide +kernel) rfl, sm_X7_bookTo, in_X7, co_X7_bookTo, ds_X7_bookTo⟩
theorem vl_7_144 : VL RX7 144 yX7_readRoom cX7_readRoom mX7_readRoom 0 7 := ⟨tt_t (i := 939) (by decide +kernel) rfl, im_X7_readRoom, se_X7_readRoom, in_X7, co_X7_readRoom, ds_X7_readRoom, by decide, rfl⟩
theorem vl_7_147 : VL RX7 147 yX7_readBooking cX7_readBooking mX7_readBooking 0 7 := ⟨tt_t (i := 958) (by decide +kernel) rfl, im_X7_readBooking, se_X7_readBooking, in_X7, co_X7_readBooking, ds_X7_readBooking, by decide, rfl⟩
theorem vl_7_150 : VL RX7 150 yX7_readOutside cX7_readOutside mX7_readOutside 0 7 := ⟨tt_t (i := 974) (by decide +kernel) rfl, im_X7_readOutside, se_X7_readOutside, in_X7, co_X7_readOutside, ds_X7_readOutside, by decide, rfl⟩
theorem vl_7_153 : VL RX7 153 yX7_readText cX7_readText mX7_readText 0 7 := ⟨tt_t (i := 927) (by decide +kernel) rfl, im_X7_readText, se_X7_readText, in_X7, co_X7_readText, ds_X7_readText, by decide, rfl⟩
theorem vl_7_157 : VL RX7 157 yX7_isRoom cX7_isRoom mX7_isRoom 1 7 := ⟨tt_t (i := 993) (by decide +kernel) rfl, im_X7_isRoom, se_X7_isRoom, in_X7, co_X7_isRoom, ds_X7_isRoom, by decide, rfl⟩
theorem kl_7_160 : Cond.constantLong RX7 160 (6) ∈ TT := tt_t (i := 997) (by decide +kernel) rfl
theorem vl_7_162 : VL RX7 162 yX7_isGroup cX7_isGroup mX7_isGroup 1 7 := ⟨tt_t (i := 1020) (by decide +kernel) rfl, im_X7_isGroup, se_X7_isGroup, in_X7, co_X7_isGroup, ds_X7_isGroup, by decide, rfl⟩
theorem vl_7_165 : VL RX7 165 yX7_isBooking cX7_isBooking mX7_isBooking 1 7 := ⟨tt_t (i := 1028) (by decide +kernel) rfl, im_X7_isBooking, se_X7_isBooking, in_X7, co_X7_isBooking, ds_X7_isBooking, by decide, rfl⟩
theorem kl_7_168 : Cond.constantLong RX7 168 (-10) ∈ TT := tt_t (i := 1036) (by decide +kernel) rfl
theorem kl_7_170 : Cond.constantLong RX7 170 (30) ∈ TT := tt_t (i := 1037) (by decide +kernel) rfl
theorem vl_7_172 : VL RX7 172 yX7_remember cX7_remember mX7_remember 0 7 := ⟨tt_t (i := 1038) (by decide +kernel) rfl, im_X7_remember, se_X7_remember, in_X7, co_X7_remember, ds_X7_remember, by decide, rfl⟩
theorem kl_7_175 : Cond.constantLong RX7 175 (199) ∈ TT := tt_t (i := 1054) (by decide +kernel) rfl
theorem kl_7_177 : Cond.constantLong RX7 177 (12) ∈ TT := tt_t (i := 1055) (by decide +kernel) rfl
theorem kl_7_179 : Cond.constantLong RX7 179 (25) ∈ TT := tt_t (i := 1056) (by decide +kernel) rfl
theorem vl_7_181 : VL RX7 181 yX7_isSound cX7_isSound mX7_isSound 3 7 := ⟨tt_t (i := 1050) (by decide +kernel) rfl, im_X7_isSound, se_X7_isSound, in_X7, co_X7_isSound, ds_X7_isSound, by decide, rfl⟩
theorem sl_7_185 : SL RX7 185 yX7_canBook cX7_canBook mX7_canBook 4 := ⟨tt_t (i := 1057) (by decide +kernel) rfl, sm_X7_canBook, in_X7, co_X7_canBook, ds_X7_canBook⟩
theorem sl_7_188 : SL RX7 188 yX7_canCancel cX7_canCancel mX7_canCancel 2 := ⟨tt_t (i := 1064) (by decide +kernel) rfl, sm_X7_canCancel, in_X7, co_X7_canCancel, ds_X7_canCancel⟩
theorem sl_7_191 : SL RX7 191 yX7_drop cX7_drop mX7_drop 2 := ⟨tt_t (i := 1067) (by decide +kernel) rfl, sm_X7_drop, in_X7, co_X7_drop, ds_X7_drop⟩
theorem kl_7_194 : Cond.constantLong RX7 194 (-20) ∈ TT := tt_t (i := 1081) (by decide +kernel) rfl
theorem sl_7_196 : SL RX7 196 yX7_isOutside cX7_isOutside mX7_isOutside 1 := ⟨tt_t (i := 1078) (by decide +kernel) rfl, sm_X7_isOutside, in_X7, co_X7_isOutside, ds_X7_isOutside⟩
theorem kl_7_199 : Cond.constantLong RX7 199 (48) ∈ TT := tt_t (i := 1090) (by decide +kernel) rfl
theorem vl_7_201 : VL RX7 201 yX7_begin cX7_begin mX7_begin 0 7 := ⟨tt_t (i := 1114) (by decide +kernel) rfl, im_X7_begin, se_X7_begin, in_X7, co_X7_begin, ds_X7_begin, by decide, rfl⟩
theorem sl_7_204 : SL RX7 204 yX7_goAll cX7_goAll mX7_goAll 1 := ⟨tt_t (i := 1130) (by decide +kernel) rfl, sm_X7_goAll, in_X7, co_X7_goAll, ds_X7_goAll⟩
theorem kl_7_207 : Cond.constantLong RX7 207 (3) ∈ TT := tt_t (i := 1141) (by decide +kernel) rfl
theorem sl_7_209 : SL RX7 209 yX7_tenTo cX7_tenTo mX7_tenTo 1 := ⟨tt_t (i := 1142) (by decide +kernel) rfl, sm_X7_tenTo, in_X7, co_X7_tenTo, ds_X7_tenTo⟩
theorem kl_7_213 : Cond.constantLong RX7 213 (100000) ∈ TT := tt_t (i := 1146) (by decide +kernel) rfl
theorem vl_7_215 : VL RX7 215 yX7_does cX7_does mX7_does 1 7 := ⟨tt_t (i := 1147) (by decide +kernel) rfl, im_X7_does, se_X7_does, in_X7, co_X7_does, ds_X7_does, by decide, rfl⟩
theorem kl_7_218 : Cond.constantLong RX7 218 (99) ∈ TT := tt_t (i := 1155) (by decide +kernel) rfl
theorem kl_7_220 : Cond.constantLong RX7 220 (6364136223846793005) ∈ TT := tt_t (i := 1156) (by decide +kernel) rfl
theorem kl_7_222 : Cond.constantLong RX7 222 (1442695040888963407) ∈ TT := tt_t (i := 1157) (by decide +kernel) rfl
theorem vl_7_224 : VL RX7 224 yX7_markAll cX7_markAll mX7_markAll 0 7 := ⟨tt_t (i := 1158) (by decide +kernel) rfl, im_X7_markAll, se_X7_markAll, in_X7, co_X7_markAll, ds_X7_markAll, by decide, rfl⟩
theorem oi_im : Cond.instanceMethod Lib.objectInit ∈ TT := tt_t (i := 23) (by decide +kernel) rfl
theorem oi_co : Cond.code Lib.objectInit ⟨#[0xb1]⟩ 1 none ∈ TT := tt_t (i := 24) (by decide +kernel) rfl
theorem mm_smax : Cond.static Lib.Math.max.name ∈ TT := tt_t (i := 355) (by decide +kernel) rfl
theorem mm_cmax : Cond.code Lib.Math.max.name Lib.Math.max.code 2 (some .int) ∈ TT := tt_t (i := 356) (by decide +kernel) rfl
theorem mm_smin : Cond.static Lib.Math.min.name ∈ TT := tt_t (i := 406) (by decide +kernel) rfl
theorem mm_cmin : Cond.code Lib.Math.min.name Lib.Math.min.code 2 (some .int) ∈ TT := tt_t (i := 407) (by decide +kernel) rfl
theorem mm_i : Cond.initialized "java/lang/Math" ∈ TT := tt_t (i := 16) (by decide +kernel) rfl
theorem ac_n : Cond.native arraycopyName ∈ TT := tt_t (i := 343) (by decide +kernel) rfl
theorem ac_s : Cond.static arraycopyName ∈ TT := tt_t (i := 342) (by decide +kernel) rfl
theorem ac_i : Cond.initialized "java/lang/System" ∈ TT := tt_t (i := 14) (by decide +kernel) rfl
theorem ei_eA : Cond.initialized eA ∈ TT := tt_t (i := 12) (by decide +kernel) rfl
theorem ex_eA : eA ∈ exN := by decide +kernel
theorem at_eA : ∀ w ∈ vx_atS RX6 229 eA thN, w ∈ TT ∨ w ∈ nW := by decide +kernel
theorem ca_eA : Cond.castable eA eA ∈ nW := List.mem_filter.mpr ⟨List.mem_append_right _ (List.mem_of_getElem? (i := 443) (by decide +kernel)), rfl⟩
theorem ei_eS : Cond.initialized eS ∈ TT := tt_t (i := 13) (by decide +kernel) rfl
theorem ex_eS : eS ∈ exN := by decide +kernel
theorem at_eS : ∀ w ∈ vx_atS RX6 63 eS thN, w ∈ TT ∨ w ∈ nW := by decide +kernel
theorem ca_eS : Cond.castable eS eS ∈ nW := List.mem_filter.mpr ⟨List.mem_append_right _ (List.mem_of_getElem? (i := 511) (by decide +kernel)), rfl⟩
theorem ei_eI : Cond.initialized eI ∈ TT := tt_t (i := 15) (by decide +kernel) rfl
theorem ex_eI : eI ∈ exN := by decide +kernel
theorem at_eI : ∀ w ∈ vx_atS RX6 268 eI thN, w ∈ TT ∨ w ∈ nW := by decide +kernel
theorem ca_eI : Cond.castable eI eI ∈ nW := List.mem_filter.mpr ⟨List.mem_append_right _ (List.mem_of_getElem? (i := 567) (by decide +kernel)), rfl⟩
theorem cl_L_13 : Cond.classLink RL 13 eA ∈ TT := tt_t (i := 432) (by decide +kernel) rfl
theorem cl_L_15 : Cond.classLink RL 15 eS ∈ TT := tt_t (i := 433) (by decide +kernel) rfl
theorem go_eA_225 : ∀ w ∈ Cond.classLink RX6 225 eA :: Cond.initialized eA :: vx_atS RX6 229 eA thN, vx_ot w = true := by decide +kernel
theorem go_eS_59 : ∀ w ∈ Cond.classLink RX6 59 eS :: Cond.initialized eS :: vx_atS RX6 63 eS thN, vx_ot w = true := by decide +kernel
theorem cl_L_28 : Cond.classLink RL 28 eI ∈ TT := tt_t (i := 555) (by decide +kernel) rfl
theorem go_eI_264 : ∀ w ∈ Cond.classLink RX6 264 eI :: Cond.initialized eI :: vx_atS RX6 268 eI thN, vx_ot w = true := by decide +kernel
theorem ar_int : Cond.arrayClass .int ∈ TT := tt_t (i := 45) (by decide +kernel) rfl
theorem ar_boolean : Cond.arrayClass .boolean ∈ TT := tt_t (i := 218) (by decide +kernel) rfl
theorem ar_long : Cond.arrayClass .long ∈ TT := tt_t (i := 1171) (by decide +kernel) rfl
