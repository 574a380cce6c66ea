/-! printed by program: what each instruction links, by places of the tables -/
def mX0_init : MT := (1, none, [], "<init>")
theorem co_X0_init : Cond.code yX0_init cX0_init mX0_init.1 mX0_init.2.1 ∈ TT := tt_t (i := 80) (by decide +kernel) rfl
theorem im_X0_init : Cond.instanceMethod yX0_init ∈ TT := tt_t (i := 79) (by decide +kernel) rfl
theorem ds_X0_init : yX0_init.cls ≠ "java/lang/invoke/MethodHandle" ∧ yX0_init.cls ≠ "java/lang/invoke/VarHandle" ∧ (parseMethodDescriptor yX0_init.desc).map (fun d => d.parameters.length) = some 0 := by decide +kernel
def mX0_become : MT := (6, none, [], "become")
theorem co_X0_become : Cond.code yX0_become cX0_become mX0_become.1 mX0_become.2.1 ∈ TT := tt_t (i := 327) (by decide +kernel) rfl
theorem im_X0_become : Cond.instanceMethod yX0_become ∈ TT := tt_t (i := 325) (by decide +kernel) rfl
theorem se_X0_become : Cond.selects yX0_become.cls yX0_become yX0_become ∈ TT := tt_t (i := 326) (by decide +kernel) rfl
theorem ds_X0_become : yX0_become.cls ≠ "java/lang/invoke/MethodHandle" ∧ yX0_become.cls ≠ "java/lang/invoke/VarHandle" ∧ (parseMethodDescriptor yX0_become.desc).map (fun d => d.parameters.length) = some 5 := by decide +kernel
def mX0_copyFrom : MT := (2, none, [], "copyFrom")
theorem co_X0_copyFrom : Cond.code yX0_copyFrom cX0_copyFrom mX0_copyFrom.1 mX0_copyFrom.2.1 ∈ TT := tt_t (i := 411) (by decide +kernel) rfl
theorem im_X0_copyFrom : Cond.instanceMethod yX0_copyFrom ∈ TT := tt_t (i := 409) (by decide +kernel) rfl
theorem se_X0_copyFrom : Cond.selects yX0_copyFrom.cls yX0_copyFrom yX0_copyFrom ∈ TT := tt_t (i := 410) (by decide +kernel) rfl
theorem ds_X0_copyFrom : yX0_copyFrom.cls ≠ "java/lang/invoke/MethodHandle" ∧ yX0_copyFrom.cls ≠ "java/lang/invoke/VarHandle" ∧ (parseMethodDescriptor yX0_copyFrom.desc).map (fun d => d.parameters.length) = some 1 := by decide +kernel
def mX0_numberAbout : MT := (2, (some .int), [], "numberAbout")
theorem co_X0_numberAbout : Cond.code yX0_numberAbout cX0_numberAbout mX0_numberAbout.1 mX0_numberAbout.2.1 ∈ TT := tt_t (i := 588) (by decide +kernel) rfl
theorem im_X0_numberAbout : Cond.instanceMethod yX0_numberAbout ∈ TT := tt_t (i := 586) (by decide +kernel) rfl
theorem se_X0_numberAbout : Cond.selects yX0_numberAbout.cls yX0_numberAbout yX0_numberAbout ∈ TT := tt_t (i := 587) (by decide +kernel) rfl
theorem ds_X0_numberAbout : yX0_numberAbout.cls ≠ "java/lang/invoke/MethodHandle" ∧ yX0_numberAbout.cls ≠ "java/lang/invoke/VarHandle" ∧ (parseMethodDescriptor yX0_numberAbout.desc).map (fun d => d.parameters.length) = some 1 := by decide +kernel
def mX0_end : MT := (1, (some .int), [], "end")
theorem co_X0_end : Cond.code yX0_end cX0_end mX0_end.1 mX0_end.2.1 ∈ TT := tt_t (i := 319) (by decide +kernel) rfl
theorem im_X0_end : Cond.instanceMethod yX0_end ∈ TT := tt_t (i := 317) (by decide +kernel) rfl
theorem se_X0_end : Cond.selects yX0_end.cls yX0_end yX0_end ∈ TT := tt_t (i := 318) (by decide +kernel) rfl
theorem ds_X0_end : yX0_end.cls ≠ "java/lang/invoke/MethodHandle" ∧ yX0_end.cls ≠ "java/lang/invoke/VarHandle" ∧ (parseMethodDescriptor yX0_end.desc).map (fun d => d.parameters.length) = some 0 := by decide +kernel
def mX0_has : MT := (2, (some .boolean), [], "has")
theorem co_X0_has : Cond.code yX0_has cX0_has mX0_has.1 mX0_has.2.1 ∈ TT := tt_t (i := 518) (by decide +kernel) rfl
theorem im_X0_has : Cond.instanceMethod yX0_has ∈ TT := tt_t (i := 516) (by decide +kernel) rfl
theorem se_X0_has : Cond.selects yX0_has.cls yX0_has yX0_has ∈ TT := tt_t (i := 517) (by decide +kernel) rfl
theorem ds_X0_has : yX0_has.cls ≠ "java/lang/invoke/MethodHandle" ∧ yX0_has.cls ≠ "java/lang/invoke/VarHandle" ∧ (parseMethodDescriptor yX0_has.desc).map (fun d => d.parameters.length) = some 1 := by decide +kernel
def mX0_isOver : MT := (2, (some .boolean), [], "isOver")
theorem co_X0_isOver : Cond.code yX0_isOver cX0_isOver mX0_isOver.1 mX0_isOver.2.1 ∈ TT := tt_t (i := 584) (by decide +kernel) rfl
theorem im_X0_isOver : Cond.instanceMethod yX0_isOver ∈ TT := tt_t (i := 582) (by decide +kernel) rfl
theorem se_X0_isOver : Cond.selects yX0_isOver.cls yX0_isOver yX0_isOver ∈ TT := tt_t (i := 583) (by decide +kernel) rfl
theorem ds_X0_isOver : yX0_isOver.cls ≠ "java/lang/invoke/MethodHandle" ∧ yX0_isOver.cls ≠ "java/lang/invoke/VarHandle" ∧ (parseMethodDescriptor yX0_isOver.desc).map (fun d => d.parameters.length) = some 1 := by decide +kernel
def mX0_meets : MT := (3, (some .boolean), [], "meets")
theorem co_X0_meets : Cond.code yX0_meets cX0_meets mX0_meets.1 mX0_meets.2.1 ∈ TT := tt_t (i := 315) (by decide +kernel) rfl
theorem im_X0_meets : Cond.instanceMethod yX0_meets ∈ TT := tt_t (i := 313) (by decide +kernel) rfl
theorem se_X0_meets : Cond.selects yX0_meets.cls yX0_meets yX0_meets ∈ TT := tt_t (i := 314) (by decide +kernel) rfl
theorem ds_X0_meets : yX0_meets.cls ≠ "java/lang/invoke/MethodHandle" ∧ yX0_meets.cls ≠ "java/lang/invoke/VarHandle" ∧ (parseMethodDescriptor yX0_meets.desc).map (fun d => d.parameters.length) = some 2 := by decide +kernel
def mX0_mayGo : MT := (2, (some .boolean), [], "mayGo")
theorem co_X0_mayGo : Cond.code yX0_mayGo cX0_mayGo mX0_mayGo.1 mX0_mayGo.2.1 ∈ TT := tt_t (i := 691) (by decide +kernel) rfl
theorem im_X0_mayGo : Cond.instanceMethod yX0_mayGo ∈ TT := tt_t (i := 689) (by decide +kernel) rfl
theorem se_X0_mayGo : Cond.selects yX0_mayGo.cls yX0_mayGo yX0_mayGo ∈ TT := tt_t (i := 690) (by decide +kernel) rfl
theorem ds_X0_mayGo : yX0_mayGo.cls ≠ "java/lang/invoke/MethodHandle" ∧ yX0_mayGo.cls ≠ "java/lang/invoke/VarHandle" ∧ (parseMethodDescriptor yX0_mayGo.desc).map (fun d => d.parameters.length) = some 1 := by decide +kernel
def mX1_init : MT := (1, none, [], "<init>")
theorem co_X1_init : Cond.code yX1_init cX1_init mX1_init.1 mX1_init.2.1 ∈ TT := tt_t (i := 199) (by decide +kernel) rfl
theorem im_X1_init : Cond.instanceMethod yX1_init ∈ TT := tt_t (i := 198) (by decide +kernel) rfl
theorem ds_X1_init : yX1_init.cls ≠ "java/lang/invoke/MethodHandle" ∧ yX1_init.cls ≠ "java/lang/invoke/VarHandle" ∧ (parseMethodDescriptor yX1_init.desc).map (fun d => d.parameters.length) = some 0 := by decide +kernel
def mX1_withoutLast : MT := (6, (some .long), [], "withoutLast")
theorem co_X1_withoutLast : Cond.code yX1_withoutLast cX1_withoutLast mX1_withoutLast.1 mX1_withoutLast.2.1 ∈ TT := tt_t (i := 770) (by decide +kernel) rfl
theorem sm_X1_withoutLast : Cond.static yX1_withoutLast ∈ TT := tt_t (i := 769) (by decide +kernel) rfl
theorem ds_X1_withoutLast : yX1_withoutLast.cls ≠ "java/lang/invoke/MethodHandle" ∧ yX1_withoutLast.cls ≠ "java/lang/invoke/VarHandle" ∧ (parseMethodDescriptor yX1_withoutLast.desc).map (fun d => d.parameters.length) = some 2 := by decide +kernel
def mX1_become : MT := (4, none, [], "become")
theorem co_X1_become : Cond.code yX1_become cX1_become mX1_become.1 mX1_become.2.1 ∈ TT := tt_t (i := 776) (by decide +kernel) rfl
theorem im_X1_become : Cond.instanceMethod yX1_become ∈ TT := tt_t (i := 774) (by decide +kernel) rfl
theorem se_X1_become : Cond.selects yX1_become.cls yX1_become yX1_become ∈ TT := tt_t (i := 775) (by decide +kernel) rfl
theorem ds_X1_become : yX1_become.cls ≠ "java/lang/invoke/MethodHandle" ∧ yX1_become.cls ≠ "java/lang/invoke/VarHandle" ∧ (parseMethodDescriptor yX1_become.desc).map (fun d => d.parameters.length) = some 1 := by decide +kernel
def mX1_succeedsOn : MT := (2, (some .boolean), [], "succeedsOn")
theorem co_X1_succeedsOn : Cond.code yX1_succeedsOn cX1_succeedsOn mX1_succeedsOn.1 mX1_succeedsOn.2.1 ∈ TT := tt_t (i := 780) (by decide +kernel) rfl
theorem im_X1_succeedsOn : Cond.instanceMethod yX1_succeedsOn ∈ TT := tt_t (i := 778) (by decide +kernel) rfl
theorem se_X1_succeedsOn : Cond.selects yX1_succeedsOn.cls yX1_succeedsOn yX1_succeedsOn ∈ TT := tt_t (i := 779) (by decide +kernel) rfl
theorem ds_X1_succeedsOn : yX1_succeedsOn.cls ≠ "java/lang/invoke/MethodHandle" ∧ yX1_succeedsOn.cls ≠ "java/lang/invoke/VarHandle" ∧ (parseMethodDescriptor yX1_succeedsOn.desc).map (fun d => d.parameters.length) = some 1 := by decide +kernel
def mX1_letsPass : MT := (4, (some .boolean), [], "letsPass")
theorem co_X1_letsPass : Cond.code yX1_letsPass cX1_letsPass mX1_letsPass.1 mX1_letsPass.2.1 ∈ TT := tt_t (i := 784) (by decide +kernel) rfl
theorem im_X1_letsPass : Cond.instanceMethod yX1_letsPass ∈ TT := tt_t (i := 783) (by decide +kernel) rfl
theorem se_X1_letsPass : Cond.selects yX1_letsPass.cls yX1_letsPass yX1_letsPass ∈ TT := tt_p (i := 20) (by decide +kernel) rfl
theorem ds_X1_letsPass : yX1_letsPass.cls ≠ "java/lang/invoke/MethodHandle" ∧ yX1_letsPass.cls ≠ "java/lang/invoke/VarHandle" ∧ (parseMethodDescriptor yX1_letsPass.desc).map (fun d => d.parameters.length) = some 2 := by decide +kernel
def mX1_changesOutdoors : MT := (4, (some .boolean), [], "changesOutdoors")
theorem co_X1_changesOutdoors : Cond.code yX1_changesOutdoors cX1_changesOutdoors mX1_changesOutdoors.1 mX1_changesOutdoors.2.1 ∈ TT := tt_t (i := 789) (by decide +kernel) rfl
theorem im_X1_changesOutdoors : Cond.instanceMethod yX1_changesOutdoors ∈ TT := tt_t (i := 788) (by decide +kernel) rfl
theorem se_X1_changesOutdoors : Cond.selects yX1_changesOutdoors.cls yX1_changesOutdoors yX1_changesOutdoors ∈ TT := tt_p (i := 21) (by decide +kernel) rfl
theorem ds_X1_changesOutdoors : yX1_changesOutdoors.cls ≠ "java/lang/invoke/MethodHandle" ∧ yX1_changesOutdoors.cls ≠ "java/lang/invoke/VarHandle" ∧ (parseMethodDescriptor yX1_changesOutdoors.desc).map (fun d => d.parameters.length) = some 2 := by decide +kernel
def mX1_proves : MT := (2, (some .boolean), [], "proves")
theorem co_X1_proves : Cond.code yX1_proves cX1_proves mX1_proves.1 mX1_proves.2.1 ∈ TT := tt_t (i := 793) (by decide +kernel) rfl
theorem im_X1_proves : Cond.instanceMethod yX1_proves ∈ TT := tt_t (i := 792) (by decide +kernel) rfl
theorem se_X1_proves : Cond.selects yX1_proves.cls yX1_proves yX1_proves ∈ TT := tt_p (i := 22) (by decide +kernel) rfl
theorem ds_X1_proves : yX1_proves.cls ≠ "java/lang/invoke/MethodHandle" ∧ yX1_proves.cls ≠ "java/lang/invoke/VarHandle" ∧ (parseMethodDescriptor yX1_proves.desc).map (fun d => d.parameters.length) = some 1 := by decide +kernel
def mX1_pays : MT := (2, (some .boolean), [], "pays")
theorem co_X1_pays : Cond.code yX1_pays cX1_pays mX1_pays.1 mX1_pays.2.1 ∈ TT := tt_t (i := 800) (by decide +kernel) rfl
theorem im_X1_pays : Cond.instanceMethod yX1_pays ∈ TT := tt_t (i := 799) (by decide +kernel) rfl
theorem se_X1_pays : Cond.selects yX1_pays.cls yX1_pays yX1_pays ∈ TT := tt_p (i := 23) (by decide +kernel) rfl
theorem ds_X1_pays : yX1_pays.cls ≠ "java/lang/invoke/MethodHandle" ∧ yX1_pays.cls ≠ "java/lang/invoke/VarHandle" ∧ (parseMethodDescriptor yX1_pays.desc).map (fun d => d.parameters.length) = some 1 := by decide +kernel
def mX1_cancels : MT := (4, (some .boolean), [], "cancels")
theorem co_X1_cancels : Cond.code yX1_cancels cX1_cancels mX1_cancels.1 mX1_cancels.2.1 ∈ TT := tt_t (i := 806) (by decide +kernel) rfl
theorem im_X1_cancels : Cond.instanceMethod yX1_cancels ∈ TT := tt_t (i := 805) (by decide +kernel) rfl
theorem se_X1_cancels : Cond.selects yX1_cancels.cls yX1_cancels yX1_cancels ∈ TT := tt_p (i := 24) (by decide +kernel) rfl
theorem ds_X1_cancels : yX1_cancels.cls ≠ "java/lang/invoke/MethodHandle" ∧ yX1_cancels.cls ≠ "java/lang/invoke/VarHandle" ∧ (parseMethodDescriptor yX1_cancels.desc).map (fun d => d.parameters.length) = some 1 := by decide +kernel
def mX1_isAsWarm : MT := (3, (some .boolean), [], "isAsWarm")
theorem co_X1_isAsWarm : Cond.code yX1_isAsWarm cX1_isAsWarm mX1_isAsWarm.1 mX1_isAsWarm.2.1 ∈ TT := tt_t (i := 813) (by decide +kernel) rfl
theorem im_X1_isAsWarm : Cond.instanceMethod yX1_isAsWarm ∈ TT := tt_t (i := 812) (by decide +kernel) rfl
theorem se_X1_isAsWarm : Cond.selects yX1_isAsWarm.cls yX1_isAsWarm yX1_isAsWarm ∈ TT := tt_p (i := 25) (by decide +kernel) rfl
theorem ds_X1_isAsWarm : yX1_isAsWarm.cls ≠ "java/lang/invoke/MethodHandle" ∧ yX1_isAsWarm.cls ≠ "java/lang/invoke/VarHandle" ∧ (parseMethodDescriptor yX1_isAsWarm.desc).map (fun d => d.parameters.length) = some 2 := by decide +kernel
def mX1_isOverOrNot : MT := (3, (some .boolean), [], "isOverOrNot")
theorem co_X1_isOverOrNot : Cond.code yX1_isOverOrNot cX1_isOverOrNot mX1_isOverOrNot.1 mX1_isOverOrNot.2.1 ∈ TT := tt_t (i := 818) (by decide +kernel) rfl
theorem im_X1_isOverOrNot : Cond.instanceMethod yX1_isOverOrNot ∈ TT := tt_t (i := 817) (by decide +kernel) rfl
theorem se_X1_isOverOrNot : Cond.selects yX1_isOverOrNot.cls yX1_isOverOrNot yX1_isOverOrNot ∈ TT := tt_p (i := 26) (by decide +kernel) rfl
theorem ds_X1_isOverOrNot : yX1_isOverOrNot.cls ≠ "java/lang/invoke/MethodHandle" ∧ yX1_isOverOrNot.cls ≠ "java/lang/invoke/VarHandle" ∧ (parseMethodDescriptor yX1_isOverOrNot.desc).map (fun d => d.parameters.length) = some 1 := by decide +kernel
def mX2_init : MT := (2, none, [], "<init>")
theorem co_X2_init : Cond.code yX2_init cX2_init mX2_init.1 mX2_init.2.1 ∈ TT := tt_t (i := 49) (by decide +kernel) rfl
theorem im_X2_init : Cond.instanceMethod yX2_init ∈ TT := tt_t (i := 48) (by decide +kernel) rfl
theorem ds_X2_init : yX2_init.cls ≠ "java/lang/invoke/MethodHandle" ∧ yX2_init.cls ≠ "java/lang/invoke/VarHandle" ∧ (parseMethodDescriptor yX2_init.desc).map (fun d => d.parameters.length) = some 0 := by decide +kernel
def mX2_clear : MT := (1, none, [], "clear")
theorem co_X2_clear : Cond.code yX2_clear cX2_clear mX2_clear.1 mX2_clear.2.1 ∈ TT := tt_t (i := 263) (by decide +kernel) rfl
theorem im_X2_clear : Cond.instanceMethod yX2_clear ∈ TT := tt_t (i := 261) (by decide +kernel) rfl
theorem se_X2_clear : Cond.selects yX2_clear.cls yX2_clear yX2_clear ∈ TT := tt_t (i := 262) (by decide +kernel) rfl
theorem ds_X2_clear : yX2_clear.cls ≠ "java/lang/invoke/MethodHandle" ∧ yX2_clear.cls ≠ "java/lang/invoke/VarHandle" ∧ (parseMethodDescriptor yX2_clear.desc).map (fun d => d.parameters.length) = some 0 := by decide +kernel
def mX2_copyFrom : MT := (3, none, [], "copyFrom")
theorem co_X2_copyFrom : Cond.code yX2_copyFrom cX2_copyFrom mX2_copyFrom.1 mX2_copyFrom.2.1 ∈ TT := tt_t (i := 399) (by decide +kernel) rfl
theorem im_X2_copyFrom : Cond.instanceMethod yX2_copyFrom ∈ TT := tt_t (i := 397) (by decide +kernel) rfl
theorem se_X2_copyFrom : Cond.selects yX2_copyFrom.cls yX2_copyFrom yX2_copyFrom ∈ TT := tt_t (i := 398) (by decide +kernel) rfl
theorem ds_X2_copyFrom : yX2_copyFrom.cls ≠ "java/lang/invoke/MethodHandle" ∧ yX2_copyFrom.cls ≠ "java/lang/invoke/VarHandle" ∧ (parseMethodDescriptor yX2_copyFrom.desc).map (fun d => d.parameters.length) = some 1 := by decide +kernel
def mX2_numberAbout : MT := (2, (some .int), [], "numberAbout")
theorem co_X2_numberAbout : Cond.code yX2_numberAbout cX2_numberAbout mX2_numberAbout.1 mX2_numberAbout.2.1 ∈ TT := tt_t (i := 492) (by decide +kernel) rfl
theorem im_X2_numberAbout : Cond.instanceMethod yX2_numberAbout ∈ TT := tt_t (i := 490) (by decide +kernel) rfl
theorem se_X2_numberAbout : Cond.selects yX2_numberAbout.cls yX2_numberAbout yX2_numberAbout ∈ TT := tt_t (i := 491) (by decide +kernel) rfl
theorem ds_X2_numberAbout : yX2_numberAbout.cls ≠ "java/lang/invoke/MethodHandle" ∧ yX2_numberAbout.cls ≠ "java/lang/invoke/VarHandle" ∧ (parseMethodDescriptor yX2_numberAbout.desc).map (fun d => d.parameters.length) = some 1 := by decide +kernel
def mX2_findRoom : MT := (2, (some (.object "HallHeating$Room")), [], "findRoom")
theorem co_X2_findRoom : Cond.code yX2_findRoom cX2_findRoom mX2_findRoom.1 mX2_findRoom.2.1 ∈ TT := tt_t (i := 509) (by decide +kernel) rfl
theorem im_X2_findRoom : Cond.instanceMethod yX2_findRoom ∈ TT := tt_t (i := 507) (by decide +kernel) rfl
theorem se_X2_findRoom : Cond.selects yX2_findRoom.cls yX2_findRoom yX2_findRoom ∈ TT := tt_t (i := 508) (by decide +kernel) rfl
theorem ds_X2_findRoom : yX2_findRoom.cls ≠ "java/lang/invoke/MethodHandle" ∧ yX2_findRoom.cls ≠ "java/lang/invoke/VarHandle" ∧ (parseMethodDescriptor yX2_findRoom.desc).map (fun d => d.parameters.length) = some 1 := by decide +kernel
def mX2_hasGroup : MT := (2, (some .boolean), [], "hasGroup")
theorem co_X2_hasGroup : Cond.code yX2_hasGroup cX2_hasGroup mX2_hasGroup.1 mX2_hasGroup.2.1 ∈ TT := tt_t (i := 560) (by decide +kernel) rfl
theorem im_X2_hasGroup : Cond.instanceMethod yX2_hasGroup ∈ TT := tt_t (i := 558) (by decide +kernel) rfl
theorem se_X2_hasGroup : Cond.selects yX2_hasGroup.cls yX2_hasGroup yX2_hasGroup ∈ TT := tt_t (i := 559) (by decide +kernel) rfl
theorem ds_X2_hasGroup : yX2_hasGroup.cls ≠ "java/lang/invoke/MethodHandle" ∧ yX2_hasGroup.cls ≠ "java/lang/invoke/VarHandle" ∧ (parseMethodDescriptor yX2_hasGroup.desc).map (fun d => d.parameters.length) = some 1 := by decide +kernel
def mX2_findBooking : MT := (2, (some (.object "HallHeating$Booking")), [], "findBooking")
theorem co_X2_findBooking : Cond.code yX2_findBooking cX2_findBooking mX2_findBooking.1 mX2_findBooking.2.1 ∈ TT := tt_t (i := 533) (by decide +kernel) rfl
theorem im_X2_findBooking : Cond.instanceMethod yX2_findBooking ∈ TT := tt_t (i := 531) (by decide +kernel) rfl
theorem se_X2_findBooking : Cond.selects yX2_findBooking.cls yX2_findBooking yX2_findBooking ∈ TT := tt_t (i := 532) (by decide +kernel) rfl
theorem ds_X2_findBooking : yX2_findBooking.cls ≠ "java/lang/invoke/MethodHandle" ∧ yX2_findBooking.cls ≠ "java/lang/invoke/VarHandle" ∧ (parseMethodDescriptor yX2_findBooking.desc).map (fun d => d.parameters.length) = some 1 := by decide +kernel
def mX2_newRoom : MT := (5, (some .int), [], "newRoom")
theorem co_X2_newRoom : Cond.code yX2_newRoom cX2_newRoom mX2_newRoom.1 mX2_newRoom.2.1 ∈ TT := tt_t (i := 287) (by decide +kernel) rfl
theorem im_X2_newRoom : Cond.instanceMethod yX2_newRoom ∈ TT := tt_t (i := 285) (by decide +kernel) rfl
theorem se_X2_newRoom : Cond.selects yX2_newRoom.cls yX2_newRoom yX2_newRoom ∈ TT := tt_t (i := 286) (by decide +kernel) rfl
theorem ds_X2_newRoom : yX2_newRoom.cls ≠ "java/lang/invoke/MethodHandle" ∧ yX2_newRoom.cls ≠ "java/lang/invoke/VarHandle" ∧ (parseMethodDescriptor yX2_newRoom.desc).map (fun d => d.parameters.length) = some 4 := by decide +kernel
def mX2_newGroup : MT := (1, (some .int), [], "newGroup")
theorem co_X2_newGroup : Cond.code yX2_newGroup cX2_newGroup mX2_newGroup.1 mX2_newGroup.2.1 ∈ TT := tt_t (i := 299) (by decide +kernel) rfl
theorem im_X2_newGroup : Cond.instanceMethod yX2_newGroup ∈ TT := tt_t (i := 297) (by decide +kernel) rfl
theorem se_X2_newGroup : Cond.selects yX2_newGroup.cls yX2_newGroup yX2_newGroup ∈ TT := tt_t (i := 298) (by decide +kernel) rfl
theorem ds_X2_newGroup : yX2_newGroup.cls ≠ "java/lang/invoke/MethodHandle" ∧ yX2_newGroup.cls ≠ "java/lang/invoke/VarHandle" ∧ (parseMethodDescriptor yX2_newGroup.desc).map (fun d => d.parameters.length) = some 0 := by decide +kernel
def mX2_hasPlaceFor : MT := (5, (some .boolean), [], "hasPlaceFor")
theorem co_X2_hasPlaceFor : Cond.code yX2_hasPlaceFor cX2_hasPlaceFor mX2_hasPlaceFor.1 mX2_hasPlaceFor.2.1 ∈ TT := tt_t (i := 311) (by decide +kernel) rfl
theorem im_X2_hasPlaceFor : Cond.instanceMethod yX2_hasPlaceFor ∈ TT := tt_t (i := 309) (by decide +kernel) rfl
theorem se_X2_hasPlaceFor : Cond.selects yX2_hasPlaceFor.cls yX2_hasPlaceFor yX2_hasPlaceFor ∈ TT := tt_t (i := 310) (by decide +kernel) rfl
theorem ds_X2_hasPlaceFor : yX2_hasPlaceFor.cls ≠ "java/lang/invoke/MethodHandle" ∧ yX2_hasPlaceFor.cls ≠ "java/lang/invoke/VarHandle" ∧ (parseMethodDescriptor yX2_hasPlaceFor.desc).map (fun d => d.parameters.length) = some 3 := by decide +kernel
def mX2_newBooking : MT := (6, (some .int), [], "newBooking")
theorem co_X2_newBooking : Cond.code yX2_newBooking cX2_newBooking mX2_newBooking.1 mX2_newBooking.2.1 ∈ TT := tt_t (i := 323) (by decide +kernel) rfl
theorem im_X2_newBooking : Cond.instanceMethod yX2_newBooking ∈ TT := tt_t (i := 321) (by decide +kernel) rfl
theorem se_X2_newBooking : Cond.selects yX2_newBooking.cls yX2_newBooking yX2_newBooking ∈ TT := tt_t (i := 322) (by decide +kernel) rfl
theorem ds_X2_newBooking : yX2_newBooking.cls ≠ "java/lang/invoke/MethodHandle" ∧ yX2_newBooking.cls ≠ "java/lang/invoke/VarHandle" ∧ (parseMethodDescriptor yX2_newBooking.desc).map (fun d => d.parameters.length) = some 5 := by decide +kernel
def mX2_removeBooking : MT := (4, none, [], "removeBooking")
theorem co_X2_removeBooking : Cond.code yX2_removeBooking cX2_removeBooking mX2_removeBooking.1 mX2_removeBooking.2.1 ∈ TT := tt_t (i := 696) (by decide +kernel) rfl
theorem im_X2_removeBooking : Cond.instanceMethod yX2_removeBooking ∈ TT := tt_t (i := 694) (by decide +kernel) rfl
theorem se_X2_removeBooking : Cond.selects yX2_removeBooking.cls yX2_removeBooking yX2_removeBooking ∈ TT := tt_t (i := 695) (by decide +kernel) rfl
theorem ds_X2_removeBooking : yX2_removeBooking.cls ≠ "java/lang/invoke/MethodHandle" ∧ yX2_removeBooking.cls ≠ "java/lang/invoke/VarHandle" ∧ (parseMethodDescriptor yX2_removeBooking.desc).map (fun d => d.parameters.length) = some 1 := by decide +kernel
def mX2_bookingOfNow : MT := (3, (some .int), [], "bookingOfNow")
theorem co_X2_bookingOfNow : Cond.code yX2_bookingOfNow cX2_bookingOfNow mX2_bookingOfNow.1 mX2_bookingOfNow.2.1 ∈ TT := tt_t (i := 514) (by decide +kernel) rfl
theorem im_X2_bookingOfNow : Cond.instanceMethod yX2_bookingOfNow ∈ TT := tt_t (i := 512) (by decide +kernel) rfl
theorem se_X2_bookingOfNow : Cond.selects yX2_bookingOfNow.cls yX2_bookingOfNow yX2_bookingOfNow ∈ TT := tt_t (i := 513) (by decide +kernel) rfl
theorem ds_X2_bookingOfNow : yX2_bookingOfNow.cls ≠ "java/lang/invoke/MethodHandle" ∧ yX2_bookingOfNow.cls ≠ "java/lang/invoke/VarHandle" ∧ (parseMethodDescriptor yX2_bookingOfNow.desc).map (fun d => d.parameters.length) = some 1 := by decide +kernel
def mX2_nextBooking : MT := (6, (some .int), [], "nextBooking")
theorem co_X2_nextBooking : Cond.code yX2_nextBooking cX2_nextBooking mX2_nextBooking.1 mX2_nextBooking.2.1 ∈ TT := tt_t (i := 522) (by decide +kernel) rfl
theorem im_X2_nextBooking : Cond.instanceMethod yX2_nextBooking ∈ TT := tt_t (i := 520) (by decide +kernel) rfl
theorem se_X2_nextBooking : Cond.selects yX2_nextBooking.cls yX2_nextBooking yX2_nextBooking ∈ TT := tt_t (i := 521) (by decide +kernel) rfl
theorem ds_X2_nextBooking : yX2_nextBooking.cls ≠ "java/lang/invoke/MethodHandle" ∧ yX2_nextBooking.cls ≠ "java/lang/invoke/VarHandle" ∧ (parseMethodDescriptor yX2_nextBooking.desc).map (fun d => d.parameters.length) = some 1 := by decide +kernel
def mX2_heatingBooking : MT := (4, (some .int), [], "heatingBooking")
theorem co_X2_heatingBooking : Cond.code yX2_heatingBooking cX2_heatingBooking mX2_heatingBooking.1 mX2_heatingBooking.2.1 ∈ TT := tt_t (i := 526) (by decide +kernel) rfl
theorem im_X2_heatingBooking : Cond.instanceMethod yX2_heatingBooking ∈ TT := tt_t (i := 524) (by decide +kernel) rfl
theorem se_X2_heatingBooking : Cond.selects yX2_heatingBooking.cls yX2_heatingBooking yX2_heatingBooking ∈ TT := tt_t (i := 525) (by decide +kernel) rfl
theorem ds_X2_heatingBooking : yX2_heatingBooking.cls ≠ "java/lang/invoke/MethodHandle" ∧ yX2_heatingBooking.cls ≠ "java/lang/invoke/VarHandle" ∧ (parseMethodDescriptor yX2_heatingBooking.desc).map (fun d => d.parameters.length) = some 1 := by decide +kernel
def mX2_mustPreheat : MT := (4, (some .boolean), [], "mustPreheat")
theorem co_X2_mustPreheat : Cond.code yX2_mustPreheat cX2_mustPreheat mX2_mustPreheat.1 mX2_mustPreheat.2.1 ∈ TT := tt_t (i := 537) (by decide +kernel) rfl
theorem im_X2_mustPreheat : Cond.instanceMethod yX2_mustPreheat ∈ TT := tt_t (i := 536) (by decide +kernel) rfl
theorem se_X2_mustPreheat : Cond.selects yX2_mustPreheat.cls yX2_mustPreheat yX2_mustPreheat ∈ TT := tt_p (i := 10) (by decide +kernel) rfl
theorem ds_X2_mustPreheat : yX2_mustPreheat.cls ≠ "java/lang/invoke/MethodHandle" ∧ yX2_mustPreheat.cls ≠ "java/lang/invoke/VarHandle" ∧ (parseMethodDescriptor yX2_mustPreheat.desc).map (fun d => d.parameters.length) = some 2 := by decide +kernel
def mX2_mark : MT := (4, none, [], "mark")
theorem co_X2_mark : Cond.code yX2_mark cX2_mark mX2_mark.1 mX2_mark.2.1 ∈ TT := tt_t (i := 708) (by decide +kernel) rfl
theorem im_X2_mark : Cond.instanceMethod yX2_mark ∈ TT := tt_t (i := 706) (by decide +kernel) rfl
theorem se_X2_mark : Cond.selects yX2_mark.cls yX2_mark yX2_mark ∈ TT := tt_t (i := 707) (by decide +kernel) rfl
theorem ds_X2_mark : yX2_mark.cls ≠ "java/lang/invoke/MethodHandle" ∧ yX2_mark.cls ≠ "java/lang/invoke/VarHandle" ∧ (parseMethodDescriptor yX2_mark.desc).map (fun d => d.parameters.length) = some 2 := by decide +kernel
def mX2_markAll : MT := (2, none, [], "markAll")
theorem co_X2_markAll : Cond.code yX2_markAll cX2_markAll mX2_markAll.1 mX2_markAll.2.1 ∈ TT := tt_t (i := 833) (by decide +kernel) rfl
theorem im_X2_markAll : Cond.instanceMethod yX2_markAll ∈ TT := tt_t (i := 831) (by decide +kernel) rfl
theorem se_X2_markAll : Cond.selects yX2_markAll.cls yX2_markAll yX2_markAll ∈ TT := tt_t (i := 832) (by decide +kernel) rfl
theorem ds_X2_markAll : yX2_markAll.cls ≠ "java/lang/invoke/MethodHandle" ∧ yX2_markAll.cls ≠ "java/lang/invoke/VarHandle" ∧ (parseMethodDescriptor yX2_markAll.desc).map (fun d => d.parameters.length) = some 0 := by decide +kernel
def mX2_owedBy : MT := (2, (some .int), [], "owedBy")
theorem co_X2_owedBy : Cond.code yX2_owedBy cX2_owedBy mX2_owedBy.1 mX2_owedBy.2.1 ∈ TT := tt_t (i := 565) (by decide +kernel) rfl
theorem im_X2_owedBy : Cond.instanceMethod yX2_owedBy ∈ TT := tt_t (i := 563) (by decide +kernel) rfl
theorem se_X2_owedBy : Cond.selects yX2_owedBy.cls yX2_owedBy yX2_owedBy ∈ TT := tt_t (i := 564) (by decide +kernel) rfl
theorem ds_X2_owedBy : yX2_owedBy.cls ≠ "java/lang/invoke/MethodHandle" ∧ yX2_owedBy.cls ≠ "java/lang/invoke/VarHandle" ∧ (parseMethodDescriptor yX2_owedBy.desc).map (fun d => d.parameters.length) = some 1 := by decide +kernel
def mX2_settle : MT := (3, (some .int), [], "settle")
theorem co_X2_settle : Cond.code yX2_settle cX2_settle mX2_settle.1 mX2_settle.2.1 ∈ TT := tt_t (i := 726) (by decide +kernel) rfl
theorem im_X2_settle : Cond.instanceMethod yX2_settle ∈ TT := tt_t (i := 724) (by decide +kernel) rfl
theorem se_X2_settle : Cond.selects yX2_settle.cls yX2_settle yX2_settle ∈ TT := tt_t (i := 725) (by decide +kernel) rfl
theorem ds_X2_settle : yX2_settle.cls ≠ "java/lang/invoke/MethodHandle" ∧ yX2_settle.cls ≠ "java/lang/invoke/VarHandle" ∧ (parseMethodDescriptor yX2_settle.desc).map (fun d => d.parameters.length) = some 1 := by decide +kernel
def mX2_letHoursPass : MT := (3, none, [], "letHoursPass")
theorem co_X2_letHoursPass : Cond.code yX2_letHoursPass cX2_letHoursPass mX2_letHoursPass.1 mX2_letHoursPass.2.1 ∈ TT := tt_t (i := 599) (by decide +kernel) rfl
theorem im_X2_letHoursPass : Cond.instanceMethod yX2_letHoursPass ∈ TT := tt_t (i := 597) (by decide +kernel) rfl
theorem se_X2_letHoursPass : Cond.selects yX2_letHoursPass.cls yX2_letHoursPass yX2_letHoursPass ∈ TT := tt_t (i := 598) (by decide +kernel) rfl
theorem ds_X2_letHoursPass : yX2_letHoursPass.cls ≠ "java/lang/invoke/MethodHandle" ∧ yX2_letHoursPass.cls ≠ "java/lang/invoke/VarHandle" ∧ (parseMethodDescriptor yX2_letHoursPass.desc).map (fun d => d.parameters.length) = some 1 := by decide +kernel
def mX2_letHourPass : MT := (3, none, [], "letHourPass")
theorem co_X2_letHourPass : Cond.code yX2_letHourPass cX2_letHourPass mX2_letHourPass.1 mX2_letHourPass.2.1 ∈ TT := tt_t (i := 603) (by decide +kernel) rfl
theorem im_X2_letHourPass : Cond.instanceMethod yX2_letHourPass ∈ TT := tt_t (i := 601) (by decide +kernel) rfl
theorem se_X2_letHourPass : Cond.selects yX2_letHourPass.cls yX2_letHourPass yX2_letHourPass ∈ TT := tt_t (i := 602) (by decide +kernel) rfl
theorem ds_X2_letHourPass : yX2_letHourPass.cls ≠ "java/lang/invoke/MethodHandle" ∧ yX2_letHourPass.cls ≠ "java/lang/invoke/VarHandle" ∧ (parseMethodDescriptor yX2_letHourPass.desc).map (fun d => d.parameters.length) = some 0 := by decide +kernel
def mX2_heatRoom : MT := (5, (some .int), [], "heatRoom")
theorem co_X2_heatRoom : Cond.code yX2_heatRoom cX2_heatRoom mX2_heatRoom.1 mX2_heatRoom.2.1 ∈ TT := tt_t (i := 608) (by decide +kernel) rfl
theorem im_X2_heatRoom : Cond.instanceMethod yX2_heatRoom ∈ TT := tt_t (i := 607) (by decide +kernel) rfl
theorem se_X2_heatRoom : Cond.selects yX2_heatRoom.cls yX2_heatRoom yX2_heatRoom ∈ TT := tt_p (i := 13) (by decide +kernel) rfl
theorem ds_X2_heatRoom : yX2_heatRoom.cls ≠ "java/lang/invoke/MethodHandle" ∧ yX2_heatRoom.cls ≠ "java/lang/invoke/VarHandle" ∧ (parseMethodDescriptor yX2_heatRoom.desc).map (fun d => d.parameters.length) = some 2 := by decide +kernel
def mX2_chargePreheat : MT := (3, none, [], "chargePreheat")
theorem co_X2_chargePreheat : Cond.code yX2_chargePreheat cX2_chargePreheat mX2_chargePreheat.1 mX2_chargePreheat.2.1 ∈ TT := tt_t (i := 630) (by decide +kernel) rfl
theorem im_X2_chargePreheat : Cond.instanceMethod yX2_chargePreheat ∈ TT := tt_t (i := 629) (by decide +kernel) rfl
theorem se_X2_chargePreheat : Cond.selects yX2_chargePreheat.cls yX2_chargePreheat yX2_chargePreheat ∈ TT := tt_p (i := 16) (by decide +kernel) rfl
theorem ds_X2_chargePreheat : yX2_chargePreheat.cls ≠ "java/lang/invoke/MethodHandle" ∧ yX2_chargePreheat.cls ≠ "java/lang/invoke/VarHandle" ∧ (parseMethodDescriptor yX2_chargePreheat.desc).map (fun d => d.parameters.length) = some 2 := by decide +kernel
def mX2_chargeOwnHour : MT := (4, none, [], "chargeOwnHour")
theorem co_X2_chargeOwnHour : Cond.code yX2_chargeOwnHour cX2_chargeOwnHour mX2_chargeOwnHour.1 mX2_chargeOwnHour.2.1 ∈ TT := tt_t (i := 622) (by decide +kernel) rfl
theorem im_X2_chargeOwnHour : Cond.instanceMethod yX2_chargeOwnHour ∈ TT := tt_t (i := 621) (by decide +kernel) rfl
theorem se_X2_chargeOwnHour : Cond.selects yX2_chargeOwnHour.cls yX2_chargeOwnHour yX2_chargeOwnHour ∈ TT := tt_p (i := 14) (by decide +kernel) rfl
theorem ds_X2_chargeOwnHour : yX2_chargeOwnHour.cls ≠ "java/lang/invoke/MethodHandle" ∧ yX2_chargeOwnHour.cls ≠ "java/lang/invoke/VarHandle" ∧ (parseMethodDescriptor yX2_chargeOwnHour.desc).map (fun d => d.parameters.length) = some 3 := by decide +kernel
def mX2_chargeGroup : MT := (3, none, [], "chargeGroup")
theorem co_X2_chargeGroup : Cond.code yX2_chargeGroup cX2_chargeGroup mX2_chargeGroup.1 mX2_chargeGroup.2.1 ∈ TT := tt_t (i := 626) (by decide +kernel) rfl
theorem im_X2_chargeGroup : Cond.instanceMethod yX2_chargeGroup ∈ TT := tt_t (i := 625) (by decide +kernel) rfl
theorem se_X2_chargeGroup : Cond.selects yX2_chargeGroup.cls yX2_chargeGroup yX2_chargeGroup ∈ TT := tt_p (i := 15) (by decide +kernel) rfl
theorem ds_X2_chargeGroup : yX2_chargeGroup.cls ≠ "java/lang/invoke/MethodHandle" ∧ yX2_chargeGroup.cls ≠ "java/lang/invoke/VarHandle" ∧ (parseMethodDescriptor yX2_chargeGroup.desc).map (fun d => d.parameters.length) = some 2 := by decide +kernel
def mX2_leaveHeat : MT := (5, none, [], "leaveHeat")
theorem co_X2_leaveHeat : Cond.code yX2_leaveHeat cX2_leaveHeat mX2_leaveHeat.1 mX2_leaveHeat.2.1 ∈ TT := tt_t (i := 635) (by decide +kernel) rfl
theorem im_X2_leaveHeat : Cond.instanceMethod yX2_leaveHeat ∈ TT := tt_t (i := 634) (by decide +kernel) rfl
theorem se_X2_leaveHeat : Cond.selects yX2_leaveHeat.cls yX2_leaveHeat yX2_leaveHeat ∈ TT := tt_p (i := 17) (by decide +kernel) rfl
theorem ds_X2_leaveHeat : yX2_leaveHeat.cls ≠ "java/lang/invoke/MethodHandle" ∧ yX2_leaveHeat.cls ≠ "java/lang/invoke/VarHandle" ∧ (parseMethodDescriptor yX2_leaveHeat.desc).map (fun d => d.parameters.length) = some 1 := by decide +kernel
def mX2_endOfBookings : MT := (3, (some .int), [], "endOfBookings")
theorem co_X2_endOfBookings : Cond.code yX2_endOfBookings cX2_endOfBookings mX2_endOfBookings.1 mX2_endOfBookings.2.1 ∈ TT := tt_t (i := 758) (by decide +kernel) rfl
theorem im_X2_endOfBookings : Cond.instanceMethod yX2_endOfBookings ∈ TT := tt_t (i := 756) (by decide +kernel) rfl
theorem se_X2_endOfBookings : Cond.selects yX2_endOfBookings.cls yX2_endOfBookings yX2_endOfBookings ∈ TT := tt_t (i := 757) (by decide +kernel) rfl
theorem ds_X2_endOfBookings : yX2_endOfBookings.cls ≠ "java/lang/invoke/MethodHandle" ∧ yX2_endOfBookings.cls ≠ "java/lang/invoke/VarHandle" ∧ (parseMethodDescriptor yX2_endOfBookings.desc).map (fun d => d.parameters.length) = some 0 := by decide +kernel
def mX2_coldestBooking : MT := (4, (some .int), [], "coldestBooking")
theorem co_X2_coldestBooking : Cond.code yX2_coldestBooking cX2_coldestBooking mX2_coldestBooking.1 mX2_coldestBooking.2.1 ∈ TT := tt_t (i := 889) (by decide +kernel) rfl
theorem im_X2_coldestBooking : Cond.instanceMethod yX2_coldestBooking ∈ TT := tt_t (i := 887) (by decide +kernel) rfl
theorem se_X2_coldestBooking : Cond.selects yX2_coldestBooking.cls yX2_coldestBooking yX2_coldestBooking ∈ TT := tt_t (i := 888) (by decide +kernel) rfl
theorem ds_X2_coldestBooking : yX2_coldestBooking.cls ≠ "java/lang/invoke/MethodHandle" ∧ yX2_coldestBooking.cls ≠ "java/lang/invoke/VarHandle" ∧ (parseMethodDescriptor yX2_coldestBooking.desc).map (fun d => d.parameters.length) = some 0 := by decide +kernel
def mX3_init : MT := (1, none, [], "<init>")
theorem co_X3_init : Cond.code yX3_init cX3_init mX3_init.1 mX3_init.2.1 ∈ TT := tt_t (i := 28) (by decide +kernel) rfl
theorem im_X3_init : Cond.instanceMethod yX3_init ∈ TT := tt_t (i := 27) (by decide +kernel) rfl
theorem ds_X3_init : yX3_init.cls ≠ "java/lang/invoke/MethodHandle" ∧ yX3_init.cls ≠ "java/lang/invoke/VarHandle" ∧ (parseMethodDescriptor yX3_init.desc).map (fun d => d.parameters.length) = some 0 := by decide +kernel
def mX3_add : MT := (2, none, [], "add")
theorem co_X3_add : Cond.code yX3_add cX3_add mX3_add.1 mX3_add.2.1 ∈ TT := tt_t (i := 847) (by decide +kernel) rfl
theorem im_X3_add : Cond.instanceMethod yX3_add ∈ TT := tt_t (i := 845) (by decide +kernel) rfl
theorem se_X3_add : Cond.selects yX3_add.cls yX3_add yX3_add ∈ TT := tt_t (i := 846) (by decide +kernel) rfl
theorem ds_X3_add : yX3_add.cls ≠ "java/lang/invoke/MethodHandle" ∧ yX3_add.cls ≠ "java/lang/invoke/VarHandle" ∧ (parseMethodDescriptor yX3_add.desc).map (fun d => d.parameters.length) = some 1 := by decide +kernel
def mX3_readInto : MT := (3, (some .int), [], "readInto")
theorem co_X3_readInto : Cond.code yX3_readInto cX3_readInto mX3_readInto.1 mX3_readInto.2.1 ∈ TT := tt_t (i := 259) (by decide +kernel) rfl
theorem im_X3_readInto : Cond.instanceMethod yX3_readInto ∈ TT := tt_t (i := 257) (by decide +kernel) rfl
theorem se_X3_readInto : Cond.selects yX3_readInto.cls yX3_readInto yX3_readInto ∈ TT := tt_t (i := 258) (by decide +kernel) rfl
theorem ds_X3_readInto : yX3_readInto.cls ≠ "java/lang/invoke/MethodHandle" ∧ yX3_readInto.cls ≠ "java/lang/invoke/VarHandle" ∧ (parseMethodDescriptor yX3_readInto.desc).map (fun d => d.parameters.length) = some 1 := by decide +kernel
def mX3_readPart : MT := (2, none, [], "readPart")
theorem co_X3_readPart : Cond.code yX3_readPart cX3_readPart mX3_readPart.1 mX3_readPart.2.1 ∈ TT := tt_t (i := 275) (by decide +kernel) rfl
theorem im_X3_readPart : Cond.instanceMethod yX3_readPart ∈ TT := tt_t (i := 274) (by decide +kernel) rfl
theorem se_X3_readPart : Cond.selects yX3_readPart.cls yX3_readPart yX3_readPart ∈ TT := tt_p (i := 2) (by decide +kernel) rfl
theorem ds_X3_readPart : yX3_readPart.cls ≠ "java/lang/invoke/MethodHandle" ∧ yX3_readPart.cls ≠ "java/lang/invoke/VarHandle" ∧ (parseMethodDescriptor yX3_readPart.desc).map (fun d => d.parameters.length) = some 1 := by decide +kernel
def mX3_readRoom : MT := (6, none, [], "readRoom")
theorem co_X3_readRoom : Cond.code yX3_readRoom cX3_readRoom mX3_readRoom.1 mX3_readRoom.2.1 ∈ TT := tt_t (i := 279) (by decide +kernel) rfl
theorem im_X3_readRoom : Cond.instanceMethod yX3_readRoom ∈ TT := tt_t (i := 278) (by decide +kernel) rfl
theorem se_X3_readRoom : Cond.selects yX3_readRoom.cls yX3_readRoom yX3_readRoom ∈ TT := tt_p (i := 3) (by decide +kernel) rfl
theorem ds_X3_readRoom : yX3_readRoom.cls ≠ "java/lang/invoke/MethodHandle" ∧ yX3_readRoom.cls ≠ "java/lang/invoke/VarHandle" ∧ (parseMethodDescriptor yX3_readRoom.desc).map (fun d => d.parameters.length) = some 1 := by decide +kernel
def mX3_readGroup : MT := (2, none, [], "readGroup")
theorem co_X3_readGroup : Cond.code yX3_readGroup cX3_readGroup mX3_readGroup.1 mX3_readGroup.2.1 ∈ TT := tt_t (i := 295) (by decide +kernel) rfl
theorem im_X3_readGroup : Cond.instanceMethod yX3_readGroup ∈ TT := tt_t (i := 294) (by decide +kernel) rfl
theorem se_X3_readGroup : Cond.selects yX3_readGroup.cls yX3_readGroup yX3_readGroup ∈ TT := tt_p (i := 5) (by decide +kernel) rfl
theorem ds_X3_readGroup : yX3_readGroup.cls ≠ "java/lang/invoke/MethodHandle" ∧ yX3_readGroup.cls ≠ "java/lang/invoke/VarHandle" ∧ (parseMethodDescriptor yX3_readGroup.desc).map (fun d => d.parameters.length) = some 1 := by decide +kernel
def mX3_readOutdoors : MT := (4, none, [], "readOutdoors")
theorem co_X3_readOutdoors : Cond.code yX3_readOutdoors cX3_readOutdoors mX3_readOutdoors.1 mX3_readOutdoors.2.1 ∈ TT := tt_t (i := 303) (by decide +kernel) rfl
theorem im_X3_readOutdoors : Cond.instanceMethod yX3_readOutdoors ∈ TT := tt_t (i := 302) (by decide +kernel) rfl
theorem se_X3_readOutdoors : Cond.selects yX3_readOutdoors.cls yX3_readOutdoors yX3_readOutdoors ∈ TT := tt_p (i := 6) (by decide +kernel) rfl
theorem ds_X3_readOutdoors : yX3_readOutdoors.cls ≠ "java/lang/invoke/MethodHandle" ∧ yX3_readOutdoors.cls ≠ "java/lang/invoke/VarHandle" ∧ (parseMethodDescriptor yX3_readOutdoors.desc).map (fun d => d.parameters.length) = some 1 := by decide +kernel
def mX3_readBooking : MT := (8, none, [], "readBooking")
theorem co_X3_readBooking : Cond.code yX3_readBooking cX3_readBooking mX3_readBooking.1 mX3_readBooking.2.1 ∈ TT := tt_t (i := 307) (by decide +kernel) rfl
theorem im_X3_readBooking : Cond.instanceMethod yX3_readBooking ∈ TT := tt_t (i := 306) (by decide +kernel) rfl
theorem se_X3_readBooking : Cond.selects yX3_readBooking.cls yX3_readBooking yX3_readBooking ∈ TT := tt_p (i := 7) (by decide +kernel) rfl
theorem ds_X3_readBooking : yX3_readBooking.cls ≠ "java/lang/invoke/MethodHandle" ∧ yX3_readBooking.cls ≠ "java/lang/invoke/VarHandle" ∧ (parseMethodDescriptor yX3_readBooking.desc).map (fun d => d.parameters.length) = some 1 := by decide +kernel
def mX3_sign : MT := (1, (some .int), [], "sign")
theorem co_X3_sign : Cond.code yX3_sign cX3_sign mX3_sign.1 mX3_sign.2.1 ∈ TT := tt_t (i := 267) (by decide +kernel) rfl
theorem im_X3_sign : Cond.instanceMethod yX3_sign ∈ TT := tt_t (i := 266) (by decide +kernel) rfl
theorem se_X3_sign : Cond.selects yX3_sign.cls yX3_sign yX3_sign ∈ TT := tt_p (i := 0) (by decide +kernel) rfl
theorem ds_X3_sign : yX3_sign.cls ≠ "java/lang/invoke/MethodHandle" ∧ yX3_sign.cls ≠ "java/lang/invoke/VarHandle" ∧ (parseMethodDescriptor yX3_sign.desc).map (fun d => d.parameters.length) = some 0 := by decide +kernel
def mX3_require : MT := (2, none, [], "require")
theorem co_X3_require : Cond.code yX3_require cX3_require mX3_require.1 mX3_require.2.1 ∈ TT := tt_t (i := 271) (by decide +kernel) rfl
theorem im_X3_require : Cond.instanceMethod yX3_require ∈ TT := tt_t (i := 270) (by decide +kernel) rfl
theorem se_X3_require : Cond.selects yX3_require.cls yX3_require yX3_require ∈ TT := tt_p (i := 1) (by decide +kernel) rfl
theorem ds_X3_require : yX3_require.cls ≠ "java/lang/invoke/MethodHandle" ∧ yX3_require.cls ≠ "java/lang/invoke/VarHandle" ∧ (parseMethodDescriptor yX3_require.desc).map (fun d => d.parameters.length) = some 1 := by decide +kernel
def mX3_readNumber : MT := (8, (some .int), [], "readNumber")
theorem co_X3_readNumber : Cond.code yX3_readNumber cX3_readNumber mX3_readNumber.1 mX3_readNumber.2.1 ∈ TT := tt_t (i := 283) (by decide +kernel) rfl
theorem im_X3_readNumber : Cond.instanceMethod yX3_readNumber ∈ TT := tt_t (i := 282) (by decide +kernel) rfl
theorem se_X3_readNumber : Cond.selects yX3_readNumber.cls yX3_readNumber yX3_readNumber ∈ TT := tt_p (i := 4) (by decide +kernel) rfl
theorem ds_X3_readNumber : yX3_readNumber.cls ≠ "java/lang/invoke/MethodHandle" ∧ yX3_readNumber.cls ≠ "java/lang/invoke/VarHandle" ∧ (parseMethodDescriptor yX3_readNumber.desc).map (fun d => d.parameters.length) = some 3 := by decide +kernel
def mX4_init : MT := (2, none, [], "<init>")
theorem co_X4_init : Cond.code yX4_init cX4_init mX4_init.1 mX4_init.2.1 ∈ TT := tt_t (i := 179) (by decide +kernel) rfl
theorem im_X4_init : Cond.instanceMethod yX4_init ∈ TT := tt_t (i := 178) (by decide +kernel) rfl
theorem ds_X4_init : yX4_init.cls ≠ "java/lang/invoke/MethodHandle" ∧ yX4_init.cls ≠ "java/lang/invoke/VarHandle" ∧ (parseMethodDescriptor yX4_init.desc).map (fun d => d.parameters.length) = some 0 := by decide +kernel
def mX4_remember : MT := (2, none, [], "remember")
theorem co_X4_remember : Cond.code yX4_remember cX4_remember mX4_remember.1 mX4_remember.2.1 ∈ TT := tt_t (i := 647) (by decide +kernel) rfl
theorem im_X4_remember : Cond.instanceMethod yX4_remember ∈ TT := tt_t (i := 645) (by decide +kernel) rfl
theorem se_X4_remember : Cond.selects yX4_remember.cls yX4_remember yX4_remember ∈ TT := tt_t (i := 646) (by decide +kernel) rfl
theorem ds_X4_remember : yX4_remember.cls ≠ "java/lang/invoke/MethodHandle" ∧ yX4_remember.cls ≠ "java/lang/invoke/VarHandle" ∧ (parseMethodDescriptor yX4_remember.desc).map (fun d => d.parameters.length) = some 1 := by decide +kernel
def mX4_takeBack : MT := (2, none, [], "takeBack")
theorem co_X4_takeBack : Cond.code yX4_takeBack cX4_takeBack mX4_takeBack.1 mX4_takeBack.2.1 ∈ TT := tt_t (i := 874) (by decide +kernel) rfl
theorem im_X4_takeBack : Cond.instanceMethod yX4_takeBack ∈ TT := tt_t (i := 872) (by decide +kernel) rfl
theorem se_X4_takeBack : Cond.selects yX4_takeBack.cls yX4_takeBack yX4_takeBack ∈ TT := tt_t (i := 873) (by decide +kernel) rfl
theorem ds_X4_takeBack : yX4_takeBack.cls ≠ "java/lang/invoke/MethodHandle" ∧ yX4_takeBack.cls ≠ "java/lang/invoke/VarHandle" ∧ (parseMethodDescriptor yX4_takeBack.desc).map (fun d => d.parameters.length) = some 1 := by decide +kernel
def mX4_forgetAll : MT := (1, none, [], "forgetAll")
theorem co_X4_forgetAll : Cond.code yX4_forgetAll cX4_forgetAll mX4_forgetAll.1 mX4_forgetAll.2.1 ∈ TT := tt_t (i := 416) (by decide +kernel) rfl
theorem im_X4_forgetAll : Cond.instanceMethod yX4_forgetAll ∈ TT := tt_t (i := 414) (by decide +kernel) rfl
theorem se_X4_forgetAll : Cond.selects yX4_forgetAll.cls yX4_forgetAll yX4_forgetAll ∈ TT := tt_t (i := 415) (by decide +kernel) rfl
theorem ds_X4_forgetAll : yX4_forgetAll.cls ≠ "java/lang/invoke/MethodHandle" ∧ yX4_forgetAll.cls ≠ "java/lang/invoke/VarHandle" ∧ (parseMethodDescriptor yX4_forgetAll.desc).map (fun d => d.parameters.length) = some 0 := by decide +kernel
def mX5_init : MT := (1, none, [], "<init>")
theorem co_X5_init : Cond.code yX5_init cX5_init mX5_init.1 mX5_init.2.1 ∈ TT := tt_t (i := 58) (by decide +kernel) rfl
theorem im_X5_init : Cond.instanceMethod yX5_init ∈ TT := tt_t (i := 57) (by decide +kernel) rfl
theorem ds_X5_init : yX5_init.cls ≠ "java/lang/invoke/MethodHandle" ∧ yX5_init.cls ≠ "java/lang/invoke/VarHandle" ∧ (parseMethodDescriptor yX5_init.desc).map (fun d => d.parameters.length) = some 0 := by decide +kernel
def mX5_become : MT := (5, none, [], "become")
theorem co_X5_become : Cond.code yX5_become cX5_become mX5_become.1 mX5_become.2.1 ∈ TT := tt_t (i := 291) (by decide +kernel) rfl
theorem im_X5_become : Cond.instanceMethod yX5_become ∈ TT := tt_t (i := 289) (by decide +kernel) rfl
theorem se_X5_become : Cond.selects yX5_become.cls yX5_become yX5_become ∈ TT := tt_t (i := 290) (by decide +kernel) rfl
theorem ds_X5_become : yX5_become.cls ≠ "java/lang/invoke/MethodHandle" ∧ yX5_become.cls ≠ "java/lang/invoke/VarHandle" ∧ (parseMethodDescriptor yX5_become.desc).map (fun d => d.parameters.length) = some 4 := by decide +kernel
def mX5_copyFrom : MT := (2, none, [], "copyFrom")
theorem co_X5_copyFrom : Cond.code yX5_copyFrom cX5_copyFrom mX5_copyFrom.1 mX5_copyFrom.2.1 ∈ TT := tt_t (i := 403) (by decide +kernel) rfl
theorem im_X5_copyFrom : Cond.instanceMethod yX5_copyFrom ∈ TT := tt_t (i := 401) (by decide +kernel) rfl
theorem se_X5_copyFrom : Cond.selects yX5_copyFrom.cls yX5_copyFrom yX5_copyFrom ∈ TT := tt_t (i := 402) (by decide +kernel) rfl
theorem ds_X5_copyFrom : yX5_copyFrom.cls ≠ "java/lang/invoke/MethodHandle" ∧ yX5_copyFrom.cls ≠ "java/lang/invoke/VarHandle" ∧ (parseMethodDescriptor yX5_copyFrom.desc).map (fun d => d.parameters.length) = some 1 := by decide +kernel
def mX5_numberAbout : MT := (2, (some .int), [], "numberAbout")
theorem co_X5_numberAbout : Cond.code yX5_numberAbout cX5_numberAbout mX5_numberAbout.1 mX5_numberAbout.2.1 ∈ TT := tt_t (i := 545) (by decide +kernel) rfl
theorem im_X5_numberAbout : Cond.instanceMethod yX5_numberAbout ∈ TT := tt_t (i := 543) (by decide +kernel) rfl
theorem se_X5_numberAbout : Cond.selects yX5_numberAbout.cls yX5_numberAbout yX5_numberAbout ∈ TT := tt_t (i := 544) (by decide +kernel) rfl
theorem ds_X5_numberAbout : yX5_numberAbout.cls ≠ "java/lang/invoke/MethodHandle" ∧ yX5_numberAbout.cls ≠ "java/lang/invoke/VarHandle" ∧ (parseMethodDescriptor yX5_numberAbout.desc).map (fun d => d.parameters.length) = some 1 := by decide +kernel
def mX5_cooled : MT := (2, (some .int), [], "cooled")
theorem co_X5_cooled : Cond.code yX5_cooled cX5_cooled mX5_cooled.1 mX5_cooled.2.1 ∈ TT := tt_t (i := 541) (by decide +kernel) rfl
theorem im_X5_cooled : Cond.instanceMethod yX5_cooled ∈ TT := tt_t (i := 539) (by decide +kernel) rfl
theorem se_X5_cooled : Cond.selects yX5_cooled.cls yX5_cooled yX5_cooled ∈ TT := tt_t (i := 540) (by decide +kernel) rfl
theorem ds_X5_cooled : yX5_cooled.cls ≠ "java/lang/invoke/MethodHandle" ∧ yX5_cooled.cls ≠ "java/lang/invoke/VarHandle" ∧ (parseMethodDescriptor yX5_cooled.desc).map (fun d => d.parameters.length) = some 1 := by decide +kernel
def mX5_warmTowards : MT := (3, (some .int), [], "warmTowards")
theorem co_X5_warmTowards : Cond.code yX5_warmTowards cX5_warmTowards mX5_warmTowards.1 mX5_warmTowards.2.1 ∈ TT := tt_t (i := 612) (by decide +kernel) rfl
theorem im_X5_warmTowards : Cond.instanceMethod yX5_warmTowards ∈ TT := tt_t (i := 610) (by decide +kernel) rfl
theorem se_X5_warmTowards : Cond.selects yX5_warmTowards.cls yX5_warmTowards yX5_warmTowards ∈ TT := tt_t (i := 611) (by decide +kernel) rfl
theorem ds_X5_warmTowards : yX5_warmTowards.cls ≠ "java/lang/invoke/MethodHandle" ∧ yX5_warmTowards.cls ≠ "java/lang/invoke/VarHandle" ∧ (parseMethodDescriptor yX5_warmTowards.desc).map (fun d => d.parameters.length) = some 1 := by decide +kernel
def mX6_init : MT := (2, none, [], "<init>")
theorem co_X6_init : Cond.code yX6_init cX6_init mX6_init.1 mX6_init.2.1 ∈ TT := tt_t (i := 20) (by decide +kernel) rfl
theorem im_X6_init : Cond.instanceMethod yX6_init ∈ TT := tt_t (i := 19) (by decide +kernel) rfl
theorem ds_X6_init : yX6_init.cls ≠ "java/lang/invoke/MethodHandle" ∧ yX6_init.cls ≠ "java/lang/invoke/VarHandle" ∧ (parseMethodDescriptor yX6_init.desc).map (fun d => d.parameters.length) = some 0 := by decide +kernel
def mX6_append : MT := (2, (some .int), [], "append")
theorem co_X6_append : Cond.code yX6_append cX6_append mX6_append.1 mX6_append.2.1 ∈ TT := tt_t (i := 842) (by decide +kernel) rfl
theorem im_X6_append : Cond.instanceMethod yX6_append ∈ TT := tt_t (i := 840) (by decide +kernel) rfl
theorem se_X6_append : Cond.selects yX6_append.cls yX6_append yX6_append ∈ TT := tt_t (i := 841) (by decide +kernel) rfl
theorem ds_X6_append : yX6_append.cls ≠ "java/lang/invoke/MethodHandle" ∧ yX6_append.cls ≠ "java/lang/invoke/VarHandle" ∧ (parseMethodDescriptor yX6_append.desc).map (fun d => d.parameters.length) = some 1 := by decide +kernel
def mX6_clearText : MT := (2, (some .int), [], "clearText")
theorem co_X6_clearText : Cond.code yX6_clearText cX6_clearText mX6_clearText.1 mX6_clearText.2.1 ∈ TT := tt_t (i := 897) (by decide +kernel) rfl
theorem im_X6_clearText : Cond.instanceMethod yX6_clearText ∈ TT := tt_t (i := 895) (by decide +kernel) rfl
theorem se_X6_clearText : Cond.selects yX6_clearText.cls yX6_clearText yX6_clearText ∈ TT := tt_t (i := 896) (by decide +kernel) rfl
theorem ds_X6_clearText : yX6_clearText.cls ≠ "java/lang/invoke/MethodHandle" ∧ yX6_clearText.cls ≠ "java/lang/invoke/VarHandle" ∧ (parseMethodDescriptor yX6_clearText.desc).map (fun d => d.parameters.length) = some 0 := by decide +kernel
def mX6_errorPosition : MT := (1, (some .int), [], "errorPosition")
theorem co_X6_errorPosition : Cond.code yX6_errorPosition cX6_errorPosition mX6_errorPosition.1 mX6_errorPosition.2.1 ∈ TT := tt_t (i := 881) (by decide +kernel) rfl
theorem im_X6_errorPosition : Cond.instanceMethod yX6_errorPosition ∈ TT := tt_t (i := 879) (by decide +kernel) rfl
theorem se_X6_errorPosition : Cond.selects yX6_errorPosition.cls yX6_errorPosition yX6_errorPosition ∈ TT := tt_t (i := 880) (by decide +kernel) rfl
theorem ds_X6_errorPosition : yX6_errorPosition.cls ≠ "java/lang/invoke/MethodHandle" ∧ yX6_errorPosition.cls ≠ "java/lang/invoke/VarHandle" ∧ (parseMethodDescriptor yX6_errorPosition.desc).map (fun d => d.parameters.length) = some 0 := by decide +kernel
def mX6_load : MT := (2, (some .int), [], "load")
theorem co_X6_load : Cond.code yX6_load cX6_load mX6_load.1 mX6_load.2.1 ∈ TT := tt_t (i := 255) (by decide +kernel) rfl
theorem im_X6_load : Cond.instanceMethod yX6_load ∈ TT := tt_t (i := 253) (by decide +kernel) rfl
theorem se_X6_load : Cond.selects yX6_load.cls yX6_load yX6_load ∈ TT := tt_t (i := 254) (by decide +kernel) rfl
theorem ds_X6_load : yX6_load.cls ≠ "java/lang/invoke/MethodHandle" ∧ yX6_load.cls ≠ "java/lang/invoke/VarHandle" ∧ (parseMethodDescriptor yX6_load.desc).map (fun d => d.parameters.length) = some 0 := by decide +kernel
def mX6_about : MT := (2, (some .int), [], "about")
theorem co_X6_about : Cond.code yX6_about cX6_about mX6_about.1 mX6_about.2.1 ∈ TT := tt_t (i := 469) (by decide +kernel) rfl
theorem im_X6_about : Cond.instanceMethod yX6_about ∈ TT := tt_t (i := 467) (by decide +kernel) rfl
theorem se_X6_about : Cond.selects yX6_about.cls yX6_about yX6_about ∈ TT := tt_t (i := 468) (by decide +kernel) rfl
theorem ds_X6_about : yX6_about.cls ≠ "java/lang/invoke/MethodHandle" ∧ yX6_about.cls ≠ "java/lang/invoke/VarHandle" ∧ (parseMethodDescriptor yX6_about.desc).map (fun d => d.parameters.length) = some 1 := by decide +kernel
def mX6_room : MT := (4, (some .int), [], "room")
theorem co_X6_room : Cond.code yX6_room cX6_room mX6_room.1 mX6_room.2.1 ∈ TT := tt_t (i := 501) (by decide +kernel) rfl
theorem im_X6_room : Cond.instanceMethod yX6_room ∈ TT := tt_t (i := 499) (by decide +kernel) rfl
theorem se_X6_room : Cond.selects yX6_room.cls yX6_room yX6_room ∈ TT := tt_t (i := 500) (by decide +kernel) rfl
theorem ds_X6_room : yX6_room.cls ≠ "java/lang/invoke/MethodHandle" ∧ yX6_room.cls ≠ "java/lang/invoke/VarHandle" ∧ (parseMethodDescriptor yX6_room.desc).map (fun d => d.parameters.length) = some 2 := by decide +kernel
def mX6_owes : MT := (2, (some .int), [], "owes")
theorem co_X6_owes : Cond.code yX6_owes cX6_owes mX6_owes.1 mX6_owes.2.1 ∈ TT := tt_t (i := 552) (by decide +kernel) rfl
theorem im_X6_owes : Cond.instanceMethod yX6_owes ∈ TT := tt_t (i := 550) (by decide +kernel) rfl
theorem se_X6_owes : Cond.selects yX6_owes.cls yX6_owes yX6_owes ∈ TT := tt_t (i := 551) (by decide +kernel) rfl
theorem ds_X6_owes : yX6_owes.cls ≠ "java/lang/invoke/MethodHandle" ∧ yX6_owes.cls ≠ "java/lang/invoke/VarHandle" ∧ (parseMethodDescriptor yX6_owes.desc).map (fun d => d.parameters.length) = some 1 := by decide +kernel
def mX6_booking : MT := (4, (some .int), [], "booking")
theorem co_X6_booking : Cond.code yX6_booking cX6_booking mX6_booking.1 mX6_booking.2.1 ∈ TT := tt_t (i := 574) (by decide +kernel) rfl
theorem im_X6_booking : Cond.instanceMethod yX6_booking ∈ TT := tt_t (i := 572) (by decide +kernel) rfl
theorem se_X6_booking : Cond.selects yX6_booking.cls yX6_booking yX6_booking ∈ TT := tt_t (i := 573) (by decide +kernel) rfl
theorem ds_X6_booking : yX6_booking.cls ≠ "java/lang/invoke/MethodHandle" ∧ yX6_booking.cls ≠ "java/lang/invoke/VarHandle" ∧ (parseMethodDescriptor yX6_booking.desc).map (fun d => d.parameters.length) = some 2 := by decide +kernel
def mX6_addRoom : MT := (5, (some .int), [], "addRoom")
theorem co_X6_addRoom : Cond.code yX6_addRoom cX6_addRoom mX6_addRoom.1 mX6_addRoom.2.1 ∈ TT := tt_t (i := 642) (by decide +kernel) rfl
theorem im_X6_addRoom : Cond.instanceMethod yX6_addRoom ∈ TT := tt_t (i := 640) (by decide +kernel) rfl
theorem se_X6_addRoom : Cond.selects yX6_addRoom.cls yX6_addRoom yX6_addRoom ∈ TT := tt_t (i := 641) (by decide +kernel) rfl
theorem ds_X6_addRoom : yX6_addRoom.cls ≠ "java/lang/invoke/MethodHandle" ∧ yX6_addRoom.cls ≠ "java/lang/invoke/VarHandle" ∧ (parseMethodDescriptor yX6_addRoom.desc).map (fun d => d.parameters.length) = some 4 := by decide +kernel
def mX6_addGroup : MT := (1, (some .int), [], "addGroup")
theorem co_X6_addGroup : Cond.code yX6_addGroup cX6_addGroup mX6_addGroup.1 mX6_addGroup.2.1 ∈ TT := tt_t (i := 657) (by decide +kernel) rfl
theorem im_X6_addGroup : Cond.instanceMethod yX6_addGroup ∈ TT := tt_t (i := 655) (by decide +kernel) rfl
theorem se_X6_addGroup : Cond.selects yX6_addGroup.cls yX6_addGroup yX6_addGroup ∈ TT := tt_t (i := 656) (by decide +kernel) rfl
theorem ds_X6_addGroup : yX6_addGroup.cls ≠ "java/lang/invoke/MethodHandle" ∧ yX6_addGroup.cls ≠ "java/lang/invoke/VarHandle" ∧ (parseMethodDescriptor yX6_addGroup.desc).map (fun d => d.parameters.length) = some 0 := by decide +kernel
def mX6_book : MT := (6, (some .int), [], "book")
theorem co_X6_book : Cond.code yX6_book cX6_book mX6_book.1 mX6_book.2.1 ∈ TT := tt_t (i := 666) (by decide +kernel) rfl
theorem im_X6_book : Cond.instanceMethod yX6_book ∈ TT := tt_t (i := 664) (by decide +kernel) rfl
theorem se_X6_book : Cond.selects yX6_book.cls yX6_book yX6_book ∈ TT := tt_t (i := 665) (by decide +kernel) rfl
theorem ds_X6_book : yX6_book.cls ≠ "java/lang/invoke/MethodHandle" ∧ yX6_book.cls ≠ "java/lang/invoke/VarHandle" ∧ (parseMethodDescriptor yX6_book.desc).map (fun d => d.parameters.length) = some 5 := by decide +kernel
def mX6_cancel : MT := (3, (some .int), [], "cancel")
theorem co_X6_cancel : Cond.code yX6_cancel cX6_cancel mX6_cancel.1 mX6_cancel.2.1 ∈ TT := tt_t (i := 687) (by decide +kernel) rfl
theorem im_X6_cancel : Cond.instanceMethod yX6_cancel ∈ TT := tt_t (i := 685) (by decide +kernel) rfl
theorem se_X6_cancel : Cond.selects yX6_cancel.cls yX6_cancel yX6_cancel ∈ TT := tt_t (i := 686) (by decide +kernel) rfl
theorem ds_X6_cancel : yX6_cancel.cls ≠ "java/lang/invoke/MethodHandle" ∧ yX6_cancel.cls ≠ "java/lang/invoke/VarHandle" ∧ (parseMethodDescriptor yX6_cancel.desc).map (fun d => d.parameters.length) = some 1 := by decide +kernel
def mX6_prove : MT := (4, (some .int), [], "prove")
theorem co_X6_prove : Cond.code yX6_prove cX6_prove mX6_prove.1 mX6_prove.2.1 ∈ TT := tt_t (i := 703) (by decide +kernel) rfl
theorem im_X6_prove : Cond.instanceMethod yX6_prove ∈ TT := tt_t (i := 701) (by decide +kernel) rfl
theorem se_X6_prove : Cond.selects yX6_prove.cls yX6_prove yX6_prove ∈ TT := tt_t (i := 702) (by decide +kernel) rfl
theorem ds_X6_prove : yX6_prove.cls ≠ "java/lang/invoke/MethodHandle" ∧ yX6_prove.cls ≠ "java/lang/invoke/VarHandle" ∧ (parseMethodDescriptor yX6_prove.desc).map (fun d => d.parameters.length) = some 2 := by decide +kernel
def mX6_outside : MT := (3, (some .int), [], "outside")
theorem co_X6_outside : Cond.code yX6_outside cX6_outside mX6_outside.1 mX6_outside.2.1 ∈ TT := tt_t (i := 715) (by decide +kernel) rfl
theorem im_X6_outside : Cond.instanceMethod yX6_outside ∈ TT := tt_t (i := 713) (by decide +kernel) rfl
theorem se_X6_outside : Cond.selects yX6_outside.cls yX6_outside yX6_outside ∈ TT := tt_t (i := 714) (by decide +kernel) rfl
theorem ds_X6_outside : yX6_outside.cls ≠ "java/lang/invoke/MethodHandle" ∧ yX6_outside.cls ≠ "java/lang/invoke/VarHandle" ∧ (parseMethodDescriptor yX6_outside.desc).map (fun d => d.parameters.length) = some 1 := by decide +kernel
def mX6_pay : MT := (2, (some .int), [], "pay")
theorem co_X6_pay : Cond.code yX6_pay cX6_pay mX6_pay.1 mX6_pay.2.1 ∈ TT := tt_t (i := 722) (by decide +kernel) rfl
theorem im_X6_pay : Cond.instanceMethod yX6_pay ∈ TT := tt_t (i := 720) (by decide +kernel) rfl
theorem se_X6_pay : Cond.selects yX6_pay.cls yX6_pay yX6_pay ∈ TT := tt_t (i := 721) (by decide +kernel) rfl
theorem ds_X6_pay : yX6_pay.cls ≠ "java/lang/invoke/MethodHandle" ∧ yX6_pay.cls ≠ "java/lang/invoke/VarHandle" ∧ (parseMethodDescriptor yX6_pay.desc).map (fun d => d.parameters.length) = some 1 := by decide +kernel
def mX6_pass : MT := (3, (some .int), [], "pass")
theorem co_X6_pass : Cond.code yX6_pass cX6_pass mX6_pass.1 mX6_pass.2.1 ∈ TT := tt_t (i := 733) (by decide +kernel) rfl
theorem im_X6_pass : Cond.instanceMethod yX6_pass ∈ TT := tt_t (i := 731) (by decide +kernel) rfl
theorem se_X6_pass : Cond.selects yX6_pass.cls yX6_pass yX6_pass ∈ TT := tt_t (i := 732) (by decide +kernel) rfl
theorem ds_X6_pass : yX6_pass.cls ≠ "java/lang/invoke/MethodHandle" ∧ yX6_pass.cls ≠ "java/lang/invoke/VarHandle" ∧ (parseMethodDescriptor yX6_pass.desc).map (fun d => d.parameters.length) = some 1 := by decide +kernel
def mX6_undo : MT := (1, (some .int), [], "undo")
theorem co_X6_undo : Cond.code yX6_undo cX6_undo mX6_undo.1 mX6_undo.2.1 ∈ TT := tt_t (i := 869) (by decide +kernel) rfl
theorem im_X6_undo : Cond.instanceMethod yX6_undo ∈ TT := tt_t (i := 867) (by decide +kernel) rfl
theorem se_X6_undo : Cond.selects yX6_undo.cls yX6_undo yX6_undo ∈ TT := tt_t (i := 868) (by decide +kernel) rfl
theorem ds_X6_undo : yX6_undo.cls ≠ "java/lang/invoke/MethodHandle" ∧ yX6_undo.cls ≠ "java/lang/invoke/VarHandle" ∧ (parseMethodDescriptor yX6_undo.desc).map (fun d => d.parameters.length) = some 0 := by decide +kernel
def mX6_later : MT := (4, (some .int), [], "later")
theorem co_X6_later : Cond.code yX6_later cX6_later mX6_later.1 mX6_later.2.1 ∈ TT := tt_t (i := 595) (by decide +kernel) rfl
theorem im_X6_later : Cond.instanceMethod yX6_later ∈ TT := tt_t (i := 593) (by decide +kernel) rfl
theorem se_X6_later : Cond.selects yX6_later.cls yX6_later yX6_later ∈ TT := tt_t (i := 594) (by decide +kernel) rfl
theorem ds_X6_later : yX6_later.cls ≠ "java/lang/invoke/MethodHandle" ∧ yX6_later.cls ≠ "java/lang/invoke/VarHandle" ∧ (parseMethodDescriptor yX6_later.desc).map (fun d => d.parameters.length) = some 2 := by decide +kernel
def mX6_begins : MT := (5, (some .int), [], "begins")
theorem co_X6_begins : Cond.code yX6_begins cX6_begins mX6_begins.1 mX6_begins.2.1 ∈ TT := tt_t (i := 741) (by decide +kernel) rfl
theorem im_X6_begins : Cond.instanceMethod yX6_begins ∈ TT := tt_t (i := 739) (by decide +kernel) rfl
theorem se_X6_begins : Cond.selects yX6_begins.cls yX6_begins yX6_begins ∈ TT := tt_t (i := 740) (by decide +kernel) rfl
theorem ds_X6_begins : yX6_begins.cls ≠ "java/lang/invoke/MethodHandle" ∧ yX6_begins.cls ≠ "java/lang/invoke/VarHandle" ∧ (parseMethodDescriptor yX6_begins.desc).map (fun d => d.parameters.length) = some 1 := by decide +kernel
def mX6_cost : MT := (7, (some .int), [], "cost")
theorem co_X6_cost : Cond.code yX6_cost cX6_cost mX6_cost.1 mX6_cost.2.1 ∈ TT := tt_t (i := 680) (by decide +kernel) rfl
theorem im_X6_cost : Cond.instanceMethod yX6_cost ∈ TT := tt_t (i := 678) (by decide +kernel) rfl
theorem se_X6_cost : Cond.selects yX6_cost.cls yX6_cost yX6_cost ∈ TT := tt_t (i := 679) (by decide +kernel) rfl
theorem ds_X6_cost : yX6_cost.cls ≠ "java/lang/invoke/MethodHandle" ∧ yX6_cost.cls ≠ "java/lang/invoke/VarHandle" ∧ (parseMethodDescriptor yX6_cost.desc).map (fun d => d.parameters.length) = some 5 := by decide +kernel
def mX6_willOwe : MT := (2, (some .int), [], "willOwe")
theorem co_X6_willOwe : Cond.code yX6_willOwe cX6_willOwe mX6_willOwe.1 mX6_willOwe.2.1 ∈ TT := tt_t (i := 750) (by decide +kernel) rfl
theorem im_X6_willOwe : Cond.instanceMethod yX6_willOwe ∈ TT := tt_t (i := 748) (by decide +kernel) rfl
theorem se_X6_willOwe : Cond.selects yX6_willOwe.cls yX6_willOwe yX6_willOwe ∈ TT := tt_t (i := 749) (by decide +kernel) rfl
theorem ds_X6_willOwe : yX6_willOwe.cls ≠ "java/lang/invoke/MethodHandle" ∧ yX6_willOwe.cls ≠ "java/lang/invoke/VarHandle" ∧ (parseMethodDescriptor yX6_willOwe.desc).map (fun d => d.parameters.length) = some 1 := by decide +kernel
def mX6_coldest : MT := (1, (some .int), [], "coldest")
theorem co_X6_coldest : Cond.code yX6_coldest cX6_coldest mX6_coldest.1 mX6_coldest.2.1 ∈ TT := tt_t (i := 885) (by decide +kernel) rfl
theorem im_X6_coldest : Cond.instanceMethod yX6_coldest ∈ TT := tt_t (i := 883) (by decide +kernel) rfl
theorem se_X6_coldest : Cond.selects yX6_coldest.cls yX6_coldest yX6_coldest ∈ TT := tt_t (i := 884) (by decide +kernel) rfl
theorem ds_X6_coldest : yX6_coldest.cls ≠ "java/lang/invoke/MethodHandle" ∧ yX6_coldest.cls ≠ "java/lang/invoke/VarHandle" ∧ (parseMethodDescriptor yX6_coldest.desc).map (fun d => d.parameters.length) = some 0 := by decide +kernel
def mX6_passAllBookingsOnTrial : MT := (1, none, [], "passAllBookingsOnTrial")
theorem co_X6_passAllBookingsOnTrial : Cond.code yX6_passAllBookingsOnTrial cX6_passAllBookingsOnTrial mX6_passAllBookingsOnTrial.1 mX6_passAllBookingsOnTrial.2.1 ∈ TT := tt_t (i := 754) (by decide +kernel) rfl
theorem im_X6_passAllBookingsOnTrial : Cond.instanceMethod yX6_passAllBookingsOnTrial ∈ TT := tt_t (i := 753) (by decide +kernel) rfl
theorem se_X6_passAllBookingsOnTrial : Cond.selects yX6_passAllBookingsOnTrial.cls yX6_passAllBookingsOnTrial yX6_passAllBookingsOnTrial ∈ TT := tt_p (i := 19) (by decide +kernel) rfl
theorem ds_X6_passAllBookingsOnTrial : yX6_passAllBookingsOnTrial.cls ≠ "java/lang/invoke/MethodHandle" ∧ yX6_passAllBookingsOnTrial.cls ≠ "java/lang/invoke/VarHandle" ∧ (parseMethodDescriptor yX6_passAllBookingsOnTrial.desc).map (fun d => d.parameters.length) = some 0 := by decide +kernel
def mX6_runScript : MT := (5, (some .int), [], "runScript")
theorem co_X6_runScript : Cond.code yX6_runScript cX6_runScript mX6_runScript.1 mX6_runScript.2.1 ∈ TT := tt_t (i := 767) (by decide +kernel) rfl
theorem im_X6_runScript : Cond.instanceMethod yX6_runScript ∈ TT := tt_t (i := 765) (by decide +kernel) rfl
theorem se_X6_runScript : Cond.selects yX6_runScript.cls yX6_runScript yX6_runScript ∈ TT := tt_t (i := 766) (by decide +kernel) rfl
theorem ds_X6_runScript : yX6_runScript.cls ≠ "java/lang/invoke/MethodHandle" ∧ yX6_runScript.cls ≠ "java/lang/invoke/VarHandle" ∧ (parseMethodDescriptor yX6_runScript.desc).map (fun d => d.parameters.length) = some 2 := by decide +kernel
def mX6_simulate : MT := (8, (some .int), [], "simulate")
theorem co_X6_simulate : Cond.code yX6_simulate cX6_simulate mX6_simulate.1 mX6_simulate.2.1 ∈ TT := tt_t (i := 827) (by decide +kernel) rfl
theorem im_X6_simulate : Cond.instanceMethod yX6_simulate ∈ TT := tt_t (i := 825) (by decide +kernel) rfl
theorem se_X6_simulate : Cond.selects yX6_simulate.cls yX6_simulate yX6_simulate ∈ TT := tt_t (i := 826) (by decide +kernel) rfl
theorem ds_X6_simulate : yX6_simulate.cls ≠ "java/lang/invoke/MethodHandle" ∧ yX6_simulate.cls ≠ "java/lang/invoke/VarHandle" ∧ (parseMethodDescriptor yX6_simulate.desc).map (fun d => d.parameters.length) = some 2 := by decide +kernel
def mX6_save : MT := (2, (some .int), [], "save")
theorem co_X6_save : Cond.code yX6_save cX6_save mX6_save.1 mX6_save.2.1 ∈ TT := tt_t (i := 425) (by decide +kernel) rfl
theorem im_X6_save : Cond.instanceMethod yX6_save ∈ TT := tt_t (i := 423) (by decide +kernel) rfl
theorem se_X6_save : Cond.selects yX6_save.cls yX6_save yX6_save ∈ TT := tt_t (i := 424) (by decide +kernel) rfl
theorem ds_X6_save : yX6_save.cls ≠ "java/lang/invoke/MethodHandle" ∧ yX6_save.cls ≠ "java/lang/invoke/VarHandle" ∧ (parseMethodDescriptor yX6_save.desc).map (fun d => d.parameters.length) = some 1 := by decide +kernel
def mX6_restore : MT := (2, (some .int), [], "restore")
theorem co_X6_restore : Cond.code yX6_restore cX6_restore mX6_restore.1 mX6_restore.2.1 ∈ TT := tt_t (i := 452) (by decide +kernel) rfl
theorem im_X6_restore : Cond.instanceMethod yX6_restore ∈ TT := tt_t (i := 450) (by decide +kernel) rfl
theorem se_X6_restore : Cond.selects yX6_restore.cls yX6_restore yX6_restore ∈ TT := tt_t (i := 451) (by decide +kernel) rfl
theorem ds_X6_restore : yX6_restore.cls ≠ "java/lang/invoke/MethodHandle" ∧ yX6_restore.cls ≠ "java/lang/invoke/VarHandle" ∧ (parseMethodDescriptor yX6_restore.desc).map (fun d => d.parameters.length) = some 1 := by decide +kernel
def mX6_requireRange : MT := (3, none, [], "requireRange")
theorem co_X6_requireRange : Cond.code yX6_requireRange cX6_requireRange mX6_requireRange.1 mX6_requireRange.2.1 ∈ TT := tt_t (i := 472) (by decide +kernel) rfl
theorem sm_X6_requireRange : Cond.static yX6_requireRange ∈ TT := tt_t (i := 471) (by decide +kernel) rfl
theorem ds_X6_requireRange : yX6_requireRange.cls ≠ "java/lang/invoke/MethodHandle" ∧ yX6_requireRange.cls ≠ "java/lang/invoke/VarHandle" ∧ (parseMethodDescriptor yX6_requireRange.desc).map (fun d => d.parameters.length) = some 3 := by decide +kernel
def mX6_requireRoom : MT := (3, (some (.object "HallHeating$Room")), [], "requireRoom")
theorem co_X6_requireRoom : Cond.code yX6_requireRoom cX6_requireRoom mX6_requireRoom.1 mX6_requireRoom.2.1 ∈ TT := tt_t (i := 505) (by decide +kernel) rfl
theorem im_X6_requireRoom : Cond.instanceMethod yX6_requireRoom ∈ TT := tt_t (i := 504) (by decide +kernel) rfl
theorem se_X6_requireRoom : Cond.selects yX6_requireRoom.cls yX6_requireRoom yX6_requireRoom ∈ TT := tt_p (i := 9) (by decide +kernel) rfl
theorem ds_X6_requireRoom : yX6_requireRoom.cls ≠ "java/lang/invoke/MethodHandle" ∧ yX6_requireRoom.cls ≠ "java/lang/invoke/VarHandle" ∧ (parseMethodDescriptor yX6_requireRoom.desc).map (fun d => d.parameters.length) = some 1 := by decide +kernel
def mX6_requireGroup : MT := (2, none, [], "requireGroup")
theorem co_X6_requireGroup : Cond.code yX6_requireGroup cX6_requireGroup mX6_requireGroup.1 mX6_requireGroup.2.1 ∈ TT := tt_t (i := 556) (by decide +kernel) rfl
theorem im_X6_requireGroup : Cond.instanceMethod yX6_requireGroup ∈ TT := tt_t (i := 555) (by decide +kernel) rfl
theorem se_X6_requireGroup : Cond.selects yX6_requireGroup.cls yX6_requireGroup yX6_requireGroup ∈ TT := tt_p (i := 11) (by decide +kernel) rfl
theorem ds_X6_requireGroup : yX6_requireGroup.cls ≠ "java/lang/invoke/MethodHandle" ∧ yX6_requireGroup.cls ≠ "java/lang/invoke/VarHandle" ∧ (parseMethodDescriptor yX6_requireGroup.desc).map (fun d => d.parameters.length) = some 1 := by decide +kernel
def mX6_requireBooking : MT := (3, (some (.object "HallHeating$Booking")), [], "requireBooking")
theorem co_X6_requireBooking : Cond.code yX6_requireBooking cX6_requireBooking mX6_requireBooking.1 mX6_requireBooking.2.1 ∈ TT := tt_t (i := 578) (by decide +kernel) rfl
theorem im_X6_requireBooking : Cond.instanceMethod yX6_requireBooking ∈ TT := tt_t (i := 577) (by decide +kernel) rfl
theorem se_X6_requireBooking : Cond.selects yX6_requireBooking.cls yX6_requireBooking yX6_requireBooking ∈ TT := tt_p (i := 12) (by decide +kernel) rfl
theorem ds_X6_requireBooking : yX6_requireBooking.cls ≠ "java/lang/invoke/MethodHandle" ∧ yX6_requireBooking.cls ≠ "java/lang/invoke/VarHandle" ∧ (parseMethodDescriptor yX6_requireBooking.desc).map (fun d => d.parameters.length) = some 1 := by decide +kernel
def mX6_requireSlot : MT := (1, none, [], "requireSlot")
theorem co_X6_requireSlot : Cond.code yX6_requireSlot cX6_requireSlot mX6_requireSlot.1 mX6_requireSlot.2.1 ∈ TT := tt_t (i := 428) (by decide +kernel) rfl
theorem sm_X6_requireSlot : Cond.static yX6_requireSlot ∈ TT := tt_t (i := 427) (by decide +kernel) rfl
theorem ds_X6_requireSlot : yX6_requireSlot.cls ≠ "java/lang/invoke/MethodHandle" ∧ yX6_requireSlot.cls ≠ "java/lang/invoke/VarHandle" ∧ (parseMethodDescriptor yX6_requireSlot.desc).map (fun d => d.parameters.length) = some 1 := by decide +kernel
def mX6_requireBookingArguments : MT := (6, none, [], "requireBookingArguments")
theorem co_X6_requireBookingArguments : Cond.code yX6_requireBookingArguments cX6_requireBookingArguments mX6_requireBookingArguments.1 mX6_requireBookingArguments.2.1 ∈ TT := tt_t (i := 670) (by decide +kernel) rfl
theorem im_X6_requireBookingArguments : Cond.instanceMethod yX6_requireBookingArguments ∈ TT := tt_t (i := 669) (by decide +kernel) rfl
theorem se_X6_requireBookingArguments : Cond.selects yX6_requireBookingArguments.cls yX6_requireBookingArguments yX6_requireBookingArguments ∈ TT := tt_p (i := 18) (by decide +kernel) rfl
theorem ds_X6_requireBookingArguments : yX6_requireBookingArguments.cls ≠ "java/lang/invoke/MethodHandle" ∧ yX6_requireBookingArguments.cls ≠ "java/lang/invoke/VarHandle" ∧ (parseMethodDescriptor yX6_requireBookingArguments.desc).map (fun d => d.parameters.length) = some 5 := by decide +kernel
def mL_draw : MT := (2, (some .int), [], "draw")
theorem co_L_draw : Cond.code yL_draw cL_draw mL_draw.1 mL_draw.2.1 ∈ TT := tt_t (i := 245) (by decide +kernel) rfl
theorem sm_L_draw : Cond.static yL_draw ∈ TT := tt_t (i := 244) (by decide +kernel) rfl
theorem ds_L_draw : yL_draw.cls ≠ "java/lang/invoke/MethodHandle" ∧ yL_draw.cls ≠ "java/lang/invoke/VarHandle" ∧ (parseMethodDescriptor yL_draw.desc).map (fun d => d.parameters.length) = some 2 := by decide +kernel
def mL_in : MT := (6, (some .boolean), [], "in")
theorem co_L_in : Cond.code yL_in cL_in mL_in.1 mL_in.2.1 ∈ TT := tt_t (i := 854) (by decide +kernel) rfl
theorem sm_L_in : Cond.static yL_in ∈ TT := tt_t (i := 853) (by decide +kernel) rfl
theorem ds_L_in : yL_in.cls ≠ "java/lang/invoke/MethodHandle" ∧ yL_in.cls ≠ "java/lang/invoke/VarHandle" ∧ (parseMethodDescriptor yL_in.desc).map (fun d => d.parameters.length) = some 3 := by decide +kernel
def mL_append : MT := (3, (some .long), [(0, 6, 7, 15), (0, 6, 12, 19)], "append")
theorem co_L_append : Cond.codeWith yL_append cL_append mL_append.1 mL_append.2.1 mL_append.2.2.1 ∈ TT := tt_t (i := 838) (by decide +kernel) rfl
theorem sm_L_append : Cond.static yL_append ∈ TT := tt_t (i := 837) (by decide +kernel) rfl
theorem ds_L_append : yL_append.cls ≠ "java/lang/invoke/MethodHandle" ∧ yL_append.cls ≠ "java/lang/invoke/VarHandle" ∧ (parseMethodDescriptor yL_append.desc).map (fun d => d.parameters.length) = some 2 := by decide +kernel
def mL_load : MT := (2, (some .long), [(0, 5, 6, 19)], "load")
theorem co_L_load : Cond.codeWith yL_load cL_load mL_load.1 mL_load.2.1 mL_load.2.2.1 ∈ TT := tt_t (i := 250) (by decide +kernel) rfl
theorem sm_L_load : Cond.static yL_load ∈ TT := tt_t (i := 249) (by decide +kernel) rfl
theorem ds_L_load : yL_load.cls ≠ "java/lang/invoke/MethodHandle" ∧ yL_load.cls ≠ "java/lang/invoke/VarHandle" ∧ (parseMethodDescriptor yL_load.desc).map (fun d => d.parameters.length) = some 1 := by decide +kernel
def mL_about : MT := (3, (some .long), [(0, 6, 7, 15)], "about")
theorem co_L_about : Cond.codeWith yL_about cL_about mL_about.1 mL_about.2.1 mL_about.2.2.1 ∈ TT := tt_t (i := 464) (by decide +kernel) rfl
theorem sm_L_about : Cond.static yL_about ∈ TT := tt_t (i := 463) (by decide +kernel) rfl
theorem ds_L_about : yL_about.cls ≠ "java/lang/invoke/MethodHandle" ∧ yL_about.cls ≠ "java/lang/invoke/VarHandle" ∧ (parseMethodDescriptor yL_about.desc).map (fun d => d.parameters.length) = some 2 := by decide +kernel
def mL_room : MT := (4, (some .long), [(0, 7, 8, 34), (0, 7, 13, 15)], "room")
theorem co_L_room : Cond.codeWith yL_room cL_room mL_room.1 mL_room.2.1 mL_room.2.2.1 ∈ TT := tt_t (i := 497) (by decide +kernel) rfl
theorem sm_L_room : Cond.static yL_room ∈ TT := tt_t (i := 496) (by decide +kernel) rfl
theorem ds_L_room : yL_room.cls ≠ "java/lang/invoke/MethodHandle" ∧ yL_room.cls ≠ "java/lang/invoke/VarHandle" ∧ (parseMethodDescriptor yL_room.desc).map (fun d => d.parameters.length) = some 3 := by decide +kernel
def mL_owes : MT := (3, (some .long), [(0, 6, 7, 34)], "owes")
theorem co_L_owes : Cond.codeWith yL_owes cL_owes mL_owes.1 mL_owes.2.1 mL_owes.2.2.1 ∈ TT := tt_t (i := 548) (by decide +kernel) rfl
theorem sm_L_owes : Cond.static yL_owes ∈ TT := tt_t (i := 547) (by decide +kernel) rfl
theorem ds_L_owes : yL_owes.cls ≠ "java/lang/invoke/MethodHandle" ∧ yL_owes.cls ≠ "java/lang/invoke/VarHandle" ∧ (parseMethodDescriptor yL_owes.desc).map (fun d => d.parameters.length) = some 2 := by decide +kernel
def mL_booking : MT := (4, (some .long), [(0, 7, 8, 34), (0, 7, 13, 15)], "booking")
theorem co_L_booking : Cond.codeWith yL_booking cL_booking mL_booking.1 mL_booking.2.1 mL_booking.2.2.1 ∈ TT := tt_t (i := 570) (by decide +kernel) rfl
theorem sm_L_booking : Cond.static yL_booking ∈ TT := tt_t (i := 569) (by decide +kernel) rfl
theorem ds_L_booking : yL_booking.cls ≠ "java/lang/invoke/MethodHandle" ∧ yL_booking.cls ≠ "java/lang/invoke/VarHandle" ∧ (parseMethodDescriptor yL_booking.desc).map (fun d => d.parameters.length) = some 3 := by decide +kernel
def mL_addRoom : MT := (6, (some .long), [(0, 10, 11, 15), (0, 10, 17, 19)], "addRoom")
theorem co_L_addRoom : Cond.codeWith yL_addRoom cL_addRoom mL_addRoom.1 mL_addRoom.2.1 mL_addRoom.2.2.1 ∈ TT := tt_t (i := 638) (by decide +kernel) rfl
theorem sm_L_addRoom : Cond.static yL_addRoom ∈ TT := tt_t (i := 637) (by decide +kernel) rfl
theorem ds_L_addRoom : yL_addRoom.cls ≠ "java/lang/invoke/MethodHandle" ∧ yL_addRoom.cls ≠ "java/lang/invoke/VarHandle" ∧ (parseMethodDescriptor yL_addRoom.desc).map (fun d => d.parameters.length) = some 5 := by decide +kernel
def mL_addGroup : MT := (2, (some .long), [(0, 5, 6, 19)], "addGroup")
theorem co_L_addGroup : Cond.codeWith yL_addGroup cL_addGroup mL_addGroup.1 mL_addGroup.2.1 mL_addGroup.2.2.1 ∈ TT := tt_t (i := 653) (by decide +kernel) rfl
theorem sm_L_addGroup : Cond.static yL_addGroup ∈ TT := tt_t (i := 652) (by decide +kernel) rfl
theorem ds_L_addGroup : yL_addGroup.cls ≠ "java/lang/invoke/MethodHandle" ∧ yL_addGroup.cls ≠ "java/lang/invoke/VarHandle" ∧ (parseMethodDescriptor yL_addGroup.desc).map (fun d => d.parameters.length) = some 1 := by decide +kernel
def mL_book : MT := (7, (some .long), [(0, 12, 13, 34), (0, 12, 19, 15), (0, 12, 25, 19)], "book")
theorem co_L_book : Cond.codeWith yL_book cL_book mL_book.1 mL_book.2.1 mL_book.2.2.1 ∈ TT := tt_t (i := 662) (by decide +kernel) rfl
theorem sm_L_book : Cond.static yL_book ∈ TT := tt_t (i := 661) (by decide +kernel) rfl
theorem ds_L_book : yL_book.cls ≠ "java/lang/invoke/MethodHandle" ∧ yL_book.cls ≠ "java/lang/invoke/VarHandle" ∧ (parseMethodDescriptor yL_book.desc).map (fun d => d.parameters.length) = some 6 := by decide +kernel
def mL_cancel : MT := (3, (some .long), [(0, 6, 7, 34), (0, 6, 12, 19)], "cancel")
theorem co_L_cancel : Cond.codeWith yL_cancel cL_cancel mL_cancel.1 mL_cancel.2.1 mL_cancel.2.2.1 ∈ TT := tt_t (i := 683) (by decide +kernel) rfl
theorem sm_L_cancel : Cond.static yL_cancel ∈ TT := tt_t (i := 682) (by decide +kernel) rfl
theorem ds_L_cancel : yL_cancel.cls ≠ "java/lang/invoke/MethodHandle" ∧ yL_cancel.cls ≠ "java/lang/invoke/VarHandle" ∧ (parseMethodDescriptor yL_cancel.desc).map (fun d => d.parameters.length) = some 2 := by decide +kernel
def mL_prove : MT := (4, (some .long), [(0, 7, 8, 34), (0, 7, 13, 19)], "prove")
theorem co_L_prove : Cond.codeWith yL_prove cL_prove mL_prove.1 mL_prove.2.1 mL_prove.2.2.1 ∈ TT := tt_t (i := 699) (by decide +kernel) rfl
theorem sm_L_prove : Cond.static yL_prove ∈ TT := tt_t (i := 698) (by decide +kernel) rfl
theorem ds_L_prove : yL_prove.cls ≠ "java/lang/invoke/MethodHandle" ∧ yL_prove.cls ≠ "java/lang/invoke/VarHandle" ∧ (parseMethodDescriptor yL_prove.desc).map (fun d => d.parameters.length) = some 3 := by decide +kernel
def mL_outside : MT := (3, (some .long), [(0, 6, 7, 15)], "outside")
theorem co_L_outside : Cond.codeWith yL_outside cL_outside mL_outside.1 mL_outside.2.1 mL_outside.2.2.1 ∈ TT := tt_t (i := 711) (by decide +kernel) rfl
theorem sm_L_outside : Cond.static yL_outside ∈ TT := tt_t (i := 710) (by decide +kernel) rfl
theorem ds_L_outside : yL_outside.cls ≠ "java/lang/invoke/MethodHandle" ∧ yL_outside.cls ≠ "java/lang/invoke/VarHandle" ∧ (parseMethodDescriptor yL_outside.desc).map (fun d => d.parameters.length) = some 2 := by decide +kernel
def mL_pay : MT := (3, (some .long), [(0, 6, 7, 34)], "pay")
theorem co_L_pay : Cond.codeWith yL_pay cL_pay mL_pay.1 mL_pay.2.1 mL_pay.2.2.1 ∈ TT := tt_t (i := 718) (by decide +kernel) rfl
theorem sm_L_pay : Cond.static yL_pay ∈ TT := tt_t (i := 717) (by decide +kernel) rfl
theorem ds_L_pay : yL_pay.cls ≠ "java/lang/invoke/MethodHandle" ∧ yL_pay.cls ≠ "java/lang/invoke/VarHandle" ∧ (parseMethodDescriptor yL_pay.desc).map (fun d => d.parameters.length) = some 2 := by decide +kernel
def mL_pass : MT := (3, (some .long), [(0, 6, 7, 15), (0, 6, 12, 19)], "pass")
theorem co_L_pass : Cond.codeWith yL_pass cL_pass mL_pass.1 mL_pass.2.1 mL_pass.2.2.1 ∈ TT := tt_t (i := 729) (by decide +kernel) rfl
theorem sm_L_pass : Cond.static yL_pass ∈ TT := tt_t (i := 728) (by decide +kernel) rfl
theorem ds_L_pass : yL_pass.cls ≠ "java/lang/invoke/MethodHandle" ∧ yL_pass.cls ≠ "java/lang/invoke/VarHandle" ∧ (parseMethodDescriptor yL_pass.desc).map (fun d => d.parameters.length) = some 2 := by decide +kernel
def mL_undo : MT := (2, (some .long), [(0, 5, 6, 19)], "undo")
theorem co_L_undo : Cond.codeWith yL_undo cL_undo mL_undo.1 mL_undo.2.1 mL_undo.2.2.1 ∈ TT := tt_t (i := 865) (by decide +kernel) rfl
theorem sm_L_undo : Cond.static yL_undo ∈ TT := tt_t (i := 864) (by decide +kernel) rfl
theorem ds_L_undo : yL_undo.cls ≠ "java/lang/invoke/MethodHandle" ∧ yL_undo.cls ≠ "java/lang/invoke/VarHandle" ∧ (parseMethodDescriptor yL_undo.desc).map (fun d => d.parameters.length) = some 1 := by decide +kernel
def mL_later : MT := (4, (some .long), [(0, 7, 8, 34), (0, 7, 13, 15)], "later")
theorem co_L_later : Cond.codeWith yL_later cL_later mL_later.1 mL_later.2.1 mL_later.2.2.1 ∈ TT := tt_t (i := 591) (by decide +kernel) rfl
theorem sm_L_later : Cond.static yL_later ∈ TT := tt_t (i := 590) (by decide +kernel) rfl
theorem ds_L_later : yL_later.cls ≠ "java/lang/invoke/MethodHandle" ∧ yL_later.cls ≠ "java/lang/invoke/VarHandle" ∧ (parseMethodDescriptor yL_later.desc).map (fun d => d.parameters.length) = some 3 := by decide +kernel
def mL_begins : MT := (3, (some .long), [(0, 6, 7, 34)], "begins")
theorem co_L_begins : Cond.codeWith yL_begins cL_begins mL_begins.1 mL_begins.2.1 mL_begins.2.2.1 ∈ TT := tt_t (i := 737) (by decide +kernel) rfl
theorem sm_L_begins : Cond.static yL_begins ∈ TT := tt_t (i := 736) (by decide +kernel) rfl
theorem ds_L_begins : yL_begins.cls ≠ "java/lang/invoke/MethodHandle" ∧ yL_begins.cls ≠ "java/lang/invoke/VarHandle" ∧ (parseMethodDescriptor yL_begins.desc).map (fun d => d.parameters.length) = some 2 := by decide +kernel
def mL_cost : MT := (7, (some .long), [(0, 12, 13, 34), (0, 12, 19, 15)], "cost")
theorem co_L_cost : Cond.codeWith yL_cost cL_cost mL_cost.1 mL_cost.2.1 mL_cost.2.2.1 ∈ TT := tt_t (i := 676) (by decide +kernel) rfl
theorem sm_L_cost : Cond.static yL_cost ∈ TT := tt_t (i := 675) (by decide +kernel) rfl
theorem ds_L_cost : yL_cost.cls ≠ "java/lang/invoke/MethodHandle" ∧ yL_cost.cls ≠ "java/lang/invoke/VarHandle" ∧ (parseMethodDescriptor yL_cost.desc).map (fun d => d.parameters.length) = some 6 := by decide +kernel
def mL_willOwe : MT := (3, (some .long), [(0, 6, 7, 34)], "willOwe")
theorem co_L_willOwe : Cond.codeWith yL_willOwe cL_willOwe mL_willOwe.1 mL_willOwe.2.1 mL_willOwe.2.2.1 ∈ TT := tt_t (i := 746) (by decide +kernel) rfl
theorem sm_L_willOwe : Cond.static yL_willOwe ∈ TT := tt_t (i := 745) (by decide +kernel) rfl
theorem ds_L_willOwe : yL_willOwe.cls ≠ "java/lang/invoke/MethodHandle" ∧ yL_willOwe.cls ≠ "java/lang/invoke/VarHandle" ∧ (parseMethodDescriptor yL_willOwe.desc).map (fun d => d.parameters.length) = some 2 := by decide +kernel
def mL_script : MT := (5, (some .long), [(0, 7, 8, 15)], "script")
theorem co_L_script : Cond.codeWith yL_script cL_script mL_script.1 mL_script.2.1 mL_script.2.2.1 ∈ TT := tt_t (i := 763) (by decide +kernel) rfl
theorem sm_L_script : Cond.static yL_script ∈ TT := tt_t (i := 762) (by decide +kernel) rfl
theorem ds_L_script : yL_script.cls ≠ "java/lang/invoke/MethodHandle" ∧ yL_script.cls ≠ "java/lang/invoke/VarHandle" ∧ (parseMethodDescriptor yL_script.desc).map (fun d => d.parameters.length) = some 3 := by decide +kernel
def mL_simulate : MT := (5, (some .long), [(0, 7, 8, 15)], "simulate")
theorem co_L_simulate : Cond.codeWith yL_simulate cL_simulate mL_simulate.1 mL_simulate.2.1 mL_simulate.2.2.1 ∈ TT := tt_t (i := 823) (by decide +kernel) rfl
theorem sm_L_simulate : Cond.static yL_simulate ∈ TT := tt_t (i := 822) (by decide +kernel) rfl
theorem ds_L_simulate : yL_simulate.cls ≠ "java/lang/invoke/MethodHandle" ∧ yL_simulate.cls ≠ "java/lang/invoke/VarHandle" ∧ (parseMethodDescriptor yL_simulate.desc).map (fun d => d.parameters.length) = some 3 := by decide +kernel
def mL_save : MT := (3, (some .long), [(0, 6, 7, 34)], "save")
theorem co_L_save : Cond.codeWith yL_save cL_save mL_save.1 mL_save.2.1 mL_save.2.2.1 ∈ TT := tt_t (i := 420) (by decide +kernel) rfl
theorem sm_L_save : Cond.static yL_save ∈ TT := tt_t (i := 419) (by decide +kernel) rfl
theorem ds_L_save : yL_save.cls ≠ "java/lang/invoke/MethodHandle" ∧ yL_save.cls ≠ "java/lang/invoke/VarHandle" ∧ (parseMethodDescriptor yL_save.desc).map (fun d => d.parameters.length) = some 2 := by decide +kernel
def mL_restore : MT := (3, (some .long), [(0, 6, 7, 34), (0, 6, 12, 19)], "restore")
theorem co_L_restore : Cond.codeWith yL_restore cL_restore mL_restore.1 mL_restore.2.1 mL_restore.2.2.1 ∈ TT := tt_t (i := 448) (by decide +kernel) rfl
theorem sm_L_restore : Cond.static yL_restore ∈ TT := tt_t (i := 447) (by decide +kernel) rfl
theorem ds_L_restore : yL_restore.cls ≠ "java/lang/invoke/MethodHandle" ∧ yL_restore.cls ≠ "java/lang/invoke/VarHandle" ∧ (parseMethodDescriptor yL_restore.desc).map (fun d => d.parameters.length) = some 2 := by decide +kernel
def mL_now : MT := (4, (some .long), [], "now")
theorem co_L_now : Cond.code yL_now cL_now mL_now.1 mL_now.2.1 ∈ TT := tt_t (i := 459) (by decide +kernel) rfl
theorem sm_L_now : Cond.static yL_now ∈ TT := tt_t (i := 458) (by decide +kernel) rfl
theorem ds_L_now : yL_now.cls ≠ "java/lang/invoke/MethodHandle" ∧ yL_now.cls ≠ "java/lang/invoke/VarHandle" ∧ (parseMethodDescriptor yL_now.desc).map (fun d => d.parameters.length) = some 1 := by decide +kernel
def mL_errors : MT := (11, (some .boolean), [], "errors")
set_option maxRecDepth 100000 in
set_option maxHeartbeats 4000000 in
theorem co_L_errors : Cond.code yL_errors cL_errors mL_errors.1 mL_errors.2.1 ∈ TT := tt_t (i := 456) rfl rfl
theorem sm_L_errors : Cond.static yL_errors ∈ TT := tt_t (i := 455) (by decide +kernel) rfl
theorem ds_L_errors : yL_errors.cls ≠ "java/lang/invoke/MethodHandle" ∧ yL_errors.cls ≠ "java/lang/invoke/VarHandle" ∧ (parseMethodDescriptor yL_errors.desc).map (fun d => d.parameters.length) = some 1 := by decide +kernel
def mL_kept : MT := (16, (some .boolean), [], "kept")
set_option maxRecDepth 100000 in
set_option maxHeartbeats 4000000 in
theorem co_L_kept : Cond.code yL_kept cL_kept mL_kept.1 mL_kept.2.1 ∈ TT := tt_t (i := 850) rfl rfl
theorem sm_L_kept : Cond.static yL_kept ∈ TT := tt_t (i := 849) (by decide +kernel) rfl
theorem ds_L_kept : yL_kept.cls ≠ "java/lang/invoke/MethodHandle" ∧ yL_kept.cls ≠ "java/lang/invoke/VarHandle" ∧ (parseMethodDescriptor yL_kept.desc).map (fun d => d.parameters.length) = some 1 := by decide +kernel
def mL_follows : MT := (22, (some .boolean), [], "follows")
set_option maxRecDepth 100000 in
set_option maxHeartbeats 4000000 in
theorem co_L_follows : Cond.code yL_follows cL_follows mL_follows.1 mL_follows.2.1 ∈ TT := tt_t (i := 862) rfl rfl
theorem sm_L_follows : Cond.static yL_follows ∈ TT := tt_t (i := 861) (by decide +kernel) rfl
theorem ds_L_follows : yL_follows.cls ≠ "java/lang/invoke/MethodHandle" ∧ yL_follows.cls ≠ "java/lang/invoke/VarHandle" ∧ (parseMethodDescriptor yL_follows.desc).map (fun d => d.parameters.length) = some 2 := by decide +kernel
def mL_alike : MT := (3, (some .boolean), [], "alike")
theorem co_L_alike : Cond.code yL_alike cL_alike mL_alike.1 mL_alike.2.1 ∈ TT := tt_t (i := 877) (by decide +kernel) rfl
theorem sm_L_alike : Cond.static yL_alike ∈ TT := tt_t (i := 876) (by decide +kernel) rfl
theorem ds_L_alike : yL_alike.cls ≠ "java/lang/invoke/MethodHandle" ∧ yL_alike.cls ≠ "java/lang/invoke/VarHandle" ∧ (parseMethodDescriptor yL_alike.desc).map (fun d => d.parameters.length) = some 3 := by decide +kernel
def mL_says : MT := (2, (some .boolean), [], "says")
theorem co_L_says : Cond.code yL_says cL_says mL_says.1 mL_says.2.1 ∈ TT := tt_t (i := 900) (by decide +kernel) rfl
theorem sm_L_says : Cond.static yL_says ∈ TT := tt_t (i := 899) (by decide +kernel) rfl
theorem ds_L_says : yL_says.cls ≠ "java/lang/invoke/MethodHandle" ∧ yL_says.cls ≠ "java/lang/invoke/VarHandle" ∧ (parseMethodDescriptor yL_says.desc).map (fun d => d.parameters.length) = some 2 := by decide +kernel
def mL_two : MT := (2, (some .boolean), [], "two")
theorem co_L_two : Cond.code yL_two cL_two mL_two.1 mL_two.2.1 ∈ TT := tt_t (i := 903) (by decide +kernel) rfl
theorem sm_L_two : Cond.static yL_two ∈ TT := tt_t (i := 902) (by decide +kernel) rfl
theorem ds_L_two : yL_two.cls ≠ "java/lang/invoke/MethodHandle" ∧ yL_two.cls ≠ "java/lang/invoke/VarHandle" ∧ (parseMethodDescriptor yL_two.desc).map (fun d => d.parameters.length) = some 2 := by decide +kernel
def mL_tells : MT := (8, (some .boolean), [], "tells")
theorem co_L_tells : Cond.code yL_tells cL_tells mL_tells.1 mL_tells.2.1 ∈ TT := tt_t (i := 893) (by decide +kernel) rfl
theorem sm_L_tells : Cond.static yL_tells ∈ TT := tt_t (i := 892) (by decide +kernel) rfl
theorem ds_L_tells : yL_tells.cls ≠ "java/lang/invoke/MethodHandle" ∧ yL_tells.cls ≠ "java/lang/invoke/VarHandle" ∧ (parseMethodDescriptor yL_tells.desc).map (fun d => d.parameters.length) = some 3 := by decide +kernel
def mL_act : MT := (7, (some .long), [], "act")
theorem co_L_act : Cond.code yL_act cL_act mL_act.1 mL_act.2.1 ∈ TT := tt_t (i := 906) (by decide +kernel) rfl
theorem sm_L_act : Cond.static yL_act ∈ TT := tt_t (i := 905) (by decide +kernel) rfl
theorem ds_L_act : yL_act.cls ≠ "java/lang/invoke/MethodHandle" ∧ yL_act.cls ≠ "java/lang/invoke/VarHandle" ∧ (parseMethodDescriptor yL_act.desc).map (fun d => d.parameters.length) = some 3 := by decide +kernel
theorem in_X0 : Cond.initialized RX0 ∈ TT := tt_t (i := 5) (by decide +kernel) rfl
theorem ins_X0 : Cond.instantiable (clR 0) (nF 0) ∈ TT := tt_t (i := 77) (by decide +kernel) rfl
theorem in_X1 : Cond.initialized RX1 ∈ TT := tt_t (i := 7) (by decide +kernel) rfl
theorem ins_X1 : Cond.instantiable (clR 1) (nF 1) ∈ TT := tt_t (i := 196) (by decide +kernel) rfl
theorem in_X2 : Cond.initialized RX2 ∈ TT := tt_t (i := 3) (by decide +kernel) rfl
theorem ins_X2 : Cond.instantiable (clR 2) (nF 2) ∈ TT := tt_t (i := 46) (by decide +kernel) rfl
theorem in_X3 : Cond.initialized RX3 ∈ TT := tt_t (i := 2) (by decide +kernel) rfl
theorem ins_X3 : Cond.instantiable (clR 3) (nF 3) ∈ TT := tt_t (i := 25) (by decide +kernel) rfl
theorem in_X4 : Cond.initialized RX4 ∈ TT := tt_t (i := 6) (by decide +kernel) rfl
theorem ins_X4 : Cond.instantiable (clR 4) (nF 4) ∈ TT := tt_t (i := 176) (by decide +kernel) rfl
theorem in_X5 : Cond.initialized RX5 ∈ TT := tt_t (i := 4) (by decide +kernel) rfl
theorem ins_X5 : Cond.instantiable (clR 5) (nF 5) ∈ TT := tt_t (i := 55) (by decide +kernel) rfl
theorem in_X6 : Cond.initialized RX6 ∈ TT := tt_t (i := 1) (by decide +kernel) rfl
theorem ins_X6 : Cond.instantiable (clR 6) (nF 6) ∈ TT := tt_t (i := 17) (by decide +kernel) rfl
theorem in_L : Cond.initialized RL ∈ TT := tt_t (i := 0) (by decide +kernel) rfl
theorem vl_L_9 : VL RL 9 yX6_append cX6_append mX6_append 1 6 := ⟨tt_t (i := 839) (by decide +kernel) rfl, im_X6_append, se_X6_append, in_X6, co_X6_append, ds_X6_append, by decide, rfl⟩
theorem cl_L_10 : Cond.classLink RL 10 (clR 6) ∈ TT := tt_t (i := 16) (by decide +kernel) rfl
theorem kl_L_17 : Cond.constantLong RL 17 (-9000000000000000002) ∈ TT := tt_t (i := 493) (by decide +kernel) rfl
theorem kl_L_21 : Cond.constantLong RL 21 (-9000000000000000003) ∈ TT := tt_t (i := 417) (by decide +kernel) rfl
theorem vl_L_23 : VL RL 23 yX6_load cX6_load mX6_load 0 6 := ⟨tt_t (i := 252) (by decide +kernel) rfl, im_X6_load, se_X6_load, in_X6, co_X6_load, ds_X6_load, by decide, rfl⟩
theorem vl_L_27 : VL RL 27 yX6_about cX6_about mX6_about 1 6 := ⟨tt_t (i := 466) (by decide +kernel) rfl, im_X6_about, se_X6_about, in_X6, co_X6_about, ds_X6_about, by decide, rfl⟩
theorem vl_L_30 : VL RL 30 yX6_room cX6_room mX6_room 2 6 := ⟨tt_t (i := 498) (by decide +kernel) rfl, im_X6_room, se_X6_room, in_X6, co_X6_room, ds_X6_room, by decide, rfl⟩
theorem kl_L_36 : Cond.constantLong RL 36 (-9000000000000000001) ∈ TT := tt_t (i := 445) (by decide +kernel) rfl
theorem vl_L_38 : VL RL 38 yX6_owes cX6_owes mX6_owes 1 6 := ⟨tt_t (i := 549) (by decide +kernel) rfl, im_X6_owes, se_X6_owes, in_X6, co_X6_owes, ds_X6_owes, by decide, rfl⟩
theorem vl_L_41 : VL RL 41 yX6_booking cX6_booking mX6_booking 2 6 := ⟨tt_t (i := 571) (by decide +kernel) rfl, im_X6_booking, se_X6_booking, in_X6, co_X6_booking, ds_X6_booking, by decide, rfl⟩
theorem vl_L_44 : VL RL 44 yX6_addRoom cX6_addRoom mX6_addRoom 4 6 := ⟨tt_t (i := 639) (by decide +kernel) rfl, im_X6_addRoom, se_X6_addRoom, in_X6, co_X6_addRoom, ds_X6_addRoom, by decide, rfl⟩
theorem vl_L_48 : VL RL 48 yX6_addGroup cX6_addGroup mX6_addGroup 0 6 := ⟨tt_t (i := 654) (by decide +kernel) rfl, im_X6_addGroup, se_X6_addGroup, in_X6, co_X6_addGroup, ds_X6_addGroup, by decide, rfl⟩
theorem vl_L_51 : VL RL 51 yX6_book cX6_book mX6_book 5 6 := ⟨tt_t (i := 663) (by decide +kernel) rfl, im_X6_book, se_X6_book, in_X6, co_X6_book, ds_X6_book, by decide, rfl⟩
theorem vl_L_55 : VL RL 55 yX6_cancel cX6_cancel mX6_cancel 1 6 := ⟨tt_t (i := 684) (by decide +kernel) rfl, im_X6_cancel, se_X6_cancel, in_X6, co_X6_cancel, ds_X6_cancel, by decide, rfl⟩
theorem vl_L_58 : VL RL 58 yX6_prove cX6_prove mX6_prove 2 6 := ⟨tt_t (i := 700) (by decide +kernel) rfl, im_X6_prove, se_X6_prove, in_X6, co_X6_prove, ds_X6_prove, by decide, rfl⟩
theorem vl_L_62 : VL RL 62 yX6_outside cX6_outside mX6_outside 1 6 := ⟨tt_t (i := 712) (by decide +kernel) rfl, im_X6_outside, se_X6_outside, in_X6, co_X6_outside, ds_X6_outside, by decide, rfl⟩
theorem vl_L_65 : VL RL 65 yX6_pay cX6_pay mX6_pay 1 6 := ⟨tt_t (i := 719) (by decide +kernel) rfl, im_X6_pay, se_X6_pay, in_X6, co_X6_pay, ds_X6_pay, by decide, rfl⟩
theorem vl_L_68 : VL RL 68 yX6_pass cX6_pass mX6_pass 1 6 := ⟨tt_t (i := 730) (by decide +kernel) rfl, im_X6_pass, se_X6_pass, in_X6, co_X6_pass, ds_X6_pass, by decide, rfl⟩
theorem vl_L_71 : VL RL 71 yX6_undo cX6_undo mX6_undo 0 6 := ⟨tt_t (i := 866) (by decide +kernel) rfl, im_X6_undo, se_X6_undo, in_X6, co_X6_undo, ds_X6_undo, by decide, rfl⟩
theorem vl_L_74 : VL RL 74 yX6_later cX6_later mX6_later 2 6 := ⟨tt_t (i := 592) (by decide +kernel) rfl, im_X6_later, se_X6_later, in_X6, co_X6_later, ds_X6_later, by decide, rfl⟩
theorem vl_L_77 : VL RL 77 yX6_begins cX6_begins mX6_begins 1 6 := ⟨tt_t (i := 738) (by decide +kernel) rfl, im_X6_begins, se_X6_begins, in_X6, co_X6_begins, ds_X6_begins, by decide, rfl⟩
theorem vl_L_80 : VL RL 80 yX6_cost cX6_cost mX6_cost 5 6 := ⟨tt_t (i := 677) (by decide +kernel) rfl, im_X6_cost, se_X6_cost, in_X6, co_X6_cost, ds_X6_cost, by decide, rfl⟩
theorem vl_L_83 : VL RL 83 yX6_willOwe cX6_willOwe mX6_willOwe 1 6 := ⟨tt_t (i := 747) (by decide +kernel) rfl, im_X6_willOwe, se_X6_willOwe, in_X6, co_X6_willOwe, ds_X6_willOwe, by decide, rfl⟩
theorem vl_L_86 : VL RL 86 yX6_runScript cX6_runScript mX6_runScript 2 6 := ⟨tt_t (i := 764) (by decide +kernel) rfl, im_X6_runScript, se_X6_runScript, in_X6, co_X6_runScript, ds_X6_runScript, by decide, rfl⟩
theorem vl_L_90 : VL RL 90 yX6_simulate cX6_simulate mX6_simulate 2 6 := ⟨tt_t (i := 824) (by decide +kernel) rfl, im_X6_simulate, se_X6_simulate, in_X6, co_X6_simulate, ds_X6_simulate, by decide, rfl⟩
theorem vl_L_94 : VL RL 94 yX6_save cX6_save mX6_save 1 6 := ⟨tt_t (i := 422) (by decide +kernel) rfl, im_X6_save, se_X6_save, in_X6, co_X6_save, ds_X6_save, by decide, rfl⟩
theorem vl_L_97 : VL RL 97 yX6_restore cX6_restore mX6_restore 1 6 := ⟨tt_t (i := 449) (by decide +kernel) rfl, im_X6_restore, se_X6_restore, in_X6, co_X6_restore, ds_X6_restore, by decide, rfl⟩
theorem kl_L_100 : Cond.constantLong RL 100 (59) ∈ TT := tt_t (i := 460) (by decide +kernel) rfl
theorem kl_L_102 : Cond.constantLong RL 102 (31) ∈ TT := tt_t (i := 461) (by decide +kernel) rfl
theorem sl_L_104 : SLH RL 104 yL_about cL_about mL_about 2 := ⟨tt_t (i := 462) (by decide +kernel) rfl, sm_L_about, in_L, co_L_about, ds_L_about⟩
theorem kl_L_109 : Cond.constantLong RL 109 (7) ∈ TT := tt_t (i := 494) (by decide +kernel) rfl
theorem sl_L_111 : SLH RL 111 yL_room cL_room mL_room 3 := ⟨tt_t (i := 495) (by decide +kernel) rfl, sm_L_room, in_L, co_L_room, ds_L_room⟩
theorem sl_L_114 : SLH RL 114 yL_owes cL_owes mL_owes 2 := ⟨tt_t (i := 546) (by decide +kernel) rfl, sm_L_owes, in_L, co_L_owes, ds_L_owes⟩
theorem kl_L_116 : Cond.constantLong RL 116 (10) ∈ TT := tt_t (i := 567) (by decide +kernel) rfl
theorem sl_L_118 : SLH RL 118 yL_booking cL_booking mL_booking 3 := ⟨tt_t (i := 568) (by decide +kernel) rfl, sm_L_booking, in_L, co_L_booking, ds_L_booking⟩
theorem sl_L_120 : SL RL 120 yL_now cL_now mL_now 1 := ⟨tt_t (i := 457) (by decide +kernel) rfl, sm_L_now, in_L, co_L_now, ds_L_now⟩
theorem sl_L_124 : SLH RL 124 yL_later cL_later mL_later 3 := ⟨tt_t (i := 589) (by decide +kernel) rfl, sm_L_later, in_L, co_L_later, ds_L_later⟩
theorem sl_L_126 : SLH RL 126 yL_addRoom cL_addRoom mL_addRoom 5 := ⟨tt_t (i := 636) (by decide +kernel) rfl, sm_L_addRoom, in_L, co_L_addRoom, ds_L_addRoom⟩
theorem sl_L_129 : SLH RL 129 yL_addGroup cL_addGroup mL_addGroup 1 := ⟨tt_t (i := 651) (by decide +kernel) rfl, sm_L_addGroup, in_L, co_L_addGroup, ds_L_addGroup⟩
theorem sl_L_131 : SLH RL 131 yL_book cL_book mL_book 6 := ⟨tt_t (i := 660) (by decide +kernel) rfl, sm_L_book, in_L, co_L_book, ds_L_book⟩
theorem sl_L_134 : SLH RL 134 yL_cost cL_cost mL_cost 6 := ⟨tt_t (i := 674) (by decide +kernel) rfl, sm_L_cost, in_L, co_L_cost, ds_L_cost⟩
theorem sl_L_136 : SLH RL 136 yL_cancel cL_cancel mL_cancel 2 := ⟨tt_t (i := 681) (by decide +kernel) rfl, sm_L_cancel, in_L, co_L_cancel, ds_L_cancel⟩
theorem sl_L_138 : SLH RL 138 yL_prove cL_prove mL_prove 3 := ⟨tt_t (i := 697) (by decide +kernel) rfl, sm_L_prove, in_L, co_L_prove, ds_L_prove⟩
theorem sl_L_141 : SLH RL 141 yL_outside cL_outside mL_outside 2 := ⟨tt_t (i := 709) (by decide +kernel) rfl, sm_L_outside, in_L, co_L_outside, ds_L_outside⟩
theorem sl_L_143 : SLH RL 143 yL_pay cL_pay mL_pay 2 := ⟨tt_t (i := 716) (by decide +kernel) rfl, sm_L_pay, in_L, co_L_pay, ds_L_pay⟩
theorem sl_L_145 : SLH RL 145 yL_pass cL_pass mL_pass 2 := ⟨tt_t (i := 727) (by decide +kernel) rfl, sm_L_pass, in_L, co_L_pass, ds_L_pass⟩
theorem sl_L_147 : SLH RL 147 yL_begins cL_begins mL_begins 2 := ⟨tt_t (i := 735) (by decide +kernel) rfl, sm_L_begins, in_L, co_L_begins, ds_L_begins⟩
theorem sl_L_149 : SLH RL 149 yL_willOwe cL_willOwe mL_willOwe 2 := ⟨tt_t (i := 744) (by decide +kernel) rfl, sm_L_willOwe, in_L, co_L_willOwe, ds_L_willOwe⟩
theorem kl_L_151 : Cond.constantLong RL 151 (-99) ∈ TT := tt_t (i := 760) (by decide +kernel) rfl
theorem sl_L_153 : SLH RL 153 yL_script cL_script mL_script 3 := ⟨tt_t (i := 761) (by decide +kernel) rfl, sm_L_script, in_L, co_L_script, ds_L_script⟩
theorem kl_L_157 : Cond.constantLong RL 157 (1000000000000000) ∈ TT := tt_t (i := 820) (by decide +kernel) rfl
theorem sl_L_159 : SLH RL 159 yL_simulate cL_simulate mL_simulate 3 := ⟨tt_t (i := 821) (by decide +kernel) rfl, sm_L_simulate, in_L, co_L_simulate, ds_L_simulate⟩
theorem sl_L_162 : SLH RL 162 yL_save cL_save mL_save 2 := ⟨tt_t (i := 418) (by decide +kernel) rfl, sm_L_save, in_L, co_L_save, ds_L_save⟩
theorem sl_L_164 : SLH RL 164 yL_restore cL_restore mL_restore 2 := ⟨tt_t (i := 446) (by decide +kernel) rfl, sm_L_restore, in_L, co_L_restore, ds_L_restore⟩
theorem sl_L_166 : SLH RL 166 yL_append cL_append mL_append 2 := ⟨tt_t (i := 836) (by decide +kernel) rfl, sm_L_append, in_L, co_L_append, ds_L_append⟩
theorem kl_L_168 : Cond.constantLong RL 168 (240) ∈ TT := tt_t (i := 851) (by decide +kernel) rfl
theorem sl_L_170 : SL RL 170 yL_in cL_in mL_in 3 := ⟨tt_t (i := 852) (by decide +kernel) rfl, sm_L_in, in_L, co_L_in, ds_L_in⟩
theorem kl_L_174 : Cond.constantLong RL 174 (4) ∈ TT := tt_t (i := 855) (by decide +kernel) rfl
theorem kl_L_176 : Cond.constantLong RL 176 (6) ∈ TT := tt_t (i := 856) (by decide +kernel) rfl
theorem kl_L_178 : Cond.constantLong RL 178 (12) ∈ TT := tt_t (i := 857) (by decide +kernel) rfl
theorem kl_L_180 : Cond.constantLong RL 180 (199) ∈ TT := tt_t (i := 858) (by decide +kernel) rfl
theorem kl_L_182 : Cond.constantLong RL 182 (25) ∈ TT := tt_t (i := 859) (by decide +kernel) rfl
theorem sl_L_184 : SLH RL 184 yL_undo cL_undo mL_undo 1 := ⟨tt_t (i := 863) (by decide +kernel) rfl, sm_L_undo, in_L, co_L_undo, ds_L_undo⟩
theorem vl_L_186 : VL RL 186 yX6_errorPosition cX6_errorPosition mX6_errorPosition 0 6 := ⟨tt_t (i := 878) (by decide +kernel) rfl, im_X6_errorPosition, se_X6_errorPosition, in_X6, co_X6_errorPosition, ds_X6_errorPosition, by decide, rfl⟩
theorem vl_L_189 : VL RL 189 yX6_coldest cX6_coldest mX6_coldest 0 6 := ⟨tt_t (i := 882) (by decide +kernel) rfl, im_X6_coldest, se_X6_coldest, in_X6, co_X6_coldest, ds_X6_coldest, by decide, rfl⟩
theorem kl_L_192 : Cond.constantLong RL 192 (200030001060010) ∈ TT := tt_t (i := 890) (by decide +kernel) rfl
theorem sl_L_194 : SL RL 194 yL_says cL_says mL_says 2 := ⟨tt_t (i := 898) (by decide +kernel) rfl, sm_L_says, in_L, co_L_says, ds_L_says⟩
theorem vl_L_198 : VL RL 198 yX6_clearText cX6_clearText mX6_clearText 0 6 := ⟨tt_t (i := 894) (by decide +kernel) rfl, im_X6_clearText, se_X6_clearText, in_X6, co_X6_clearText, ds_X6_clearText, by decide, rfl⟩
theorem sl_L_201 : SL RL 201 yL_two cL_two mL_two 2 := ⟨tt_t (i := 901) (by decide +kernel) rfl, sm_L_two, in_L, co_L_two, ds_L_two⟩
theorem il_L_204 : IL RL 204 yX6_init cX6_init mX6_init 0 := ⟨Or.inl (tt_t (i := 18) (by decide +kernel) rfl), im_X6_init, rfl, in_X6, co_X6_init, rfl, ds_X6_init⟩
theorem sl_L_205 : SL RL 205 yL_draw cL_draw mL_draw 2 := ⟨tt_t (i := 243) (by decide +kernel) rfl, sm_L_draw, in_L, co_L_draw, ds_L_draw⟩
theorem sl_L_209 : SL RL 209 yL_alike cL_alike mL_alike 3 := ⟨tt_t (i := 875) (by decide +kernel) rfl, sm_L_alike, in_L, co_L_alike, ds_L_alike⟩
theorem sl_L_213 : SL RL 213 yL_errors cL_errors mL_errors 1 := ⟨tt_t (i := 454) (by decide +kernel) rfl, sm_L_errors, in_L, co_L_errors, ds_L_errors⟩
theorem sl_L_217 : SL RL 217 yL_kept cL_kept mL_kept 1 := ⟨tt_t (i := 848) (by decide +kernel) rfl, sm_L_kept, in_L, co_L_kept, ds_L_kept⟩
theorem sl_L_220 : SL RL 220 yL_tells cL_tells mL_tells 3 := ⟨tt_t (i := 891) (by decide +kernel) rfl, sm_L_tells, in_L, co_L_tells, ds_L_tells⟩
theorem sl_L_224 : SLH RL 224 yL_load cL_load mL_load 1 := ⟨tt_t (i := 248) (by decide +kernel) rfl, sm_L_load, in_L, co_L_load, ds_L_load⟩
theorem sl_L_226 : SL RL 226 yL_act cL_act mL_act 3 := ⟨tt_t (i := 904) (by decide +kernel) rfl, sm_L_act, in_L, co_L_act, ds_L_act⟩
theorem sl_L_229 : SL RL 229 yL_follows cL_follows mL_follows 2 := ⟨tt_t (i := 860) (by decide +kernel) rfl, sm_L_follows, in_L, co_L_follows, ds_L_follows⟩
theorem jl_0_1 : Cond.methodLink RX0 1 Lib.objectInit ∈ TT := tt_t (i := 81) (by decide +kernel) rfl
theorem fl_0_7 : FL RX0 7 0 0 := ⟨by decide, by decide, tt_t (i := 82) (by decide +kernel) rfl⟩
theorem fI_0_7 : FI RX0 7 0 0 := ⟨fl_0_7, by decide⟩
theorem fP_0_7 : FP RX0 7 0 0 .int := ⟨fl_0_7, by decide, by decide, by decide +kernel⟩
theorem fl_0_13 : FL RX0 13 0 1 := ⟨by decide, by decide, tt_t (i := 85) (by decide +kernel) rfl⟩
theorem fI_0_13 : FI RX0 13 0 1 := ⟨fl_0_13, by decide⟩
theorem fP_0_13 : FP RX0 13 0 1 .int := ⟨fl_0_13, by decide, by decide, by decide +kernel⟩
theorem fl_0_16 : FL RX0 16 0 2 := ⟨by decide, by decide, tt_t (i := 87) (by decide +kernel) rfl⟩
theorem fI_0_16 : FI RX0 16 0 2 := ⟨fl_0_16, by decide⟩
theorem fP_0_16 : FP RX0 16 0 2 .int := ⟨fl_0_16, by decide, by decide, by decide +kernel⟩
theorem fl_0_19 : FL RX0 19 0 3 := ⟨by decide, by decide, tt_t (i := 89) (by decide +kernel) rfl⟩
theorem fI_0_19 : FI RX0 19 0 3 := ⟨fl_0_19, by decide⟩
theorem fP_0_19 : FP RX0 19 0 3 .int := ⟨fl_0_19, by decide, by decide, by decide +kernel⟩
theorem fl_0_22 : FL RX0 22 0 4 := ⟨by decide, by decide, tt_t (i := 90) (by decide +kernel) rfl⟩
theorem fI_0_22 : FI RX0 22 0 4 := ⟨fl_0_22, by decide⟩
theorem fP_0_22 : FP RX0 22 0 4 .int := ⟨fl_0_22, by decide, by decide, by decide +kernel⟩
theorem fl_0_25 : FL RX0 25 0 5 := ⟨by decide, by decide, tt_t (i := 92) (by decide +kernel) rfl⟩
theorem fI_0_25 : FI RX0 25 0 5 := ⟨fl_0_25, by decide⟩
theorem fP_0_25 : FP RX0 25 0 5 .boolean := ⟨fl_0_25, by decide, by decide, by decide +kernel⟩
theorem fl_0_29 : FL RX0 29 0 6 := ⟨by decide, by decide, tt_t (i := 94) (by decide +kernel) rfl⟩
theorem fI_0_29 : FI RX0 29 0 6 := ⟨fl_0_29, by decide⟩
theorem fP_0_29 : FP RX0 29 0 6 .int := ⟨fl_0_29, by decide, by decide, by decide +kernel⟩
theorem fl_0_32 : FL RX0 32 0 7 := ⟨by decide, by decide, tt_t (i := 96) (by decide +kernel) rfl⟩
theorem fI_0_32 : FI RX0 32 0 7 := ⟨fl_0_32, by decide⟩
theorem fP_0_32 : FP RX0 32 0 7 .int := ⟨fl_0_32, by decide, by decide, by decide +kernel⟩
theorem fl_0_35 : FL RX0 35 0 8 := ⟨by decide, by decide, tt_t (i := 98) (by decide +kernel) rfl⟩
theorem fI_0_35 : FI RX0 35 0 8 := ⟨fl_0_35, by decide⟩
theorem fP_0_35 : FP RX0 35 0 8 .boolean := ⟨fl_0_35, by decide, by decide, by decide +kernel⟩
theorem fl_0_38 : FL RX0 38 0 9 := ⟨by decide, by decide, tt_t (i := 100) (by decide +kernel) rfl⟩
theorem fI_0_38 : FI RX0 38 0 9 := ⟨fl_0_38, by decide⟩
theorem fP_0_38 : FP RX0 38 0 9 .int := ⟨fl_0_38, by decide, by decide, by decide +kernel⟩
theorem vl_0_41 : VL RX0 41 yX0_become cX0_become mX0_become 5 0 := ⟨tt_t (i := 412) (by decide +kernel) rfl, im_X0_become, se_X0_become, in_X0, co_X0_become, ds_X0_become, by decide, rfl⟩
theorem vl_0_45 : VL RX0 45 yX0_end cX0_end mX0_end 0 0 := ⟨tt_t (i := 316) (by decide +kernel) rfl, im_X0_end, se_X0_end, in_X0, co_X0_end, ds_X0_end, by decide, rfl⟩
theorem jl_1_3 : Cond.methodLink RX1 3 Lib.objectInit ∈ TT := tt_t (i := 200) (by decide +kernel) rfl
theorem kl_1_9 : Cond.constantLong RX1 9 (100000) ∈ TT := tt_t (i := 771) (by decide +kernel) rfl
theorem fl_1_11 : FL RX1 11 1 0 := ⟨by decide, by decide, tt_t (i := 201) (by decide +kernel) rfl⟩
theorem fI_1_11 : FI RX1 11 1 0 := ⟨fl_1_11, by decide⟩
theorem fP_1_11 : FP RX1 11 1 0 .int := ⟨fl_1_11, by decide, by decide, by decide +kernel⟩
theorem fl_1_17 : FL RX1 17 1 1 := ⟨by decide, by decide, tt_t (i := 202) (by decide +kernel) rfl⟩
theorem fI_1_17 : FI RX1 17 1 1 := ⟨fl_1_17, by decide⟩
theorem fP_1_17 : FP RX1 17 1 1 .int := ⟨fl_1_17, by decide, by decide, by decide +kernel⟩
theorem fl_1_20 : FL RX1 20 1 2 := ⟨by decide, by decide, tt_t (i := 203) (by decide +kernel) rfl⟩
theorem fI_1_20 : FI RX1 20 1 2 := ⟨fl_1_20, by decide⟩
theorem fP_1_20 : FP RX1 20 1 2 .int := ⟨fl_1_20, by decide, by decide, by decide +kernel⟩
theorem fl_1_23 : FL RX1 23 1 3 := ⟨by decide, by decide, tt_t (i := 204) (by decide +kernel) rfl⟩
theorem fI_1_23 : FI RX1 23 1 3 := ⟨fl_1_23, by decide⟩
theorem fP_1_23 : FP RX1 23 1 3 .int := ⟨fl_1_23, by decide, by decide, by decide +kernel⟩
theorem fl_1_26 : FL RX1 26 1 4 := ⟨by decide, by decide, tt_t (i := 205) (by decide +kernel) rfl⟩
theorem fI_1_26 : FI RX1 26 1 4 := ⟨fl_1_26, by decide⟩
theorem fP_1_26 : FP RX1 26 1 4 .int := ⟨fl_1_26, by decide, by decide, by decide +kernel⟩
theorem vl_1_29 : VL RX1 29 yX1_letsPass cX1_letsPass mX1_letsPass 2 1 := ⟨tt_t (i := 781) (by decide +kernel) rfl, im_X1_letsPass, se_X1_letsPass, in_X1, co_X1_letsPass, ds_X1_letsPass, by decide, rfl⟩
theorem vl_1_33 : VL RX1 33 yX1_changesOutdoors cX1_changesOutdoors mX1_changesOutdoors 2 1 := ⟨tt_t (i := 786) (by decide +kernel) rfl, im_X1_changesOutdoors, se_X1_changesOutdoors, in_X1, co_X1_changesOutdoors, ds_X1_changesOutdoors, by decide, rfl⟩
theorem vl_1_36 : VL RX1 36 yX1_proves cX1_proves mX1_proves 1 1 := ⟨tt_t (i := 790) (by decide +kernel) rfl, im_X1_proves, se_X1_proves, in_X1, co_X1_proves, ds_X1_proves, by decide, rfl⟩
theorem vl_1_40 : VL RX1 40 yX1_pays cX1_pays mX1_pays 1 1 := ⟨tt_t (i := 797) (by decide +kernel) rfl, im_X1_pays, se_X1_pays, in_X1, co_X1_pays, ds_X1_pays, by decide, rfl⟩
theorem vl_1_43 : VL RX1 43 yX1_cancels cX1_cancels mX1_cancels 1 1 := ⟨tt_t (i := 803) (by decide +kernel) rfl, im_X1_cancels, se_X1_cancels, in_X1, co_X1_cancels, ds_X1_cancels, by decide, rfl⟩
theorem vl_1_46 : VL RX1 46 yX2_findRoom cX2_findRoom mX2_findRoom 1 2 := ⟨tt_t (i := 794) (by decide +kernel) rfl, im_X2_findRoom, se_X2_findRoom, in_X2, co_X2_findRoom, ds_X2_findRoom, by decide, rfl⟩
theorem vl_1_52 : VL RX1 52 yX1_isAsWarm cX1_isAsWarm mX1_isAsWarm 2 1 := ⟨tt_t (i := 810) (by decide +kernel) rfl, im_X1_isAsWarm, se_X1_isAsWarm, in_X1, co_X1_isAsWarm, ds_X1_isAsWarm, by decide, rfl⟩
theorem vl_1_56 : VL RX1 56 yX2_hasGroup cX2_hasGroup mX2_hasGroup 1 2 := ⟨tt_t (i := 801) (by decide +kernel) rfl, im_X2_hasGroup, se_X2_hasGroup, in_X2, co_X2_hasGroup, ds_X2_hasGroup, by decide, rfl⟩
theorem vl_1_60 : VL RX1 60 yX2_owedBy cX2_owedBy mX2_owedBy 1 2 := ⟨tt_t (i := 814) (by decide +kernel) rfl, im_X2_owedBy, se_X2_owedBy, in_X2, co_X2_owedBy, ds_X2_owedBy, by decide, rfl⟩
theorem vl_1_64 : VL RX1 64 yX1_isOverOrNot cX1_isOverOrNot mX1_isOverOrNot 1 1 := ⟨tt_t (i := 815) (by decide +kernel) rfl, im_X1_isOverOrNot, se_X1_isOverOrNot, in_X1, co_X1_isOverOrNot, ds_X1_isOverOrNot, by decide, rfl⟩
theorem fl_1_67 : FL RX1 67 2 8 := ⟨by decide, by decide, tt_t (i := 143) (by decide +kernel) rfl⟩
theorem fI_1_67 : FI RX1 67 2 8 := ⟨fl_1_67, by decide⟩
theorem fl_1_70 : FL RX1 70 2 0 := ⟨by decide, by decide, tt_t (i := 124) (by decide +kernel) rfl⟩
theorem fI_1_70 : FI RX1 70 2 0 := ⟨fl_1_70, by decide⟩
theorem vl_1_73 : VL RX1 73 yX2_letHourPass cX2_letHourPass mX2_letHourPass 0 2 := ⟨tt_t (i := 785) (by decide +kernel) rfl, im_X2_letHourPass, se_X2_letHourPass, in_X2, co_X2_letHourPass, ds_X2_letHourPass, by decide, rfl⟩
theorem fl_1_76 : FL RX1 76 2 1 := ⟨by decide, by decide, tt_t (i := 127) (by decide +kernel) rfl⟩
theorem fI_1_76 : FI RX1 76 2 1 := ⟨fl_1_76, by decide⟩
theorem fP_1_76 : FP RX1 76 2 1 .int := ⟨fl_1_76, by decide, by decide, by decide +kernel⟩
theorem vl_1_79 : VL RX1 79 yX2_bookingOfNow cX2_bookingOfNow mX2_bookingOfNow 1 2 := ⟨tt_t (i := 795) (by decide +kernel) rfl, im_X2_bookingOfNow, se_X2_bookingOfNow, in_X2, co_X2_bookingOfNow, ds_X2_bookingOfNow, by decide, rfl⟩
theorem vl_1_82 : VL RX1 82 yX2_mark cX2_mark mX2_mark 2 2 := ⟨tt_t (i := 796) (by decide +kernel) rfl, im_X2_mark, se_X2_mark, in_X2, co_X2_mark, ds_X2_mark, by decide, rfl⟩
theorem vl_1_86 : VL RX1 86 yX2_settle cX2_settle mX2_settle 1 2 := ⟨tt_t (i := 802) (by decide +kernel) rfl, im_X2_settle, se_X2_settle, in_X2, co_X2_settle, ds_X2_settle, by decide, rfl⟩
theorem vl_1_89 : VL RX1 89 yX2_findBooking cX2_findBooking mX2_findBooking 1 2 := ⟨tt_t (i := 807) (by decide +kernel) rfl, im_X2_findBooking, se_X2_findBooking, in_X2, co_X2_findBooking, ds_X2_findBooking, by decide, rfl⟩
theorem vl_1_93 : VL RX1 93 yX0_mayGo cX0_mayGo mX0_mayGo 1 0 := ⟨tt_t (i := 808) (by decide +kernel) rfl, im_X0_mayGo, se_X0_mayGo, in_X0, co_X0_mayGo, ds_X0_mayGo, by decide, rfl⟩
theorem vl_1_98 : VL RX1 98 yX2_removeBooking cX2_removeBooking mX2_removeBooking 1 2 := ⟨tt_t (i := 809) (by decide +kernel) rfl, im_X2_removeBooking, se_X2_removeBooking, in_X2, co_X2_removeBooking, ds_X2_removeBooking, by decide, rfl⟩
theorem fl_1_102 : FL RX1 102 5 3 := ⟨by decide, by decide, tt_t (i := 65) (by decide +kernel) rfl⟩
theorem fI_1_102 : FI RX1 102 5 3 := ⟨fl_1_102, by decide⟩
theorem vl_1_107 : VL RX1 107 yX0_isOver cX0_isOver mX0_isOver 1 0 := ⟨tt_t (i := 819) (by decide +kernel) rfl, im_X0_isOver, se_X0_isOver, in_X0, co_X0_isOver, ds_X0_isOver, by decide, rfl⟩
theorem jl_2_3 : Cond.methodLink RX2 3 Lib.objectInit ∈ TT := tt_t (i := 50) (by decide +kernel) rfl
theorem fl_2_9 : FL RX2 9 2 1 := ⟨by decide, by decide, tt_t (i := 126) (by decide +kernel) rfl⟩
theorem fI_2_9 : FI RX2 9 2 1 := ⟨fl_2_9, by decide⟩
theorem fP_2_9 : FP RX2 9 2 1 .int := ⟨fl_2_9, by decide, by decide, by decide +kernel⟩
theorem cl_2_15 : Cond.classLink RX2 15 (clR 5) ∈ TT := tt_t (i := 51) (by decide +kernel) rfl
theorem fl_2_17 : FL RX2 17 2 2 := ⟨by decide, by decide, tt_t (i := 130) (by decide +kernel) rfl⟩
theorem fR_2_17 : FR RX2 17 2 2 := ⟨fl_2_17, by decide⟩
theorem fF_2_17 : FF RX2 17 2 2 := ⟨fl_2_17, by decide, by decide, by decide +kernel, Or.inr ⟨(.object "HallHeating$Room"), by decide +kernel⟩⟩
theorem fl_2_21 : FL RX2 21 2 4 := ⟨by decide, by decide, tt_t (i := 134) (by decide +kernel) rfl⟩
theorem fR_2_21 : FR RX2 21 2 4 := ⟨fl_2_21, by decide⟩
theorem fF_2_21 : FF RX2 21 2 4 := ⟨fl_2_21, by decide, by decide, by decide +kernel, Or.inr ⟨.int, by decide +kernel⟩⟩
theorem cl_2_25 : Cond.classLink RX2 25 (clR 0) ∈ TT := tt_t (i := 53) (by decide +kernel) rfl
theorem fl_2_27 : FL RX2 27 2 6 := ⟨by decide, by decide, tt_t (i := 138) (by decide +kernel) rfl⟩
theorem fR_2_27 : FR RX2 27 2 6 := ⟨fl_2_27, by decide⟩
theorem fF_2_27 : FF RX2 27 2 6 := ⟨fl_2_27, by decide, by decide, by decide +kernel, Or.inr ⟨(.object "HallHeating$Booking"), by decide +kernel⟩⟩
theorem il_2_31 : IL RX2 31 yX5_init cX5_init mX5_init 0 := ⟨Or.inr ⟨RX6, List.mem_filter.mpr ⟨List.mem_append_right _ (List.mem_of_getElem? (i := 56) (by decide +kernel)), rfl⟩⟩, im_X5_init, rfl, in_X5, co_X5_init, rfl, ds_X5_init⟩
theorem il_2_32 : IL RX2 32 yX0_init cX0_init mX0_init 0 := ⟨Or.inr ⟨RX6, List.mem_filter.mpr ⟨List.mem_append_right _ (List.mem_of_getElem? (i := 78) (by decide +kernel)), rfl⟩⟩, im_X0_init, rfl, in_X0, co_X0_init, rfl, ds_X0_init⟩
theorem fl_2_33 : FL RX2 33 2 0 := ⟨by decide, by decide, tt_t (i := 123) (by decide +kernel) rfl⟩
theorem fI_2_33 : FI RX2 33 2 0 := ⟨fl_2_33, by decide⟩
theorem fP_2_33 : FP RX2 33 2 0 .int := ⟨fl_2_33, by decide, by decide, by decide +kernel⟩
theorem fl_2_36 : FL RX2 36 2 3 := ⟨by decide, by decide, tt_t (i := 131) (by decide +kernel) rfl⟩
theorem fI_2_36 : FI RX2 36 2 3 := ⟨fl_2_36, by decide⟩
theorem fP_2_36 : FP RX2 36 2 3 .int := ⟨fl_2_36, by decide, by decide, by decide +kernel⟩
theorem fl_2_39 : FL RX2 39 2 5 := ⟨by decide, by decide, tt_t (i := 135) (by decide +kernel) rfl⟩
theorem fI_2_39 : FI RX2 39 2 5 := ⟨fl_2_39, by decide⟩
theorem fP_2_39 : FP RX2 39 2 5 .int := ⟨fl_2_39, by decide, by decide, by decide +kernel⟩
theorem fl_2_42 : FL RX2 42 2 7 := ⟨by decide, by decide, tt_t (i := 139) (by decide +kernel) rfl⟩
theorem fI_2_42 : FI RX2 42 2 7 := ⟨fl_2_42, by decide⟩
theorem fP_2_42 : FP RX2 42 2 7 .int := ⟨fl_2_42, by decide, by decide, by decide +kernel⟩
theorem fl_2_45 : FL RX2 45 2 8 := ⟨by decide, by decide, tt_t (i := 142) (by decide +kernel) rfl⟩
theorem fI_2_45 : FI RX2 45 2 8 := ⟨fl_2_45, by decide⟩
theorem fP_2_45 : FP RX2 45 2 8 .int := ⟨fl_2_45, by decide, by decide, by decide +kernel⟩
theorem fl_2_48 : FL RX2 48 2 9 := ⟨by decide, by decide, tt_t (i := 145) (by decide +kernel) rfl⟩
theorem fI_2_48 : FI RX2 48 2 9 := ⟨fl_2_48, by decide⟩
theorem fP_2_48 : FP RX2 48 2 9 .int := ⟨fl_2_48, by decide, by decide, by decide +kernel⟩
theorem fl_2_51 : FL RX2 51 2 10 := ⟨by decide, by decide, tt_t (i := 146) (by decide +kernel) rfl⟩
theorem fI_2_51 : FI RX2 51 2 10 := ⟨fl_2_51, by decide⟩
theorem fP_2_51 : FP RX2 51 2 10 .int := ⟨fl_2_51, by decide, by decide, by decide +kernel⟩
theorem fl_2_54 : FL RX2 54 2 11 := ⟨by decide, by decide, tt_t (i := 148) (by decide +kernel) rfl⟩
theorem fI_2_54 : FI RX2 54 2 11 := ⟨fl_2_54, by decide⟩
theorem fP_2_54 : FP RX2 54 2 11 .int := ⟨fl_2_54, by decide, by decide, by decide +kernel⟩
theorem vl_2_57 : VL RX2 57 yX5_copyFrom cX5_copyFrom mX5_copyFrom 1 5 := ⟨tt_t (i := 400) (by decide +kernel) rfl, im_X5_copyFrom, se_X5_copyFrom, in_X5, co_X5_copyFrom, ds_X5_copyFrom, by decide, rfl⟩
theorem jl_2_61 : Cond.methodLink RX2 61 arraycopyName ∈ TT := tt_t (i := 405) (by decide +kernel) rfl
theorem vl_2_67 : VL RX2 67 yX0_copyFrom cX0_copyFrom mX0_copyFrom 1 0 := ⟨tt_t (i := 408) (by decide +kernel) rfl, im_X0_copyFrom, se_X0_copyFrom, in_X0, co_X0_copyFrom, ds_X0_copyFrom, by decide, rfl⟩
theorem vl_2_70 : VL RX2 70 yX5_become cX5_become mX5_become 4 5 := ⟨tt_t (i := 288) (by decide +kernel) rfl, im_X5_become, se_X5_become, in_X5, co_X5_become, ds_X5_become, by decide, rfl⟩
theorem fl_2_74 : FL RX2 74 0 0 := ⟨by decide, by decide, tt_t (i := 83) (by decide +kernel) rfl⟩
theorem fI_2_74 : FI RX2 74 0 0 := ⟨fl_2_74, by decide⟩
theorem vl_2_77 : VL RX2 77 yX0_meets cX0_meets mX0_meets 2 0 := ⟨tt_t (i := 312) (by decide +kernel) rfl, im_X0_meets, se_X0_meets, in_X0, co_X0_meets, ds_X0_meets, by decide, rfl⟩
theorem vl_2_81 : VL RX2 81 yX0_become cX0_become mX0_become 5 0 := ⟨tt_t (i := 324) (by decide +kernel) rfl, im_X0_become, se_X0_become, in_X0, co_X0_become, ds_X0_become, by decide, rfl⟩
theorem vl_2_84 : VL RX2 84 yX2_findBooking cX2_findBooking mX2_findBooking 1 2 := ⟨tt_t (i := 530) (by decide +kernel) rfl, im_X2_findBooking, se_X2_findBooking, in_X2, co_X2_findBooking, ds_X2_findBooking, by decide, rfl⟩
theorem vl_2_88 : VL RX2 88 yX0_has cX0_has mX0_has 1 0 := ⟨tt_t (i := 515) (by decide +kernel) rfl, im_X0_has, se_X0_has, in_X0, co_X0_has, ds_X0_has, by decide, rfl⟩
theorem fl_2_92 : FL RX2 92 0 2 := ⟨by decide, by decide, tt_t (i := 88) (by decide +kernel) rfl⟩
theorem fI_2_92 : FI RX2 92 0 2 := ⟨fl_2_92, by decide⟩
theorem vl_2_95 : VL RX2 95 yX2_bookingOfNow cX2_bookingOfNow mX2_bookingOfNow 1 2 := ⟨tt_t (i := 527) (by decide +kernel) rfl, im_X2_bookingOfNow, se_X2_bookingOfNow, in_X2, co_X2_bookingOfNow, ds_X2_bookingOfNow, by decide, rfl⟩
theorem vl_2_99 : VL RX2 99 yX2_nextBooking cX2_nextBooking mX2_nextBooking 1 2 := ⟨tt_t (i := 528) (by decide +kernel) rfl, im_X2_nextBooking, se_X2_nextBooking, in_X2, co_X2_nextBooking, ds_X2_nextBooking, by decide, rfl⟩
theorem vl_2_102 : VL RX2 102 yX2_findRoom cX2_findRoom mX2_findRoom 1 2 := ⟨tt_t (i := 529) (by decide +kernel) rfl, im_X2_findRoom, se_X2_findRoom, in_X2, co_X2_findRoom, ds_X2_findRoom, by decide, rfl⟩
theorem vl_2_106 : VL RX2 106 yX2_mustPreheat cX2_mustPreheat mX2_mustPreheat 2 2 := ⟨tt_t (i := 534) (by decide +kernel) rfl, im_X2_mustPreheat, se_X2_mustPreheat, in_X2, co_X2_mustPreheat, ds_X2_mustPreheat, by decide, rfl⟩
theorem fl_2_110 : FL RX2 110 0 5 := ⟨by decide, by decide, tt_t (i := 93) (by decide +kernel) rfl⟩
theorem fI_2_110 : FI RX2 110 0 5 := ⟨fl_2_110, by decide⟩
theorem fP_2_110 : FP RX2 110 0 5 .boolean := ⟨fl_2_110, by decide, by decide, by decide +kernel⟩
theorem vl_2_114 : VL RX2 114 yX5_cooled cX5_cooled mX5_cooled 1 5 := ⟨tt_t (i := 538) (by decide +kernel) rfl, im_X5_cooled, se_X5_cooled, in_X5, co_X5_cooled, ds_X5_cooled, by decide, rfl⟩
theorem fl_2_117 : FL RX2 117 5 2 := ⟨by decide, by decide, tt_t (i := 63) (by decide +kernel) rfl⟩
theorem fI_2_117 : FI RX2 117 5 2 := ⟨fl_2_117, by decide⟩
theorem fl_2_120 : FL RX2 120 0 4 := ⟨by decide, by decide, tt_t (i := 91) (by decide +kernel) rfl⟩
theorem fI_2_120 : FI RX2 120 0 4 := ⟨fl_2_120, by decide⟩
theorem fl_2_123 : FL RX2 123 0 8 := ⟨by decide, by decide, tt_t (i := 99) (by decide +kernel) rfl⟩
theorem fI_2_123 : FI RX2 123 0 8 := ⟨fl_2_123, by decide⟩
theorem fP_2_123 : FP RX2 123 0 8 .boolean := ⟨fl_2_123, by decide, by decide, by decide +kernel⟩
theorem vl_2_126 : VL RX2 126 yX2_mark cX2_mark mX2_mark 2 2 := ⟨tt_t (i := 834) (by decide +kernel) rfl, im_X2_mark, se_X2_mark, in_X2, co_X2_mark, ds_X2_mark, by decide, rfl⟩
theorem vl_2_130 : VL RX2 130 yX2_hasGroup cX2_hasGroup mX2_hasGroup 1 2 := ⟨tt_t (i := 566) (by decide +kernel) rfl, im_X2_hasGroup, se_X2_hasGroup, in_X2, co_X2_hasGroup, ds_X2_hasGroup, by decide, rfl⟩
theorem vl_2_133 : VL RX2 133 yX2_letHourPass cX2_letHourPass mX2_letHourPass 0 2 := ⟨tt_t (i := 600) (by decide +kernel) rfl, im_X2_letHourPass, se_X2_letHourPass, in_X2, co_X2_letHourPass, ds_X2_letHourPass, by decide, rfl⟩
theorem vl_2_136 : VL RX2 136 yX2_heatingBooking cX2_heatingBooking mX2_heatingBooking 1 2 := ⟨tt_t (i := 604) (by decide +kernel) rfl, im_X2_heatingBooking, se_X2_heatingBooking, in_X2, co_X2_heatingBooking, ds_X2_heatingBooking, by decide, rfl⟩
theorem vl_2_139 : VL RX2 139 yX2_heatRoom cX2_heatRoom mX2_heatRoom 2 2 := ⟨tt_t (i := 605) (by decide +kernel) rfl, im_X2_heatRoom, se_X2_heatRoom, in_X2, co_X2_heatRoom, ds_X2_heatRoom, by decide, rfl⟩
theorem vl_2_143 : VL RX2 143 yX0_end cX0_end mX0_end 0 0 := ⟨tt_t (i := 631) (by decide +kernel) rfl, im_X0_end, se_X0_end, in_X0, co_X0_end, ds_X0_end, by decide, rfl⟩
theorem vl_2_147 : VL RX2 147 yX2_leaveHeat cX2_leaveHeat mX2_leaveHeat 1 2 := ⟨tt_t (i := 632) (by decide +kernel) rfl, im_X2_leaveHeat, se_X2_leaveHeat, in_X2, co_X2_leaveHeat, ds_X2_leaveHeat, by decide, rfl⟩
theorem fl_2_150 : FL RX2 150 5 3 := ⟨by decide, by decide, tt_t (i := 67) (by decide +kernel) rfl⟩
theorem fI_2_150 : FI RX2 150 5 3 := ⟨fl_2_150, by decide⟩
theorem fP_2_150 : FP RX2 150 5 3 .int := ⟨fl_2_150, by decide, by decide, by decide +kernel⟩
theorem vl_2_153 : VL RX2 153 yX5_warmTowards cX5_warmTowards mX5_warmTowards 1 5 := ⟨tt_t (i := 609) (by decide +kernel) rfl, im_X5_warmTowards, se_X5_warmTowards, in_X5, co_X5_warmTowards, ds_X5_warmTowards, by decide, rfl⟩
theorem vl_2_156 : VL RX2 156 yX2_chargeOwnHour cX2_chargeOwnHour mX2_chargeOwnHour 3 2 := ⟨tt_t (i := 619) (by decide +kernel) rfl, im_X2_chargeOwnHour, se_X2_chargeOwnHour, in_X2, co_X2_chargeOwnHour, ds_X2_chargeOwnHour, by decide, rfl⟩
theorem vl_2_160 : VL RX2 160 yX2_chargePreheat cX2_chargePreheat mX2_chargePreheat 2 2 := ⟨tt_t (i := 627) (by decide +kernel) rfl, im_X2_chargePreheat, se_X2_chargePreheat, in_X2, co_X2_chargePreheat, ds_X2_chargePreheat, by decide, rfl⟩
theorem fl_2_164 : FL RX2 164 0 6 := ⟨by decide, by decide, tt_t (i := 95) (by decide +kernel) rfl⟩
theorem fI_2_164 : FI RX2 164 0 6 := ⟨fl_2_164, by decide⟩
theorem fP_2_164 : FP RX2 164 0 6 .int := ⟨fl_2_164, by decide, by decide, by decide +kernel⟩
theorem fl_2_167 : FL RX2 167 0 1 := ⟨by decide, by decide, tt_t (i := 86) (by decide +kernel) rfl⟩
theorem fI_2_167 : FI RX2 167 0 1 := ⟨fl_2_167, by decide⟩
theorem vl_2_170 : VL RX2 170 yX2_chargeGroup cX2_chargeGroup mX2_chargeGroup 2 2 := ⟨tt_t (i := 623) (by decide +kernel) rfl, im_X2_chargeGroup, se_X2_chargeGroup, in_X2, co_X2_chargeGroup, ds_X2_chargeGroup, by decide, rfl⟩
theorem fl_2_174 : FL RX2 174 0 7 := ⟨by decide, by decide, tt_t (i := 97) (by decide +kernel) rfl⟩
theorem fI_2_174 : FI RX2 174 0 7 := ⟨fl_2_174, by decide⟩
theorem fP_2_174 : FP RX2 174 0 7 .int := ⟨fl_2_174, by decide, by decide, by decide +kernel⟩
theorem fl_2_177 : FL RX2 177 0 9 := ⟨by decide, by decide, tt_t (i := 101) (by decide +kernel) rfl⟩
theorem fI_2_177 : FI RX2 177 0 9 := ⟨fl_2_177, by decide⟩
theorem fP_2_177 : FP RX2 177 0 9 .int := ⟨fl_2_177, by decide, by decide, by decide +kernel⟩
theorem jl_2_180 : Cond.methodLink RX2 180 Lib.Math.max.name ∈ TT := tt_t (i := 759) (by decide +kernel) rfl
theorem jl_3_3 : Cond.methodLink RX3 3 Lib.objectInit ∈ TT := tt_t (i := 29) (by decide +kernel) rfl
theorem fl_3_9 : FL RX3 9 3 0 := ⟨by decide, by decide, tt_t (i := 30) (by decide +kernel) rfl⟩
theorem fR_3_9 : FR RX3 9 3 0 := ⟨fl_3_9, by decide⟩
theorem fF_3_9 : FF RX3 9 3 0 := ⟨fl_3_9, by decide, by decide, by decide +kernel, Or.inr ⟨.int, by decide +kernel⟩⟩
theorem fl_3_15 : FL RX3 15 3 1 := ⟨by decide, by decide, tt_t (i := 31) (by decide +kernel) rfl⟩
theorem fI_3_15 : FI RX3 15 3 1 := ⟨fl_3_15, by decide⟩
theorem fP_3_15 : FP RX3 15 3 1 .int := ⟨fl_3_15, by decide, by decide, by decide +kernel⟩
theorem vl_3_19 : VL RX3 19 yX2_clear cX2_clear mX2_clear 0 2 := ⟨tt_t (i := 260) (by decide +kernel) rfl, im_X2_clear, se_X2_clear, in_X2, co_X2_clear, ds_X2_clear, by decide, rfl⟩
theorem fl_3_24 : FL RX3 24 3 2 := ⟨by decide, by decide, tt_t (i := 33) (by decide +kernel) rfl⟩
theorem fI_3_24 : FI RX3 24 3 2 := ⟨fl_3_24, by decide⟩
theorem fP_3_24 : FP RX3 24 3 2 .int := ⟨fl_3_24, by decide, by decide, by decide +kernel⟩
theorem fl_3_27 : FL RX3 27 3 3 := ⟨by decide, by decide, tt_t (i := 34) (by decide +kernel) rfl⟩
theorem fI_3_27 : FI RX3 27 3 3 := ⟨fl_3_27, by decide⟩
theorem fP_3_27 : FP RX3 27 3 3 .int := ⟨fl_3_27, by decide, by decide, by decide +kernel⟩
theorem vl_3_30 : VL RX3 30 yX3_sign cX3_sign mX3_sign 0 3 := ⟨tt_t (i := 264) (by decide +kernel) rfl, im_X3_sign, se_X3_sign, in_X3, co_X3_sign, ds_X3_sign, by decide, rfl⟩
theorem vl_3_34 : VL RX3 34 yX3_require cX3_require mX3_require 1 3 := ⟨tt_t (i := 268) (by decide +kernel) rfl, im_X3_require, se_X3_require, in_X3, co_X3_require, ds_X3_require, by decide, rfl⟩
theorem vl_3_38 : VL RX3 38 yX3_readPart cX3_readPart mX3_readPart 1 3 := ⟨tt_t (i := 272) (by decide +kernel) rfl, im_X3_readPart, se_X3_readPart, in_X3, co_X3_readPart, ds_X3_readPart, by decide, rfl⟩
theorem vl_3_42 : VL RX3 42 yX3_readRoom cX3_readRoom mX3_readRoom 1 3 := ⟨tt_t (i := 276) (by decide +kernel) rfl, im_X3_readRoom, se_X3_readRoom, in_X3, co_X3_readRoom, ds_X3_readRoom, by decide, rfl⟩
theorem vl_3_45 : VL RX3 45 yX3_readGroup cX3_readGroup mX3_readGroup 1 3 := ⟨tt_t (i := 292) (by decide +kernel) rfl, im_X3_readGroup, se_X3_readGroup, in_X3, co_X3_readGroup, ds_X3_readGroup, by decide, rfl⟩
theorem vl_3_48 : VL RX3 48 yX3_readOutdoors cX3_readOutdoors mX3_readOutdoors 1 3 := ⟨tt_t (i := 300) (by decide +kernel) rfl, im_X3_readOutdoors, se_X3_readOutdoors, in_X3, co_X3_readOutdoors, ds_X3_readOutdoors, by decide, rfl⟩
theorem vl_3_51 : VL RX3 51 yX3_readBooking cX3_readBooking mX3_readBooking 1 3 := ⟨tt_t (i := 304) (by decide +kernel) rfl, im_X3_readBooking, se_X3_readBooking, in_X3, co_X3_readBooking, ds_X3_readBooking, by decide, rfl⟩
theorem fl_3_54 : FL RX3 54 2 3 := ⟨by decide, by decide, tt_t (i := 132) (by decide +kernel) rfl⟩
theorem fI_3_54 : FI RX3 54 2 3 := ⟨fl_3_54, by decide⟩
theorem vl_3_57 : VL RX3 57 yX3_readNumber cX3_readNumber mX3_readNumber 3 3 := ⟨tt_t (i := 280) (by decide +kernel) rfl, im_X3_readNumber, se_X3_readNumber, in_X3, co_X3_readNumber, ds_X3_readNumber, by decide, rfl⟩
theorem vl_3_61 : VL RX3 61 yX2_newRoom cX2_newRoom mX2_newRoom 4 2 := ⟨tt_t (i := 284) (by decide +kernel) rfl, im_X2_newRoom, se_X2_newRoom, in_X2, co_X2_newRoom, ds_X2_newRoom, by decide, rfl⟩
theorem fl_3_65 : FL RX3 65 2 5 := ⟨by decide, by decide, tt_t (i := 136) (by decide +kernel) rfl⟩
theorem fI_3_65 : FI RX3 65 2 5 := ⟨fl_3_65, by decide⟩
theorem vl_3_68 : VL RX3 68 yX2_newGroup cX2_newGroup mX2_newGroup 0 2 := ⟨tt_t (i := 296) (by decide +kernel) rfl, im_X2_newGroup, se_X2_newGroup, in_X2, co_X2_newGroup, ds_X2_newGroup, by decide, rfl⟩
theorem fl_3_71 : FL RX3 71 2 1 := ⟨by decide, by decide, tt_t (i := 128) (by decide +kernel) rfl⟩
theorem fI_3_71 : FI RX3 71 2 1 := ⟨fl_3_71, by decide⟩
theorem fP_3_71 : FP RX3 71 2 1 .int := ⟨fl_3_71, by decide, by decide, by decide +kernel⟩
theorem fl_3_74 : FL RX3 74 2 7 := ⟨by decide, by decide, tt_t (i := 140) (by decide +kernel) rfl⟩
theorem fI_3_74 : FI RX3 74 2 7 := ⟨fl_3_74, by decide⟩
theorem vl_3_77 : VL RX3 77 yX2_hasPlaceFor cX2_hasPlaceFor mX2_hasPlaceFor 3 2 := ⟨tt_t (i := 308) (by decide +kernel) rfl, im_X2_hasPlaceFor, se_X2_hasPlaceFor, in_X2, co_X2_hasPlaceFor, ds_X2_hasPlaceFor, by decide, rfl⟩
theorem vl_3_81 : VL RX3 81 yX2_newBooking cX2_newBooking mX2_newBooking 5 2 := ⟨tt_t (i := 320) (by decide +kernel) rfl, im_X2_newBooking, se_X2_newBooking, in_X2, co_X2_newBooking, ds_X2_newBooking, by decide, rfl⟩
theorem jl_4_3 : Cond.methodLink RX4 3 Lib.objectInit ∈ TT := tt_t (i := 180) (by decide +kernel) rfl
theorem cl_4_9 : Cond.classLink RX4 9 (clR 2) ∈ TT := tt_t (i := 181) (by decide +kernel) rfl
theorem fl_4_11 : FL RX4 11 4 0 := ⟨by decide, by decide, tt_t (i := 184) (by decide +kernel) rfl⟩
theorem fR_4_11 : FR RX4 11 4 0 := ⟨fl_4_11, by decide⟩
theorem fF_4_11 : FF RX4 11 4 0 := ⟨fl_4_11, by decide, by decide, by decide +kernel, Or.inr ⟨(.object "HallHeating$Hall"), by decide +kernel⟩⟩
theorem il_4_17 : IL RX4 17 yX2_init cX2_init mX2_init 0 := ⟨Or.inl (tt_t (i := 183) (by decide +kernel) rfl), im_X2_init, rfl, in_X2, co_X2_init, rfl, ds_X2_init⟩
theorem fl_4_18 : FL RX4 18 4 1 := ⟨by decide, by decide, tt_t (i := 185) (by decide +kernel) rfl⟩
theorem fI_4_18 : FI RX4 18 4 1 := ⟨fl_4_18, by decide⟩
theorem fP_4_18 : FP RX4 18 4 1 .int := ⟨fl_4_18, by decide, by decide, by decide +kernel⟩
theorem vl_4_22 : VL RX4 22 yX2_copyFrom cX2_copyFrom mX2_copyFrom 1 2 := ⟨tt_t (i := 648) (by decide +kernel) rfl, im_X2_copyFrom, se_X2_copyFrom, in_X2, co_X2_copyFrom, ds_X2_copyFrom, by decide, rfl⟩
theorem fl_4_26 : FL RX4 26 4 2 := ⟨by decide, by decide, tt_t (i := 186) (by decide +kernel) rfl⟩
theorem fI_4_26 : FI RX4 26 4 2 := ⟨fl_4_26, by decide⟩
theorem fP_4_26 : FP RX4 26 4 2 .int := ⟨fl_4_26, by decide, by decide, by decide +kernel⟩
theorem jl_4_29 : Cond.methodLink RX4 29 Lib.Math.min.name ∈ TT := tt_t (i := 649) (by decide +kernel) rfl
theorem jl_5_1 : Cond.methodLink RX5 1 Lib.objectInit ∈ TT := tt_t (i := 59) (by decide +kernel) rfl
theorem fl_5_7 : FL RX5 7 5 0 := ⟨by decide, by decide, tt_t (i := 60) (by decide +kernel) rfl⟩
theorem fI_5_7 : FI RX5 7 5 0 := ⟨fl_5_7, by decide⟩
theorem fP_5_7 : FP RX5 7 5 0 .int := ⟨fl_5_7, by decide, by decide, by decide +kernel⟩
theorem fl_5_13 : FL RX5 13 5 1 := ⟨by decide, by decide, tt_t (i := 61) (by decide +kernel) rfl⟩
theorem fI_5_13 : FI RX5 13 5 1 := ⟨fl_5_13, by decide⟩
theorem fP_5_13 : FP RX5 13 5 1 .int := ⟨fl_5_13, by decide, by decide, by decide +kernel⟩
theorem fl_5_16 : FL RX5 16 5 2 := ⟨by decide, by decide, tt_t (i := 62) (by decide +kernel) rfl⟩
theorem fI_5_16 : FI RX5 16 5 2 := ⟨fl_5_16, by decide⟩
theorem fP_5_16 : FP RX5 16 5 2 .int := ⟨fl_5_16, by decide, by decide, by decide +kernel⟩
theorem fl_5_19 : FL RX5 19 5 3 := ⟨by decide, by decide, tt_t (i := 64) (by decide +kernel) rfl⟩
theorem fI_5_19 : FI RX5 19 5 3 := ⟨fl_5_19, by decide⟩
theorem fP_5_19 : FP RX5 19 5 3 .int := ⟨fl_5_19, by decide, by decide, by decide +kernel⟩
theorem vl_5_22 : VL RX5 22 yX5_become cX5_become mX5_become 4 5 := ⟨tt_t (i := 404) (by decide +kernel) rfl, im_X5_become, se_X5_become, in_X5, co_X5_become, ds_X5_become, by decide, rfl⟩
theorem jl_5_26 : Cond.methodLink RX5 26 Lib.Math.min.name ∈ TT := tt_t (i := 613) (by decide +kernel) rfl
theorem jl_5_32 : Cond.methodLink RX5 32 Lib.Math.max.name ∈ TT := tt_t (i := 616) (by decide +kernel) rfl
theorem jl_6_1 : Cond.methodLink RX6 1 Lib.objectInit ∈ TT := tt_t (i := 21) (by decide +kernel) rfl
theorem cl_6_7 : Cond.classLink RX6 7 (clR 3) ∈ TT := tt_t (i := 24) (by decide +kernel) rfl
theorem il_6_9 : IL RX6 9 yX3_init cX3_init mX3_init 0 := ⟨Or.inr ⟨RX6, List.mem_filter.mpr ⟨List.mem_append_right _ (List.mem_of_getElem? (i := 26) (by decide +kernel)), rfl⟩⟩, im_X3_init, rfl, in_X3, co_X3_init, rfl, ds_X3_init⟩
theorem fl_6_10 : FL RX6 10 6 0 := ⟨by decide, by decide, tt_t (i := 218) (by decide +kernel) rfl⟩
theorem fR_6_10 : FR RX6 10 6 0 := ⟨fl_6_10, by decide⟩
theorem fF_6_10 : FF RX6 10 6 0 := ⟨fl_6_10, by decide, by decide, by decide +kernel, Or.inl ⟨"HallHeating$HallText", by decide +kernel⟩⟩
theorem cl_6_16 : Cond.classLink RX6 16 (clR 2) ∈ TT := tt_t (i := 45) (by decide +kernel) rfl
theorem il_6_18 : IL RX6 18 yX2_init cX2_init mX2_init 0 := ⟨Or.inl (tt_t (i := 47) (by decide +kernel) rfl), im_X2_init, rfl, in_X2, co_X2_init, rfl, ds_X2_init⟩
theorem fl_6_19 : FL RX6 19 6 1 := ⟨by decide, by decide, tt_t (i := 219) (by decide +kernel) rfl⟩
theorem fR_6_19 : FR RX6 19 6 1 := ⟨fl_6_19, by decide⟩
theorem fF_6_19 : FF RX6 19 6 1 := ⟨fl_6_19, by decide, by decide, by decide +kernel, Or.inl ⟨"HallHeating$Hall", by decide +kernel⟩⟩
theorem cl_6_23 : Cond.classLink RX6 23 (clR 4) ∈ TT := tt_t (i := 175) (by decide +kernel) rfl
theorem il_6_25 : IL RX6 25 yX4_init cX4_init mX4_init 0 := ⟨Or.inl (tt_t (i := 177) (by decide +kernel) rfl), im_X4_init, rfl, in_X4, co_X4_init, rfl, ds_X4_init⟩
theorem fl_6_26 : FL RX6 26 6 2 := ⟨by decide, by decide, tt_t (i := 220) (by decide +kernel) rfl⟩
theorem fR_6_26 : FR RX6 26 6 2 := ⟨fl_6_26, by decide⟩
theorem fF_6_26 : FF RX6 26 6 2 := ⟨fl_6_26, by decide, by decide, by decide +kernel, Or.inl ⟨"HallHeating$Memory", by decide +kernel⟩⟩
theorem fl_6_30 : FL RX6 30 6 3 := ⟨by decide, by decide, tt_t (i := 221) (by decide +kernel) rfl⟩
theorem fR_6_30 : FR RX6 30 6 3 := ⟨fl_6_30, by decide⟩
theorem fF_6_30 : FF RX6 30 6 3 := ⟨fl_6_30, by decide, by decide, by decide +kernel, Or.inr ⟨(.object "HallHeating$Hall"), by decide +kernel⟩⟩
theorem fl_6_34 : FL RX6 34 6 4 := ⟨by decide, by decide, tt_t (i := 222) (by decide +kernel) rfl⟩
theorem fR_6_34 : FR RX6 34 6 4 := ⟨fl_6_34, by decide⟩
theorem fF_6_34 : FF RX6 34 6 4 := ⟨fl_6_34, by decide, by decide, by decide +kernel, Or.inr ⟨.boolean, by decide +kernel⟩⟩
theorem cl_6_38 : Cond.classLink RX6 38 (clR 1) ∈ TT := tt_t (i := 195) (by decide +kernel) rfl
theorem il_6_40 : IL RX6 40 yX1_init cX1_init mX1_init 0 := ⟨Or.inr ⟨RX6, List.mem_filter.mpr ⟨List.mem_append_right _ (List.mem_of_getElem? (i := 197) (by decide +kernel)), rfl⟩⟩, im_X1_init, rfl, in_X1, co_X1_init, rfl, ds_X1_init⟩
theorem fl_6_41 : FL RX6 41 6 5 := ⟨by decide, by decide, tt_t (i := 223) (by decide +kernel) rfl⟩
theorem fR_6_41 : FR RX6 41 6 5 := ⟨fl_6_41, by decide⟩
theorem fF_6_41 : FF RX6 41 6 5 := ⟨fl_6_41, by decide, by decide, by decide +kernel, Or.inl ⟨"HallHeating$Command", by decide +kernel⟩⟩
theorem fl_6_45 : FL RX6 45 6 6 := ⟨by decide, by decide, tt_t (i := 224) (by decide +kernel) rfl⟩
theorem fR_6_45 : FR RX6 45 6 6 := ⟨fl_6_45, by decide⟩
theorem fF_6_45 : FF RX6 45 6 6 := ⟨fl_6_45, by decide, by decide, by decide +kernel, Or.inl ⟨"HallHeating$Hall", by decide +kernel⟩⟩
theorem fl_6_48 : FL RX6 48 6 7 := ⟨by decide, by decide, tt_t (i := 225) (by decide +kernel) rfl⟩
theorem fR_6_48 : FR RX6 48 6 7 := ⟨fl_6_48, by decide⟩
theorem fF_6_48 : FF RX6 48 6 7 := ⟨fl_6_48, by decide, by decide, by decide +kernel, Or.inl ⟨"HallHeating$Hall", by decide +kernel⟩⟩
theorem sl_6_51 : SL RX6 51 yX6_requireRange cX6_requireRange mX6_requireRange 3 := ⟨tt_t (i := 470) (by decide +kernel) rfl, sm_X6_requireRange, in_X6, co_X6_requireRange, ds_X6_requireRange⟩
theorem fl_6_55 : FL RX6 55 3 1 := ⟨by decide, by decide, tt_t (i := 32) (by decide +kernel) rfl⟩
theorem fI_6_55 : FI RX6 55 3 1 := ⟨fl_6_55, by decide⟩
theorem fP_6_55 : FP RX6 55 3 1 .int := ⟨fl_6_55, by decide, by decide, by decide +kernel⟩
theorem cl_6_59 : Cond.classLink RX6 59 eS ∈ TT := tt_t (i := 328) (by decide +kernel) rfl
theorem vl_6_66 : VL RX6 66 yX3_add cX3_add mX3_add 1 3 := ⟨tt_t (i := 844) (by decide +kernel) rfl, im_X3_add, se_X3_add, in_X3, co_X3_add, ds_X3_add, by decide, rfl⟩
theorem vl_6_70 : VL RX6 70 yX3_readInto cX3_readInto mX3_readInto 1 3 := ⟨tt_t (i := 256) (by decide +kernel) rfl, im_X3_readInto, se_X3_readInto, in_X3, co_X3_readInto, ds_X3_readInto, by decide, rfl⟩
theorem vl_6_76 : VL RX6 76 yX2_copyFrom cX2_copyFrom mX2_copyFrom 1 2 := ⟨tt_t (i := 396) (by decide +kernel) rfl, im_X2_copyFrom, se_X2_copyFrom, in_X2, co_X2_copyFrom, ds_X2_copyFrom, by decide, rfl⟩
theorem vl_6_80 : VL RX6 80 yX4_forgetAll cX4_forgetAll mX4_forgetAll 0 4 := ⟨tt_t (i := 413) (by decide +kernel) rfl, im_X4_forgetAll, se_X4_forgetAll, in_X4, co_X4_forgetAll, ds_X4_forgetAll, by decide, rfl⟩
theorem fl_6_83 : FL RX6 83 2 3 := ⟨by decide, by decide, tt_t (i := 133) (by decide +kernel) rfl⟩
theorem fI_6_83 : FI RX6 83 2 3 := ⟨fl_6_83, by decide⟩
theorem vl_6_86 : VL RX6 86 yX2_numberAbout cX2_numberAbout mX2_numberAbout 1 2 := ⟨tt_t (i := 489) (by decide +kernel) rfl, im_X2_numberAbout, se_X2_numberAbout, in_X2, co_X2_numberAbout, ds_X2_numberAbout, by decide, rfl⟩
theorem vl_6_90 : VL RX6 90 yX6_requireRoom cX6_requireRoom mX6_requireRoom 1 6 := ⟨tt_t (i := 502) (by decide +kernel) rfl, im_X6_requireRoom, se_X6_requireRoom, in_X6, co_X6_requireRoom, ds_X6_requireRoom, by decide, rfl⟩
theorem vl_6_94 : VL RX6 94 yX2_bookingOfNow cX2_bookingOfNow mX2_bookingOfNow 1 2 := ⟨tt_t (i := 511) (by decide +kernel) rfl, im_X2_bookingOfNow, se_X2_bookingOfNow, in_X2, co_X2_bookingOfNow, ds_X2_bookingOfNow, by decide, rfl⟩
theorem vl_6_97 : VL RX6 97 yX2_nextBooking cX2_nextBooking mX2_nextBooking 1 2 := ⟨tt_t (i := 519) (by decide +kernel) rfl, im_X2_nextBooking, se_X2_nextBooking, in_X2, co_X2_nextBooking, ds_X2_nextBooking, by decide, rfl⟩
theorem vl_6_100 : VL RX6 100 yX2_heatingBooking cX2_heatingBooking mX2_heatingBooking 1 2 := ⟨tt_t (i := 523) (by decide +kernel) rfl, im_X2_heatingBooking, se_X2_heatingBooking, in_X2, co_X2_heatingBooking, ds_X2_heatingBooking, by decide, rfl⟩
theorem vl_6_103 : VL RX6 103 yX5_numberAbout cX5_numberAbout mX5_numberAbout 1 5 := ⟨tt_t (i := 542) (by decide +kernel) rfl, im_X5_numberAbout, se_X5_numberAbout, in_X5, co_X5_numberAbout, ds_X5_numberAbout, by decide, rfl⟩
theorem vl_6_106 : VL RX6 106 yX6_requireGroup cX6_requireGroup mX6_requireGroup 1 6 := ⟨tt_t (i := 553) (by decide +kernel) rfl, im_X6_requireGroup, se_X6_requireGroup, in_X6, co_X6_requireGroup, ds_X6_requireGroup, by decide, rfl⟩
theorem vl_6_109 : VL RX6 109 yX2_owedBy cX2_owedBy mX2_owedBy 1 2 := ⟨tt_t (i := 562) (by decide +kernel) rfl, im_X2_owedBy, se_X2_owedBy, in_X2, co_X2_owedBy, ds_X2_owedBy, by decide, rfl⟩
theorem vl_6_112 : VL RX6 112 yX6_requireBooking cX6_requireBooking mX6_requireBooking 1 6 := ⟨tt_t (i := 575) (by decide +kernel) rfl, im_X6_requireBooking, se_X6_requireBooking, in_X6, co_X6_requireBooking, ds_X6_requireBooking, by decide, rfl⟩
theorem fl_6_116 : FL RX6 116 2 0 := ⟨by decide, by decide, tt_t (i := 125) (by decide +kernel) rfl⟩
theorem fI_6_116 : FI RX6 116 2 0 := ⟨fl_6_116, by decide⟩
theorem vl_6_119 : VL RX6 119 yX0_isOver cX0_isOver mX0_isOver 1 0 := ⟨tt_t (i := 581) (by decide +kernel) rfl, im_X0_isOver, se_X0_isOver, in_X0, co_X0_isOver, ds_X0_isOver, by decide, rfl⟩
theorem vl_6_125 : VL RX6 125 yX0_numberAbout cX0_numberAbout mX0_numberAbout 1 0 := ⟨tt_t (i := 585) (by decide +kernel) rfl, im_X0_numberAbout, se_X0_numberAbout, in_X0, co_X0_numberAbout, ds_X0_numberAbout, by decide, rfl⟩
theorem vl_6_128 : VL RX6 128 yX4_remember cX4_remember mX4_remember 1 4 := ⟨tt_t (i := 644) (by decide +kernel) rfl, im_X4_remember, se_X4_remember, in_X4, co_X4_remember, ds_X4_remember, by decide, rfl⟩
theorem vl_6_131 : VL RX6 131 yX2_newRoom cX2_newRoom mX2_newRoom 4 2 := ⟨tt_t (i := 650) (by decide +kernel) rfl, im_X2_newRoom, se_X2_newRoom, in_X2, co_X2_newRoom, ds_X2_newRoom, by decide, rfl⟩
theorem fl_6_135 : FL RX6 135 2 5 := ⟨by decide, by decide, tt_t (i := 137) (by decide +kernel) rfl⟩
theorem fI_6_135 : FI RX6 135 2 5 := ⟨fl_6_135, by decide⟩
theorem vl_6_140 : VL RX6 140 yX2_newGroup cX2_newGroup mX2_newGroup 0 2 := ⟨tt_t (i := 659) (by decide +kernel) rfl, im_X2_newGroup, se_X2_newGroup, in_X2, co_X2_newGroup, ds_X2_newGroup, by decide, rfl⟩
theorem vl_6_144 : VL RX6 144 yX6_requireBookingArguments cX6_requireBookingArguments mX6_requireBookingArguments 5 6 := ⟨tt_t (i := 667) (by decide +kernel) rfl, im_X6_requireBookingArguments, se_X6_requireBookingArguments, in_X6, co_X6_requireBookingArguments, ds_X6_requireBookingArguments, by decide, rfl⟩
theorem vl_6_148 : VL RX6 148 yX2_hasPlaceFor cX2_hasPlaceFor mX2_hasPlaceFor 3 2 := ⟨tt_t (i := 671) (by decide +kernel) rfl, im_X2_hasPlaceFor, se_X2_hasPlaceFor, in_X2, co_X2_hasPlaceFor, ds_X2_hasPlaceFor, by decide, rfl⟩
theorem vl_6_154 : VL RX6 154 yX2_newBooking cX2_newBooking mX2_newBooking 5 2 := ⟨tt_t (i := 673) (by decide +kernel) rfl, im_X2_newBooking, se_X2_newBooking, in_X2, co_X2_newBooking, ds_X2_newBooking, by decide, rfl⟩
theorem vl_6_158 : VL RX6 158 yX0_mayGo cX0_mayGo mX0_mayGo 1 0 := ⟨tt_t (i := 688) (by decide +kernel) rfl, im_X0_mayGo, se_X0_mayGo, in_X0, co_X0_mayGo, ds_X0_mayGo, by decide, rfl⟩
theorem vl_6_163 : VL RX6 163 yX2_removeBooking cX2_removeBooking mX2_removeBooking 1 2 := ⟨tt_t (i := 693) (by decide +kernel) rfl, im_X2_removeBooking, se_X2_removeBooking, in_X2, co_X2_removeBooking, ds_X2_removeBooking, by decide, rfl⟩
theorem fl_6_166 : FL RX6 166 2 7 := ⟨by decide, by decide, tt_t (i := 141) (by decide +kernel) rfl⟩
theorem fI_6_166 : FI RX6 166 2 7 := ⟨fl_6_166, by decide⟩
theorem vl_6_171 : VL RX6 171 yX2_mark cX2_mark mX2_mark 2 2 := ⟨tt_t (i := 705) (by decide +kernel) rfl, im_X2_mark, se_X2_mark, in_X2, co_X2_mark, ds_X2_mark, by decide, rfl⟩
theorem fl_6_175 : FL RX6 175 2 1 := ⟨by decide, by decide, tt_t (i := 129) (by decide +kernel) rfl⟩
theorem fI_6_175 : FI RX6 175 2 1 := ⟨fl_6_175, by decide⟩
theorem fP_6_175 : FP RX6 175 2 1 .int := ⟨fl_6_175, by decide, by decide, by decide +kernel⟩
theorem vl_6_178 : VL RX6 178 yX2_settle cX2_settle mX2_settle 1 2 := ⟨tt_t (i := 723) (by decide +kernel) rfl, im_X2_settle, se_X2_settle, in_X2, co_X2_settle, ds_X2_settle, by decide, rfl⟩
theorem fl_6_183 : FL RX6 183 2 8 := ⟨by decide, by decide, tt_t (i := 144) (by decide +kernel) rfl⟩
theorem fI_6_183 : FI RX6 183 2 8 := ⟨fl_6_183, by decide⟩
theorem vl_6_186 : VL RX6 186 yX2_letHoursPass cX2_letHoursPass mX2_letHoursPass 1 2 := ⟨tt_t (i := 596) (by decide +kernel) rfl, im_X2_letHoursPass, se_X2_letHoursPass, in_X2, co_X2_letHoursPass, ds_X2_letHoursPass, by decide, rfl⟩
theorem fl_6_189 : FL RX6 189 4 2 := ⟨by decide, by decide, tt_t (i := 187) (by decide +kernel) rfl⟩
theorem fI_6_189 : FI RX6 189 4 2 := ⟨fl_6_189, by decide⟩
theorem vl_6_194 : VL RX6 194 yX4_takeBack cX4_takeBack mX4_takeBack 1 4 := ⟨tt_t (i := 871) (by decide +kernel) rfl, im_X4_takeBack, se_X4_takeBack, in_X4, co_X4_takeBack, ds_X4_takeBack, by decide, rfl⟩
theorem vl_6_197 : VL RX6 197 yX2_findRoom cX2_findRoom mX2_findRoom 1 2 := ⟨tt_t (i := 506) (by decide +kernel) rfl, im_X2_findRoom, se_X2_findRoom, in_X2, co_X2_findRoom, ds_X2_findRoom, by decide, rfl⟩
theorem fl_6_200 : FL RX6 200 5 3 := ⟨by decide, by decide, tt_t (i := 66) (by decide +kernel) rfl⟩
theorem fI_6_200 : FI RX6 200 5 3 := ⟨fl_6_200, by decide⟩
theorem vl_6_203 : VL RX6 203 yX0_end cX0_end mX0_end 0 0 := ⟨tt_t (i := 742) (by decide +kernel) rfl, im_X0_end, se_X0_end, in_X0, co_X0_end, ds_X0_end, by decide, rfl⟩
theorem fl_6_206 : FL RX6 206 0 0 := ⟨by decide, by decide, tt_t (i := 84) (by decide +kernel) rfl⟩
theorem fI_6_206 : FI RX6 206 0 0 := ⟨fl_6_206, by decide⟩
theorem vl_6_209 : VL RX6 209 yX2_letHourPass cX2_letHourPass mX2_letHourPass 0 2 := ⟨tt_t (i := 743) (by decide +kernel) rfl, im_X2_letHourPass, se_X2_letHourPass, in_X2, co_X2_letHourPass, ds_X2_letHourPass, by decide, rfl⟩
theorem vl_6_212 : VL RX6 212 yX6_passAllBookingsOnTrial cX6_passAllBookingsOnTrial mX6_passAllBookingsOnTrial 0 6 := ⟨tt_t (i := 751) (by decide +kernel) rfl, im_X6_passAllBookingsOnTrial, se_X6_passAllBookingsOnTrial, in_X6, co_X6_passAllBookingsOnTrial, ds_X6_passAllBookingsOnTrial, by decide, rfl⟩
theorem vl_6_215 : VL RX6 215 yX2_coldestBooking cX2_coldestBooking mX2_coldestBooking 0 2 := ⟨tt_t (i := 886) (by decide +kernel) rfl, im_X2_coldestBooking, se_X2_coldestBooking, in_X2, co_X2_coldestBooking, ds_X2_coldestBooking, by decide, rfl⟩
theorem vl_6_218 : VL RX6 218 yX2_endOfBookings cX2_endOfBookings mX2_endOfBookings 0 2 := ⟨tt_t (i := 755) (by decide +kernel) rfl, im_X2_endOfBookings, se_X2_endOfBookings, in_X2, co_X2_endOfBookings, ds_X2_endOfBookings, by decide, rfl⟩
theorem sl_6_221 : SL RX6 221 yX1_withoutLast cX1_withoutLast mX1_withoutLast 2 := ⟨tt_t (i := 768) (by decide +kernel) rfl, sm_X1_withoutLast, in_X1, co_X1_withoutLast, ds_X1_withoutLast⟩
theorem cl_6_225 : Cond.classLink RX6 225 eA ∈ TT := tt_t (i := 473) (by decide +kernel) rfl
theorem vl_6_230 : VL RX6 230 yX1_become cX1_become mX1_become 1 1 := ⟨tt_t (i := 773) (by decide +kernel) rfl, im_X1_become, se_X1_become, in_X1, co_X1_become, ds_X1_become, by decide, rfl⟩
theorem vl_6_234 : VL RX6 234 yX1_succeedsOn cX1_succeedsOn mX1_succeedsOn 1 1 := ⟨tt_t (i := 777) (by decide +kernel) rfl, im_X1_succeedsOn, se_X1_succeedsOn, in_X1, co_X1_succeedsOn, ds_X1_succeedsOn, by decide, rfl⟩
theorem kl_6_238 : Cond.constantLong RX6 238 (6364136223846793005) ∈ TT := tt_t (i := 828) (by decide +kernel) rfl
theorem kl_6_240 : Cond.constantLong RX6 240 (1442695040888963407) ∈ TT := tt_t (i := 829) (by decide +kernel) rfl
theorem vl_6_242 : VL RX6 242 yX2_markAll cX2_markAll mX2_markAll 0 2 := ⟨tt_t (i := 830) (by decide +kernel) rfl, im_X2_markAll, se_X2_markAll, in_X2, co_X2_markAll, ds_X2_markAll, by decide, rfl⟩
theorem fl_6_245 : FL RX6 245 2 10 := ⟨by decide, by decide, tt_t (i := 147) (by decide +kernel) rfl⟩
theorem fI_6_245 : FI RX6 245 2 10 := ⟨fl_6_245, by decide⟩
theorem jl_6_248 : Cond.methodLink RX6 248 Lib.Math.min.name ∈ TT := tt_t (i := 835) (by decide +kernel) rfl
theorem fl_6_254 : FL RX6 254 2 11 := ⟨by decide, by decide, tt_t (i := 149) (by decide +kernel) rfl⟩
theorem fI_6_254 : FI RX6 254 2 11 := ⟨fl_6_254, by decide⟩
theorem sl_6_257 : SL RX6 257 yX6_requireSlot cX6_requireSlot mX6_requireSlot 1 := ⟨tt_t (i := 426) (by decide +kernel) rfl, sm_X6_requireSlot, in_X6, co_X6_requireSlot, ds_X6_requireSlot⟩
theorem cl_6_264 : Cond.classLink RX6 264 eI ∈ TT := tt_t (i := 429) (by decide +kernel) rfl
theorem vl_6_269 : VL RX6 269 yX2_hasGroup cX2_hasGroup mX2_hasGroup 1 2 := ⟨tt_t (i := 557) (by decide +kernel) rfl, im_X2_hasGroup, se_X2_hasGroup, in_X2, co_X2_hasGroup, ds_X2_hasGroup, by decide, rfl⟩
theorem vl_6_274 : VL RX6 274 yX2_findBooking cX2_findBooking mX2_findBooking 1 2 := ⟨tt_t (i := 579) (by decide +kernel) rfl, im_X2_findBooking, se_X2_findBooking, in_X2, co_X2_findBooking, ds_X2_findBooking, by decide, rfl⟩
theorem oi_im : Cond.instanceMethod Lib.objectInit ∈ TT := tt_t (i := 22) (by decide +kernel) rfl
theorem oi_co : Cond.code Lib.objectInit ⟨#[0xb1]⟩ 1 none ∈ TT := tt_t (i := 23) (by decide +kernel) rfl
theorem mm_smax : Cond.static Lib.Math.max.name ∈ TT := tt_t (i := 617) (by decide +kernel) rfl
theorem mm_cmax : Cond.code Lib.Math.max.name Lib.Math.max.code 2 (some .int) ∈ TT := tt_t (i := 618) (by decide +kernel) rfl
theorem mm_smin : Cond.static Lib.Math.min.name ∈ TT := tt_t (i := 614) (by decide +kernel) rfl
theorem mm_cmin : Cond.code Lib.Math.min.name Lib.Math.min.code 2 (some .int) ∈ TT := tt_t (i := 615) (by decide +kernel) rfl
theorem mm_i : Cond.initialized "java/lang/Math" ∈ TT := tt_t (i := 14) (by decide +kernel) rfl
theorem ac_n : Cond.native arraycopyName ∈ TT := tt_t (i := 407) (by decide +kernel) rfl
theorem ac_s : Cond.static arraycopyName ∈ TT := tt_t (i := 406) (by decide +kernel) rfl
theorem ac_i : Cond.initialized "java/lang/System" ∈ TT := tt_t (i := 13) (by decide +kernel) rfl
theorem ei_eA : Cond.initialized eA ∈ TT := tt_t (i := 11) (by decide +kernel) rfl
theorem ex_eA : eA ∈ exN := by decide +kernel
theorem at_eA : ∀ w ∈ vx_atS RX6 229 eA thN, w ∈ TT ∨ w ∈ nW := by decide +kernel
theorem ca_eA : Cond.castable eA eA ∈ nW := List.mem_filter.mpr ⟨List.mem_append_right _ (List.mem_of_getElem? (i := 475) (by decide +kernel)), rfl⟩
theorem ei_eS : Cond.initialized eS ∈ TT := tt_t (i := 15) (by decide +kernel) rfl
theorem ex_eS : eS ∈ exN := by decide +kernel
theorem at_eS : ∀ w ∈ vx_atS RX6 63 eS thN, w ∈ TT ∨ w ∈ nW := by decide +kernel
theorem ca_eS : Cond.castable eS eS ∈ nW := List.mem_filter.mpr ⟨List.mem_append_right _ (List.mem_of_getElem? (i := 330) (by decide +kernel)), rfl⟩
theorem ei_eI : Cond.initialized eI ∈ TT := tt_t (i := 12) (by decide +kernel) rfl
theorem ex_eI : eI ∈ exN := by decide +kernel
theorem at_eI : ∀ w ∈ vx_atS RX6 268 eI thN, w ∈ TT ∨ w ∈ nW := by decide +kernel
theorem ca_eI : Cond.castable eI eI ∈ nW := List.mem_filter.mpr ⟨List.mem_append_right _ (List.mem_of_getElem? (i := 431) (by decide +kernel)), rfl⟩
theorem cl_L_19 : Cond.classLink RL 19 eS ∈ TT := tt_t (i := 251) (by decide +kernel) rfl
theorem go_eS_59 : ∀ w ∈ Cond.classLink RX6 59 eS :: Cond.initialized eS :: vx_atS RX6 63 eS thN, vx_ot w = true := by decide +kernel
theorem cl_L_34 : Cond.classLink RL 34 eI ∈ TT := tt_t (i := 421) (by decide +kernel) rfl
theorem go_eI_264 : ∀ w ∈ Cond.classLink RX6 264 eI :: Cond.initialized eI :: vx_atS RX6 268 eI thN, vx_ot w = true := by decide +kernel
theorem cl_L_15 : Cond.classLink RL 15 eA ∈ TT := tt_t (i := 465) (by decide +kernel) rfl
theorem go_eA_225 : ∀ w ∈ Cond.classLink RX6 225 eA :: Cond.initialized eA :: vx_atS RX6 229 eA thN, vx_ot w = true := by decide +kernel
theorem ar_int : Cond.arrayClass .int ∈ TT := tt_t (i := 44) (by decide +kernel) rfl
theorem ar_boolean : Cond.arrayClass .boolean ∈ TT := tt_t (i := 217) (by decide +kernel) rfl
