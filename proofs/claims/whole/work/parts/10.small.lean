theorem kdR_room : yR_room.cls = "RoomHours" ∧ yR_room.cls ≠ "java/lang/invoke/MethodHandle" ∧ yR_room.cls ≠ "java/lang/invoke/VarHandle" ∧ (parseMethodDescriptor yR_room.desc).map (fun d => d.parameters.length) = some 2 := by decide +kernel
theorem kdR_wall : yR_wall.cls = "RoomHours" ∧ yR_wall.cls ≠ "java/lang/invoke/MethodHandle" ∧ yR_wall.cls ≠ "java/lang/invoke/VarHandle" ∧ (parseMethodDescriptor yR_wall.desc).map (fun d => d.parameters.length) = some 3 := by decide +kernel
theorem kdR_leads : yR_leads.cls = "RoomHours" ∧ yR_leads.cls ≠ "java/lang/invoke/MethodHandle" ∧ yR_leads.cls ≠ "java/lang/invoke/VarHandle" ∧ (parseMethodDescriptor yR_leads.desc).map (fun d => d.parameters.length) = some 2 := by decide +kernel
theorem kdR_window : yR_window.cls = "RoomHours" ∧ yR_window.cls ≠ "java/lang/invoke/MethodHandle" ∧ yR_window.cls ≠ "java/lang/invoke/VarHandle" ∧ (parseMethodDescriptor yR_window.desc).map (fun d => d.parameters.length) = some 4 := by decide +kernel
theorem kdR_outside : yR_outside.cls = "RoomHours" ∧ yR_outside.cls ≠ "java/lang/invoke/MethodHandle" ∧ yR_outside.cls ≠ "java/lang/invoke/VarHandle" ∧ (parseMethodDescriptor yR_outside.desc).map (fun d => d.parameters.length) = some 2 := by decide +kernel
theorem kdR_sun : yR_sun.cls = "RoomHours" ∧ yR_sun.cls ≠ "java/lang/invoke/MethodHandle" ∧ yR_sun.cls ≠ "java/lang/invoke/VarHandle" ∧ (parseMethodDescriptor yR_sun.desc).map (fun d => d.parameters.length) = some 3 := by decide +kernel
theorem kdR_plan : yR_plan.cls = "RoomHours" ∧ yR_plan.cls ≠ "java/lang/invoke/MethodHandle" ∧ yR_plan.cls ≠ "java/lang/invoke/VarHandle" ∧ (parseMethodDescriptor yR_plan.desc).map (fun d => d.parameters.length) = some 4 := by decide +kernel
theorem kdR_most : yR_most.cls = "RoomHours" ∧ yR_most.cls ≠ "java/lang/invoke/MethodHandle" ∧ yR_most.cls ≠ "java/lang/invoke/VarHandle" ∧ (parseMethodDescriptor yR_most.desc).map (fun d => d.parameters.length) = some 3 := by decide +kernel
theorem kdR_ease : yR_ease.cls = "RoomHours" ∧ yR_ease.cls ≠ "java/lang/invoke/MethodHandle" ∧ yR_ease.cls ≠ "java/lang/invoke/VarHandle" ∧ (parseMethodDescriptor yR_ease.desc).map (fun d => d.parameters.length) = some 2 := by decide +kernel
theorem kdR_run : yR_run.cls = "RoomHours" ∧ yR_run.cls ≠ "java/lang/invoke/MethodHandle" ∧ yR_run.cls ≠ "java/lang/invoke/VarHandle" ∧ (parseMethodDescriptor yR_run.desc).map (fun d => d.parameters.length) = some 1 := by decide +kernel
theorem kdR_told : yR_told.cls = "RoomHours" ∧ yR_told.cls ≠ "java/lang/invoke/MethodHandle" ∧ yR_told.cls ≠ "java/lang/invoke/VarHandle" ∧ (parseMethodDescriptor yR_told.desc).map (fun d => d.parameters.length) = some 2 := by decide +kernel
theorem kdR_balance : yR_balance.cls = "RoomHours" ∧ yR_balance.cls ≠ "java/lang/invoke/MethodHandle" ∧ yR_balance.cls ≠ "java/lang/invoke/VarHandle" ∧ (parseMethodDescriptor yR_balance.desc).map (fun d => d.parameters.length) = some 1 := by decide +kernel
theorem kdR_early : yR_early.cls = "RoomHours" ∧ yR_early.cls ≠ "java/lang/invoke/MethodHandle" ∧ yR_early.cls ≠ "java/lang/invoke/VarHandle" ∧ (parseMethodDescriptor yR_early.desc).map (fun d => d.parameters.length) = some 3 := by decide +kernel
theorem kdR_strong : yR_strong.cls = "RoomHours" ∧ yR_strong.cls ≠ "java/lang/invoke/MethodHandle" ∧ yR_strong.cls ≠ "java/lang/invoke/VarHandle" ∧ (parseMethodDescriptor yR_strong.desc).map (fun d => d.parameters.length) = some 2 := by decide +kernel
theorem kdR_isWithin : yR_isWithin.cls ≠ "java/lang/invoke/MethodHandle" ∧ yR_isWithin.cls ≠ "java/lang/invoke/VarHandle" ∧ (parseMethodDescriptor yR_isWithin.desc).map (fun d => d.parameters.length) = some 3 := by decide +kernel
theorem kdR_isWarmth : yR_isWarmth.cls ≠ "java/lang/invoke/MethodHandle" ∧ yR_isWarmth.cls ≠ "java/lang/invoke/VarHandle" ∧ (parseMethodDescriptor yR_isWarmth.desc).map (fun d => d.parameters.length) = some 1 := by decide +kernel
theorem kdR_isHour : yR_isHour.cls ≠ "java/lang/invoke/MethodHandle" ∧ yR_isHour.cls ≠ "java/lang/invoke/VarHandle" ∧ (parseMethodDescriptor yR_isHour.desc).map (fun d => d.parameters.length) = some 1 := by decide +kernel
theorem kdR_isSide : yR_isSide.cls ≠ "java/lang/invoke/MethodHandle" ∧ yR_isSide.cls ≠ "java/lang/invoke/VarHandle" ∧ (parseMethodDescriptor yR_isSide.desc).map (fun d => d.parameters.length) = some 1 := by decide +kernel
theorem kdR_isPlan : yR_isPlan.cls ≠ "java/lang/invoke/MethodHandle" ∧ yR_isPlan.cls ≠ "java/lang/invoke/VarHandle" ∧ (parseMethodDescriptor yR_isPlan.desc).map (fun d => d.parameters.length) = some 2 := by decide +kernel
theorem kdM_thrown : yM_thrown.cls = "RoomHoursModel" ∧ yM_thrown.cls ≠ "java/lang/invoke/MethodHandle" ∧ yM_thrown.cls ≠ "java/lang/invoke/VarHandle" ∧ (parseMethodDescriptor yM_thrown.desc).map (fun d => d.parameters.length) = some 0 := by decide +kernel
theorem kdM_in : yM_in.cls ≠ "java/lang/invoke/MethodHandle" ∧ yM_in.cls ≠ "java/lang/invoke/VarHandle" ∧ (parseMethodDescriptor yM_in.desc).map (fun d => d.parameters.length) = some 3 := by decide +kernel
theorem kdM_isWarmth : yM_isWarmth.cls ≠ "java/lang/invoke/MethodHandle" ∧ yM_isWarmth.cls ≠ "java/lang/invoke/VarHandle" ∧ (parseMethodDescriptor yM_isWarmth.desc).map (fun d => d.parameters.length) = some 1 := by decide +kernel
theorem kdM_isRoom : yM_isRoom.cls = "RoomHoursModel" ∧ yM_isRoom.cls ≠ "java/lang/invoke/MethodHandle" ∧ yM_isRoom.cls ≠ "java/lang/invoke/VarHandle" ∧ (parseMethodDescriptor yM_isRoom.desc).map (fun d => d.parameters.length) = some 1 := by decide +kernel
theorem kdM_floor : yM_floor.cls ≠ "java/lang/invoke/MethodHandle" ∧ yM_floor.cls ≠ "java/lang/invoke/VarHandle" ∧ (parseMethodDescriptor yM_floor.desc).map (fun d => d.parameters.length) = some 2 := by decide +kernel
theorem kdM_room : yM_room.cls = "RoomHoursModel" ∧ yM_room.cls ≠ "java/lang/invoke/MethodHandle" ∧ yM_room.cls ≠ "java/lang/invoke/VarHandle" ∧ (parseMethodDescriptor yM_room.desc).map (fun d => d.parameters.length) = some 2 := by decide +kernel
theorem kdM_isTooMuch : yM_isTooMuch.cls = "RoomHoursModel" ∧ yM_isTooMuch.cls ≠ "java/lang/invoke/MethodHandle" ∧ yM_isTooMuch.cls ≠ "java/lang/invoke/VarHandle" ∧ (parseMethodDescriptor yM_isTooMuch.desc).map (fun d => d.parameters.length) = some 2 := by decide +kernel
theorem kdM_wall : yM_wall.cls = "RoomHoursModel" ∧ yM_wall.cls ≠ "java/lang/invoke/MethodHandle" ∧ yM_wall.cls ≠ "java/lang/invoke/VarHandle" ∧ (parseMethodDescriptor yM_wall.desc).map (fun d => d.parameters.length) = some 3 := by decide +kernel
theorem kdM_leads : yM_leads.cls = "RoomHoursModel" ∧ yM_leads.cls ≠ "java/lang/invoke/MethodHandle" ∧ yM_leads.cls ≠ "java/lang/invoke/VarHandle" ∧ (parseMethodDescriptor yM_leads.desc).map (fun d => d.parameters.length) = some 2 := by decide +kernel
theorem kdM_window : yM_window.cls = "RoomHoursModel" ∧ yM_window.cls ≠ "java/lang/invoke/MethodHandle" ∧ yM_window.cls ≠ "java/lang/invoke/VarHandle" ∧ (parseMethodDescriptor yM_window.desc).map (fun d => d.parameters.length) = some 4 := by decide +kernel
theorem kdM_outside : yM_outside.cls = "RoomHoursModel" ∧ yM_outside.cls ≠ "java/lang/invoke/MethodHandle" ∧ yM_outside.cls ≠ "java/lang/invoke/VarHandle" ∧ (parseMethodDescriptor yM_outside.desc).map (fun d => d.parameters.length) = some 2 := by decide +kernel
theorem kdM_sun : yM_sun.cls = "RoomHoursModel" ∧ yM_sun.cls ≠ "java/lang/invoke/MethodHandle" ∧ yM_sun.cls ≠ "java/lang/invoke/VarHandle" ∧ (parseMethodDescriptor yM_sun.desc).map (fun d => d.parameters.length) = some 3 := by decide +kernel
theorem kdM_plan : yM_plan.cls = "RoomHoursModel" ∧ yM_plan.cls ≠ "java/lang/invoke/MethodHandle" ∧ yM_plan.cls ≠ "java/lang/invoke/VarHandle" ∧ (parseMethodDescriptor yM_plan.desc).map (fun d => d.parameters.length) = some 4 := by decide +kernel
theorem kdM_most : yM_most.cls = "RoomHoursModel" ∧ yM_most.cls ≠ "java/lang/invoke/MethodHandle" ∧ yM_most.cls ≠ "java/lang/invoke/VarHandle" ∧ (parseMethodDescriptor yM_most.desc).map (fun d => d.parameters.length) = some 3 := by decide +kernel
theorem kdM_ease : yM_ease.cls = "RoomHoursModel" ∧ yM_ease.cls ≠ "java/lang/invoke/MethodHandle" ∧ yM_ease.cls ≠ "java/lang/invoke/VarHandle" ∧ (parseMethodDescriptor yM_ease.desc).map (fun d => d.parameters.length) = some 2 := by decide +kernel
theorem kdM_warmthOf : yM_warmthOf.cls = "RoomHoursModel" ∧ yM_warmthOf.cls ≠ "java/lang/invoke/MethodHandle" ∧ yM_warmthOf.cls ≠ "java/lang/invoke/VarHandle" ∧ (parseMethodDescriptor yM_warmthOf.desc).map (fun d => d.parameters.length) = some 1 := by decide +kernel
theorem kdM_flows : yM_flows.cls = "RoomHoursModel" ∧ yM_flows.cls ≠ "java/lang/invoke/MethodHandle" ∧ yM_flows.cls ≠ "java/lang/invoke/VarHandle" ∧ (parseMethodDescriptor yM_flows.desc).map (fun d => d.parameters.length) = some 1 := by decide +kernel
theorem kdM_step : yM_step.cls = "RoomHoursModel" ∧ yM_step.cls ≠ "java/lang/invoke/MethodHandle" ∧ yM_step.cls ≠ "java/lang/invoke/VarHandle" ∧ (parseMethodDescriptor yM_step.desc).map (fun d => d.parameters.length) = some 0 := by decide +kernel
theorem kdM_run : yM_run.cls = "RoomHoursModel" ∧ yM_run.cls ≠ "java/lang/invoke/MethodHandle" ∧ yM_run.cls ≠ "java/lang/invoke/VarHandle" ∧ (parseMethodDescriptor yM_run.desc).map (fun d => d.parameters.length) = some 1 := by decide +kernel
theorem kdM_told : yM_told.cls = "RoomHoursModel" ∧ yM_told.cls ≠ "java/lang/invoke/MethodHandle" ∧ yM_told.cls ≠ "java/lang/invoke/VarHandle" ∧ (parseMethodDescriptor yM_told.desc).map (fun d => d.parameters.length) = some 2 := by decide +kernel
theorem kdM_balance : yM_balance.cls = "RoomHoursModel" ∧ yM_balance.cls ≠ "java/lang/invoke/MethodHandle" ∧ yM_balance.cls ≠ "java/lang/invoke/VarHandle" ∧ (parseMethodDescriptor yM_balance.desc).map (fun d => d.parameters.length) = some 1 := by decide +kernel
theorem kdM_keep : yM_keep.cls = "RoomHoursModel" ∧ yM_keep.cls ≠ "java/lang/invoke/MethodHandle" ∧ yM_keep.cls ≠ "java/lang/invoke/VarHandle" ∧ (parseMethodDescriptor yM_keep.desc).map (fun d => d.parameters.length) = some 0 := by decide +kernel
theorem kdM_putBack : yM_putBack.cls = "RoomHoursModel" ∧ yM_putBack.cls ≠ "java/lang/invoke/MethodHandle" ∧ yM_putBack.cls ≠ "java/lang/invoke/VarHandle" ∧ (parseMethodDescriptor yM_putBack.desc).map (fun d => d.parameters.length) = some 0 := by decide +kernel
theorem kdM_early : yM_early.cls = "RoomHoursModel" ∧ yM_early.cls ≠ "java/lang/invoke/MethodHandle" ∧ yM_early.cls ≠ "java/lang/invoke/VarHandle" ∧ (parseMethodDescriptor yM_early.desc).map (fun d => d.parameters.length) = some 3 := by decide +kernel
theorem kdM_strong : yM_strong.cls = "RoomHoursModel" ∧ yM_strong.cls ≠ "java/lang/invoke/MethodHandle" ∧ yM_strong.cls ≠ "java/lang/invoke/VarHandle" ∧ (parseMethodDescriptor yM_strong.desc).map (fun d => d.parameters.length) = some 2 := by decide +kernel
theorem kdC_beginRoom : yC_beginRoom.cls = "RoomHours$Course" ∧ yC_beginRoom.cls ≠ "java/lang/invoke/MethodHandle" ∧ yC_beginRoom.cls ≠ "java/lang/invoke/VarHandle" ∧ (parseMethodDescriptor yC_beginRoom.desc).map (fun d => d.parameters.length) = some 2 := by decide +kernel
theorem kdC_copyOf : yC_copyOf.cls = "RoomHours$Course" ∧ yC_copyOf.cls ≠ "java/lang/invoke/MethodHandle" ∧ yC_copyOf.cls ≠ "java/lang/invoke/VarHandle" ∧ (parseMethodDescriptor yC_copyOf.desc).map (fun d => d.parameters.length) = some 1 := by decide +kernel
theorem kdC_trySet : yC_trySet.cls = "RoomHours$Course" ∧ yC_trySet.cls ≠ "java/lang/invoke/MethodHandle" ∧ yC_trySet.cls ≠ "java/lang/invoke/VarHandle" ∧ (parseMethodDescriptor yC_trySet.desc).map (fun d => d.parameters.length) = some 3 := by decide +kernel
theorem kdC_tryMost : yC_tryMost.cls = "RoomHours$Course" ∧ yC_tryMost.cls ≠ "java/lang/invoke/MethodHandle" ∧ yC_tryMost.cls ≠ "java/lang/invoke/VarHandle" ∧ (parseMethodDescriptor yC_tryMost.desc).map (fun d => d.parameters.length) = some 2 := by decide +kernel
theorem kdC_warmthOf : yC_warmthOf.cls = "RoomHours$Course" ∧ yC_warmthOf.cls ≠ "java/lang/invoke/MethodHandle" ∧ yC_warmthOf.cls ≠ "java/lang/invoke/VarHandle" ∧ (parseMethodDescriptor yC_warmthOf.desc).map (fun d => d.parameters.length) = some 1 := by decide +kernel
theorem kdC_sumOf : yC_sumOf.cls = "RoomHours$Course" ∧ yC_sumOf.cls ≠ "java/lang/invoke/MethodHandle" ∧ yC_sumOf.cls ≠ "java/lang/invoke/VarHandle" ∧ (parseMethodDescriptor yC_sumOf.desc).map (fun d => d.parameters.length) = some 1 := by decide +kernel
theorem kdC_nextBeginning : yC_nextBeginning.cls = "RoomHours$Course" ∧ yC_nextBeginning.cls ≠ "java/lang/invoke/MethodHandle" ∧ yC_nextBeginning.cls ≠ "java/lang/invoke/VarHandle" ∧ (parseMethodDescriptor yC_nextBeginning.desc).map (fun d => d.parameters.length) = some 1 := by decide +kernel
theorem kdC_staysUp : yC_staysUp.cls = "RoomHours$Course" ∧ yC_staysUp.cls ≠ "java/lang/invoke/MethodHandle" ∧ yC_staysUp.cls ≠ "java/lang/invoke/VarHandle" ∧ (parseMethodDescriptor yC_staysUp.desc).map (fun d => d.parameters.length) = some 2 := by decide +kernel
theorem kdC_step : yC_step.cls = "RoomHours$Course" ∧ yC_step.cls ≠ "java/lang/invoke/MethodHandle" ∧ yC_step.cls ≠ "java/lang/invoke/VarHandle" ∧ (parseMethodDescriptor yC_step.desc).map (fun d => d.parameters.length) = some 0 := by decide +kernel
theorem kdC_hourOfDay : yC_hourOfDay.cls = "RoomHours$Course" ∧ yC_hourOfDay.cls ≠ "java/lang/invoke/MethodHandle" ∧ yC_hourOfDay.cls ≠ "java/lang/invoke/VarHandle" ∧ (parseMethodDescriptor yC_hourOfDay.desc).map (fun d => d.parameters.length) = some 0 := by decide +kernel
theorem kdC_hourEnds : yC_hourEnds.cls = "RoomHours$Course" ∧ yC_hourEnds.cls ≠ "java/lang/invoke/MethodHandle" ∧ yC_hourEnds.cls ≠ "java/lang/invoke/VarHandle" ∧ (parseMethodDescriptor yC_hourEnds.desc).map (fun d => d.parameters.length) = some 0 := by decide +kernel
theorem kdC_planned : yC_planned.cls = "RoomHours$Course" ∧ yC_planned.cls ≠ "java/lang/invoke/MethodHandle" ∧ yC_planned.cls ≠ "java/lang/invoke/VarHandle" ∧ (parseMethodDescriptor yC_planned.desc).map (fun d => d.parameters.length) = some 3 := by decide +kernel
theorem kdC_hasPersons : yC_hasPersons.cls = "RoomHours$Course" ∧ yC_hasPersons.cls ≠ "java/lang/invoke/MethodHandle" ∧ yC_hasPersons.cls ≠ "java/lang/invoke/VarHandle" ∧ (parseMethodDescriptor yC_hasPersons.desc).map (fun d => d.parameters.length) = some 2 := by decide +kernel
theorem kdC_passWalls : yC_passWalls.cls = "RoomHours$Course" ∧ yC_passWalls.cls ≠ "java/lang/invoke/MethodHandle" ∧ yC_passWalls.cls ≠ "java/lang/invoke/VarHandle" ∧ (parseMethodDescriptor yC_passWalls.desc).map (fun d => d.parameters.length) = some 1 := by decide +kernel
theorem kdC_passWindows : yC_passWindows.cls = "RoomHours$Course" ∧ yC_passWindows.cls ≠ "java/lang/invoke/MethodHandle" ∧ yC_passWindows.cls ≠ "java/lang/invoke/VarHandle" ∧ (parseMethodDescriptor yC_passWindows.desc).map (fun d => d.parameters.length) = some 1 := by decide +kernel
theorem kdC_bringPersons : yC_bringPersons.cls = "RoomHours$Course" ∧ yC_bringPersons.cls ≠ "java/lang/invoke/MethodHandle" ∧ yC_bringPersons.cls ≠ "java/lang/invoke/VarHandle" ∧ (parseMethodDescriptor yC_bringPersons.desc).map (fun d => d.parameters.length) = some 2 := by decide +kernel
theorem kdC_heatUp : yC_heatUp.cls = "RoomHours$Course" ∧ yC_heatUp.cls ≠ "java/lang/invoke/MethodHandle" ∧ yC_heatUp.cls ≠ "java/lang/invoke/VarHandle" ∧ (parseMethodDescriptor yC_heatUp.desc).map (fun d => d.parameters.length) = some 2 := by decide +kernel
theorem kdC_setOf : yC_setOf.cls = "RoomHours$Course" ∧ yC_setOf.cls ≠ "java/lang/invoke/MethodHandle" ∧ yC_setOf.cls ≠ "java/lang/invoke/VarHandle" ∧ (parseMethodDescriptor yC_setOf.desc).map (fun d => d.parameters.length) = some 2 := by decide +kernel
theorem kdC_heatingOf : yC_heatingOf.cls = "RoomHours$Course" ∧ yC_heatingOf.cls ≠ "java/lang/invoke/MethodHandle" ∧ yC_heatingOf.cls ≠ "java/lang/invoke/VarHandle" ∧ (parseMethodDescriptor yC_heatingOf.desc).map (fun d => d.parameters.length) = some 1 := by decide +kernel
theorem kdC_coolDown : yC_coolDown.cls = "RoomHours$Course" ∧ yC_coolDown.cls ≠ "java/lang/invoke/MethodHandle" ∧ yC_coolDown.cls ≠ "java/lang/invoke/VarHandle" ∧ (parseMethodDescriptor yC_coolDown.desc).map (fun d => d.parameters.length) = some 2 := by decide +kernel
theorem kdC_countUneasy : yC_countUneasy.cls = "RoomHours$Course" ∧ yC_countUneasy.cls ≠ "java/lang/invoke/MethodHandle" ∧ yC_countUneasy.cls ≠ "java/lang/invoke/VarHandle" ∧ (parseMethodDescriptor yC_countUneasy.desc).map (fun d => d.parameters.length) = some 1 := by decide +kernel
theorem kdH_hasRoom : yH_hasRoom.cls = "RoomHours$House" ∧ yH_hasRoom.cls ≠ "java/lang/invoke/MethodHandle" ∧ yH_hasRoom.cls ≠ "java/lang/invoke/VarHandle" ∧ (parseMethodDescriptor yH_hasRoom.desc).map (fun d => d.parameters.length) = some 1 := by decide +kernel
theorem kdH_bears : yH_bears.cls = "RoomHours$House" ∧ yH_bears.cls ≠ "java/lang/invoke/MethodHandle" ∧ yH_bears.cls ≠ "java/lang/invoke/VarHandle" ∧ (parseMethodDescriptor yH_bears.desc).map (fun d => d.parameters.length) = some 2 := by decide +kernel
theorem kdH_addRoom : yH_addRoom.cls = "RoomHours$House" ∧ yH_addRoom.cls ≠ "java/lang/invoke/MethodHandle" ∧ yH_addRoom.cls ≠ "java/lang/invoke/VarHandle" ∧ (parseMethodDescriptor yH_addRoom.desc).map (fun d => d.parameters.length) = some 1 := by decide +kernel
theorem kdH_addWall : yH_addWall.cls = "RoomHours$House" ∧ yH_addWall.cls ≠ "java/lang/invoke/MethodHandle" ∧ yH_addWall.cls ≠ "java/lang/invoke/VarHandle" ∧ (parseMethodDescriptor yH_addWall.desc).map (fun d => d.parameters.length) = some 3 := by decide +kernel
theorem kdH_addLeads : yH_addLeads.cls = "RoomHours$House" ∧ yH_addLeads.cls ≠ "java/lang/invoke/MethodHandle" ∧ yH_addLeads.cls ≠ "java/lang/invoke/VarHandle" ∧ (parseMethodDescriptor yH_addLeads.desc).map (fun d => d.parameters.length) = some 2 := by decide +kernel
theorem kdH_addWindow : yH_addWindow.cls = "RoomHours$House" ∧ yH_addWindow.cls ≠ "java/lang/invoke/MethodHandle" ∧ yH_addWindow.cls ≠ "java/lang/invoke/VarHandle" ∧ (parseMethodDescriptor yH_addWindow.desc).map (fun d => d.parameters.length) = some 4 := by decide +kernel
theorem kdJ_floorDiv : yJ_floorDiv.cls ≠ "java/lang/invoke/MethodHandle" ∧ yJ_floorDiv.cls ≠ "java/lang/invoke/VarHandle" ∧ (parseMethodDescriptor yJ_floorDiv.desc).map (fun d => d.parameters.length) = some 2 := by decide +kernel
theorem kdJ_floorMod : yJ_floorMod.cls ≠ "java/lang/invoke/MethodHandle" ∧ yJ_floorMod.cls ≠ "java/lang/invoke/VarHandle" ∧ (parseMethodDescriptor yJ_floorMod.desc).map (fun d => d.parameters.length) = some 2 := by decide +kernel
theorem kdA_fill : yA_fill.cls ≠ "java/lang/invoke/MethodHandle" ∧ yA_fill.cls ≠ "java/lang/invoke/VarHandle" ∧ (parseMethodDescriptor yA_fill.desc).map (fun d => d.parameters.length) = some 2 := by decide +kernel
def rR_isWithin (v : Int32) (least : Int32) (greatest : Int32) : Int32 := if v < least then 0 else (if greatest < v then 0 else 1)
set_option maxRecDepth 100000 in
set_option maxHeartbeats 4000000 in
theorem cR_isWithin (l : Launch) (D : va_G) (k : Nat → ClassId) (v : Int32) (least : Int32) (greatest : Int32) : kMi l yR_isWithin (kwm yR_isWithin bR_isWithin 3 (some .boolean)) ({ frames := 0, cells := 0, slots := 0, locals := 0 }) D kcl (kty k) [] [] [.int v, .int least, .int greatest] (rR_isWithin v least greatest) := by
  refine k_entry_i (lv0 := [(0, .int v), (1, .int least), (2, .int greatest)]) rfl (by decide +kernel) (Nat.le_of_ble_eq_true rfl) rfl ?_
  intro p e s m args below meth c0 C hr hlocks
  refine kw_iload_n C 0 dR_isWithin_0 rfl rfl ?_
  refine kw_iload_n C 1 dR_isWithin_1 rfl rfl ?_
  refine kw_icmp_lt (tgt := 14) C dR_isWithin_2 (by decide) (fun c_1 => ?_) (fun c_1 => ?_)
  · skip
    refine kw_iconst (v := 0) C dR_isWithin_14 (by decide) ?_
    exact kw_zret C hr hlocks (by unfold rR_isWithin; rw [if_pos c_1]) rfl dR_isWithin_15
  · skip
    refine kw_iload_n C 0 dR_isWithin_5 rfl rfl ?_
    refine kw_iload_n C 2 dR_isWithin_6 rfl rfl ?_
    refine kw_icmp_gt (tgt := 14) C dR_isWithin_7 (by decide) (fun c_2 => ?_) (fun c_2 => ?_)
    · skip
      refine kw_iconst (v := 0) C dR_isWithin_14 (by decide) ?_
      exact kw_zret C hr hlocks (by unfold rR_isWithin; rw [if_neg c_1, if_pos c_2]) rfl dR_isWithin_15
    · skip
      refine kw_iconst (v := 1) C dR_isWithin_10 (by decide) ?_
      refine kw_goto (tgt := 15) C dR_isWithin_11 (by decide) ?_
      exact kw_zret C hr hlocks (by unfold rR_isWithin; rw [if_neg c_1, if_neg c_2]) rfl dR_isWithin_15
theorem kzb_R_isWithin {v : Int32} {least : Int32} {greatest : Int32} : narrow .boolean (.int (rR_isWithin v least greatest)) = .int (rR_isWithin v least greatest) := by
  unfold rR_isWithin
  (repeat' split) <;> first | rfl
def rR_isWarmth (v : Int32) : Int32 := (rR_isWithin v (-5000) 5000)
set_option maxRecDepth 100000 in
set_option maxHeartbeats 4000000 in
theorem cR_isWarmth (l : Launch) (D : va_G) (k : Nat → ClassId) (v : Int32) : kMi l yR_isWarmth (kwm yR_isWarmth bR_isWarmth 1 (some .boolean)) ({ frames := 1, cells := 0, slots := 0, locals := 22 }) D kcl (kty k) [] [] [.int v] (rR_isWarmth v) := by
  refine k_entry_i (lv0 := [(0, .int v)]) rfl (by decide +kernel) (Nat.le_of_ble_eq_true rfl) rfl ?_
  intro p e s m args below meth c0 C hr hlocks
  refine kw_iload_n C 0 dR_isWarmth_0 rfl rfl ?_
  refine kw_sipush (v := -5000) C dR_isWarmth_1 (by decide) ?_
  refine kw_sipush (v := 5000) C dR_isWarmth_4 (by decide) ?_
  refine kw_callSi (st := []) C (cR_isWithin l D k v (-5000) 5000) (va_cwS 3 C.1.2.2.2.2 (kgO kt_208 kt_209 kt_1 kt_210) rfl rfl rfl kdR_isWithin ⟨Nat.le_of_ble_eq_true rfl, Nat.le_of_ble_eq_true rfl⟩) [] rfl rfl rfl rfl (Nat.le_of_ble_eq_true rfl) dR_isWarmth_7 ⟨Nat.zero_le _, Nat.zero_le _⟩ rfl [] rfl ?_
  exact kw_zret C hr hlocks rfl (kzb_R_isWithin) dR_isWarmth_10
theorem kzb_R_isWarmth {v : Int32} : narrow .boolean (.int (rR_isWarmth v)) = .int (rR_isWarmth v) := by
  unfold rR_isWarmth
  (repeat' split) <;> first | rfl | apply kzb_R_isWithin
def rR_isHour (v : Int32) : Int32 := (rR_isWithin v 0 23)
set_option maxRecDepth 100000 in
set_option maxHeartbeats 4000000 in
theorem cR_isHour (l : Launch) (D : va_G) (k : Nat → ClassId) (v : Int32) : kMi l yR_isHour (kwm yR_isHour bR_isHour 1 (some .boolean)) ({ frames := 1, cells := 0, slots := 0, locals := 22 }) D kcl (kty k) [] [] [.int v] (rR_isHour v) := by
  refine k_entry_i (lv0 := [(0, .int v)]) rfl (by decide +kernel) (Nat.le_of_ble_eq_true rfl) rfl ?_
  intro p e s m args below meth c0 C hr hlocks
  refine kw_iload_n C 0 dR_isHour_0 rfl rfl ?_
  refine kw_iconst (v := 0) C dR_isHour_1 (by decide) ?_
  refine kw_bipush (v := 23) C dR_isHour_2 (by decide) ?_
  refine kw_callSi (st := []) C (cR_isWithin l D k v 0 23) (va_cwS 3 C.1.2.2.2.2 (kgO kt_208 kt_209 kt_1 kt_210) rfl rfl rfl kdR_isWithin ⟨Nat.le_of_ble_eq_true rfl, Nat.le_of_ble_eq_true rfl⟩) [] rfl rfl rfl rfl (Nat.le_of_ble_eq_true rfl) dR_isHour_4 ⟨Nat.zero_le _, Nat.zero_le _⟩ rfl [] rfl ?_
  exact kw_zret C hr hlocks rfl (kzb_R_isWithin) dR_isHour_7
theorem kzb_R_isHour {v : Int32} : narrow .boolean (.int (rR_isHour v)) = .int (rR_isHour v) := by
  unfold rR_isHour
  (repeat' split) <;> first | rfl | apply kzb_R_isWithin | apply kzb_R_isWarmth
def rR_isSide (v : Int32) : Int32 := (rR_isWithin v 0 3)
set_option maxRecDepth 100000 in
set_option maxHeartbeats 4000000 in
theorem cR_isSide (l : Launch) (D : va_G) (k : Nat → ClassId) (v : Int32) : kMi l yR_isSide (kwm yR_isSide bR_isSide 1 (some .boolean)) ({ frames := 1, cells := 0, slots := 0, locals := 22 }) D kcl (kty k) [] [] [.int v] (rR_isSide v) := by
  refine k_entry_i (lv0 := [(0, .int v)]) rfl (by decide +kernel) (Nat.le_of_ble_eq_true rfl) rfl ?_
  intro p e s m args below meth c0 C hr hlocks
  refine kw_iload_n C 0 dR_isSide_0 rfl rfl ?_
  refine kw_iconst (v := 0) C dR_isSide_1 (by decide) ?_
  refine kw_iconst (v := 3) C dR_isSide_2 (by decide) ?_
  refine kw_callSi (st := []) C (cR_isWithin l D k v 0 3) (va_cwS 3 C.1.2.2.2.2 (kgO kt_208 kt_209 kt_1 kt_210) rfl rfl rfl kdR_isWithin ⟨Nat.le_of_ble_eq_true rfl, Nat.le_of_ble_eq_true rfl⟩) [] rfl rfl rfl rfl (Nat.le_of_ble_eq_true rfl) dR_isSide_3 ⟨Nat.zero_le _, Nat.zero_le _⟩ rfl [] rfl ?_
  exact kw_zret C hr hlocks rfl (kzb_R_isWithin) dR_isSide_6
theorem kzb_R_isSide {v : Int32} : narrow .boolean (.int (rR_isSide v)) = .int (rR_isSide v) := by
  unfold rR_isSide
  (repeat' split) <;> first | rfl | apply kzb_R_isWithin | apply kzb_R_isWarmth | apply kzb_R_isHour
def rR_isPlan (what : Int32) (v : Int32) : Int32 := if what = 0 then (rR_isWithin v 0 100) else (if v = (-1000000) then 1 else (if (rR_isWarmth v) = 0 then 0 else 1))
set_option maxRecDepth 100000 in
set_option maxHeartbeats 4000000 in
theorem cR_isPlan (l : Launch) (D : va_G) (k : Nat → ClassId) (what : Int32) (v : Int32) : kMi l yR_isPlan (kwm yR_isPlan bR_isPlan 2 (some .boolean)) ({ frames := 2, cells := 0, slots := 0, locals := 42 }) D kcl (kty k) [] [] [.int what, .int v] (rR_isPlan what v) := by
  refine k_entry_i (lv0 := [(0, .int what), (1, .int v)]) rfl (by decide +kernel) (Nat.le_of_ble_eq_true rfl) rfl ?_
  intro p e s m args below meth c0 C hr hlocks
  refine kw_iload_n C 0 dR_isPlan_0 rfl rfl ?_
  refine kw_if_ne (tgt := 14) C dR_isPlan_1 (by decide) (fun c_1 => ?_) (fun c_1 => ?_)
  · skip
    refine kw_iload_n C 1 dR_isPlan_14 rfl rfl ?_
    refine kw_ldc (v := -1000000) C kt_389 dR_isPlan_15 ?_
    refine kw_icmp_eq (tgt := 27) C dR_isPlan_17 (by decide) (fun c_2 => ?_) (fun c_2 => ?_)
    · skip
      refine kw_iconst (v := 1) C dR_isPlan_27 (by decide) ?_
      refine kw_goto (tgt := 32) C dR_isPlan_28 (by decide) ?_
      exact kw_zret C hr hlocks (by unfold rR_isPlan; rw [if_neg c_1, if_pos c_2]) rfl dR_isPlan_32
    · skip
      refine kw_iload_n C 1 dR_isPlan_20 rfl rfl ?_
      refine kw_callSi (st := []) C (cR_isWarmth l D k v) (va_cwS 1 C.1.2.2.2.2 (kgO kt_211 kt_212 kt_1 kt_213) rfl rfl rfl kdR_isWarmth ⟨Nat.le_of_ble_eq_true rfl, Nat.le_of_ble_eq_true rfl⟩) [] rfl rfl rfl rfl (Nat.le_of_ble_eq_true rfl) dR_isPlan_21 ⟨Nat.zero_le _, Nat.zero_le _⟩ rfl [] rfl ?_
      refine kw_if_eq (tgt := 31) C dR_isPlan_24 (by decide) (fun c_3 => ?_) (fun c_3 => ?_)
      · skip
        refine kw_iconst (v := 0) C dR_isPlan_31 (by decide) ?_
        exact kw_zret C hr hlocks (by unfold rR_isPlan; rw [if_neg c_1, if_neg c_2, if_pos c_3]) rfl dR_isPlan_32
      · skip
        refine kw_iconst (v := 1) C dR_isPlan_27 (by decide) ?_
        refine kw_goto (tgt := 32) C dR_isPlan_28 (by decide) ?_
        exact kw_zret C hr hlocks (by unfold rR_isPlan; rw [if_neg c_1, if_neg c_2, if_neg c_3]) rfl dR_isPlan_32
  · skip
    refine kw_iload_n C 1 dR_isPlan_4 rfl rfl ?_
    refine kw_iconst (v := 0) C dR_isPlan_5 (by decide) ?_
    refine kw_bipush (v := 100) C dR_isPlan_6 (by decide) ?_
    refine kw_callSi (st := []) C (cR_isWithin l D k v 0 100) (va_cwS 3 C.1.2.2.2.2 (kgO kt_208 kt_209 kt_1 kt_210) rfl rfl rfl kdR_isWithin ⟨Nat.le_of_ble_eq_true rfl, Nat.le_of_ble_eq_true rfl⟩) [] rfl rfl rfl rfl (Nat.le_of_ble_eq_true rfl) dR_isPlan_8 ⟨Nat.zero_le _, Nat.zero_le _⟩ rfl [] rfl ?_
    refine kw_goto (tgt := 32) C dR_isPlan_11 (by decide) ?_
    exact kw_zret C hr hlocks (by unfold rR_isPlan; rw [if_pos c_1]) (kzb_R_isWithin) dR_isPlan_32
theorem kzb_R_isPlan {what : Int32} {v : Int32} : narrow .boolean (.int (rR_isPlan what v)) = .int (rR_isPlan what v) := by
  unfold rR_isPlan
  (repeat' split) <;> first | rfl | apply kzb_R_isWithin | apply kzb_R_isWarmth | apply kzb_R_isHour | apply kzb_R_isSide
def rC_hourOfDay (c : CS) (h : HS) : Int32 := ((c_over c) / 4) - ((c_over c) / 4) / 24 * 24
set_option maxRecDepth 100000 in
set_option maxHeartbeats 4000000 in
theorem cC_hourOfDay (l : Launch) (D : va_G) (k : Nat → ClassId) (ah : Nat → Nat) (ar : Nat → Nat → Nat) (ac : Nat → Nat) (c : CS) (h : HS)  : kMi l yC_hourOfDay (kwm yC_hourOfDay bC_hourOfDay 1 (some .int)) ({ frames := 0, cells := 0, slots := 0, locals := 0 }) D kcl (kty k) (wC k ah ar ac c h) (wC k ah ar ac c h) [.ref (ac 0)] (rC_hourOfDay c h) := by
  refine k_entry_i (lv0 := [(0, .ref (ac 0))]) rfl (by decide +kernel) (Nat.le_of_ble_eq_true rfl) rfl ?_
  intro p e s m args below meth c0 C hr hlocks
  refine kw_aload_n C 0 dC_hourOfDay_0 rfl rfl ?_
  refine kw_get (v := .int (c_over c)) C 0 rfl rfl ku_C 1 (by decide) kt_123 rfl dC_hourOfDay_1 ?_
  refine kw_iconst (v := 4) C dC_hourOfDay_4 (by decide) ?_
  refine kw_idiv C dC_hourOfDay_5 (by decide) ?_
  refine kw_bipush (v := 24) C dC_hourOfDay_6 (by decide) ?_
  refine kw_irem C dC_hourOfDay_8 (by decide) ?_
  exact kw_iret C hr hlocks rfl dC_hourOfDay_9
def rC_hourEnds (c : CS) (h : HS) : Int32 := if ((c_over c) - (c_over c) / 4 * 4) = 0 then 1 else 0
set_option maxRecDepth 100000 in
set_option maxHeartbeats 4000000 in
theorem cC_hourEnds (l : Launch) (D : va_G) (k : Nat → ClassId) (ah : Nat → Nat) (ar : Nat → Nat → Nat) (ac : Nat → Nat) (c : CS) (h : HS)  : kMi l yC_hourEnds (kwm yC_hourEnds bC_hourEnds 1 (some .boolean)) ({ frames := 0, cells := 0, slots := 0, locals := 0 }) D kcl (kty k) (wC k ah ar ac c h) (wC k ah ar ac c h) [.ref (ac 0)] (rC_hourEnds c h) := by
  refine k_entry_i (lv0 := [(0, .ref (ac 0))]) rfl (by decide +kernel) (Nat.le_of_ble_eq_true rfl) rfl ?_
  intro p e s m args below meth c0 C hr hlocks
  refine kw_aload_n C 0 dC_hourEnds_0 rfl rfl ?_
  refine kw_get (v := .int (c_over c)) C 0 rfl rfl ku_C 1 (by decide) kt_123 rfl dC_hourEnds_1 ?_
  refine kw_iconst (v := 4) C dC_hourEnds_4 (by decide) ?_
  refine kw_irem C dC_hourEnds_5 (by decide) ?_
  refine kw_if_ne (tgt := 13) C dC_hourEnds_6 (by decide) (fun c_1 => ?_) (fun c_1 => ?_)
  · skip
    refine kw_iconst (v := 0) C dC_hourEnds_13 (by decide) ?_
    exact kw_zret C hr hlocks (by unfold rC_hourEnds; rw [if_neg c_1]) rfl dC_hourEnds_14
  · skip
    refine kw_iconst (v := 1) C dC_hourEnds_9 (by decide) ?_
    refine kw_goto (tgt := 14) C dC_hourEnds_10 (by decide) ?_
    exact kw_zret C hr hlocks (by unfold rC_hourEnds; rw [if_pos c_1]) rfl dC_hourEnds_14
theorem kzb_C_hourEnds {c : CS} {h : HS} : narrow .boolean (.int (rC_hourEnds c h)) = .int (rC_hourEnds c h) := by
  unfold rC_hourEnds
  (repeat' split) <;> first | rfl | apply kzb_R_isWithin | apply kzb_R_isWarmth | apply kzb_R_isHour | apply kzb_R_isSide | apply kzb_R_isPlan
