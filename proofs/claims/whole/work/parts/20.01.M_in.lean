def rM_in (v : Int32) (lowest : Int32) (highest : Int32) : Int32 := if v < lowest then 0 else (if highest < v then 0 else 1)
set_option maxRecDepth 100000 in
set_option maxHeartbeats 4000000 in
theorem cM_in (l : Launch) (D : va_G) (k : Nat → ClassId) (v : Int32) (lowest : Int32) (highest : Int32) : kMi l yM_in (kwm yM_in bM_in 3 (some .boolean)) ({ frames := 0, cells := 0, slots := 0, locals := 0 }) D kcl (kty k) [] [] [.int v, .int lowest, .int highest] (rM_in v lowest highest) := by
  refine k_entry_i (lv0 := [(0, .int v), (1, .int lowest), (2, .int highest)]) rfl (by decide +kernel) (Nat.le_of_ble_eq_true rfl) rfl ?_
  intro p e s m args below meth c0 C hr hlocks
  refine kw_iload_n C 0 dM_in_0 rfl rfl ?_
  refine kw_iload_n C 1 dM_in_1 rfl rfl ?_
  refine kw_icmp_lt (tgt := 14) C dM_in_2 (by decide) (fun c_1 => ?_) (fun c_1 => ?_)
  · skip
    refine kw_iconst (v := 0) C dM_in_14 (by decide) ?_
    exact kw_zret C hr hlocks (by unfold rM_in; rw [if_pos c_1]) rfl dM_in_15
  · skip
    refine kw_iload_n C 0 dM_in_5 rfl rfl ?_
    refine kw_iload_n C 2 dM_in_6 rfl rfl ?_
    refine kw_icmp_gt (tgt := 14) C dM_in_7 (by decide) (fun c_2 => ?_) (fun c_2 => ?_)
    · skip
      refine kw_iconst (v := 0) C dM_in_14 (by decide) ?_
      exact kw_zret C hr hlocks (by unfold rM_in; rw [if_neg c_1, if_pos c_2]) rfl dM_in_15
    · skip
      refine kw_iconst (v := 1) C dM_in_10 (by decide) ?_
      refine kw_goto (tgt := 15) C dM_in_11 (by decide) ?_
      exact kw_zret C hr hlocks (by unfold rM_in; rw [if_neg c_1, if_neg c_2]) rfl dM_in_15
theorem kzb_M_in {v : Int32} {lowest : Int32} {highest : Int32} : narrow .boolean (.int (rM_in v lowest highest)) = .int (rM_in v lowest highest) := by
  unfold rM_in
  (repeat' split) <;> first | rfl | apply kzb_R_isWithin | apply kzb_R_isWarmth | apply kzb_R_isHour | apply kzb_R_isSide | apply kzb_R_isPlan | apply kzb_C_hourEnds | apply kzb_C_hasPersons | apply kzb_H_hasRoom | apply kzb_H_bears
