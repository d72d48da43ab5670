def rM_isWarmth (v : Int32) : Int32 := (rM_in v (-5000) 5000)
set_option maxRecDepth 100000 in
set_option maxHeartbeats 4000000 in
theorem cM_isWarmth (l : Launch) (D : va_G) (k : Nat → ClassId) (v : Int32) : kMi l yM_isWarmth (kwm yM_isWarmth bM_isWarmth 1 (some .boolean)) ({ frames := 1, cells := 0, slots := 0, locals := 22 }) D kcl (kty k) [] [] [.int v] (rM_isWarmth v) := by
  refine k_entry_i (lv0 := [(0, .int v)]) rfl (by decide +kernel) (Nat.le_of_ble_eq_true rfl) rfl ?_
  intro p e s m args below meth c0 C hr hlocks
  refine kw_iload_n C 0 dM_isWarmth_0 rfl rfl ?_
  refine kw_sipush (v := -5000) C dM_isWarmth_1 (by decide) ?_
  refine kw_sipush (v := 5000) C dM_isWarmth_4 (by decide) ?_
  refine kw_callSi (st := []) C (cM_in l D k v (-5000) 5000) (va_cwS 3 C.1.2.2.2.2 (kgO kt_676 kt_677 kt_5 kt_678) rfl rfl rfl kdM_in ⟨Nat.le_of_ble_eq_true rfl, Nat.le_of_ble_eq_true rfl⟩) [] rfl rfl rfl rfl (Nat.le_of_ble_eq_true rfl) dM_isWarmth_7 ⟨Nat.zero_le _, Nat.zero_le _⟩ rfl [] rfl ?_
  exact kw_zret C hr hlocks rfl (kzb_M_in) dM_isWarmth_10
theorem kzb_M_isWarmth {v : Int32} : narrow .boolean (.int (rM_isWarmth v)) = .int (rM_isWarmth v) := by
  unfold rM_isWarmth
  (repeat' split) <;> first | rfl | apply kzb_R_isWithin | apply kzb_R_isWarmth | apply kzb_R_isHour | apply kzb_R_isSide | apply kzb_R_isPlan | apply kzb_C_hourEnds | apply kzb_C_hasPersons | apply kzb_H_hasRoom | apply kzb_H_bears | apply kzb_M_in
