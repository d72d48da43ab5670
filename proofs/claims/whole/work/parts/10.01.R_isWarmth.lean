def rR_isWarmth (v : Int32) : Int32 := (rR_isWithin v (-5000) 5000)
set_option maxRecDepth 100000 in
set_option maxHeartbeats 4000000 in
theorem cR_isWarmth (l : Launch) (D : va_G) (k : Nat → ClassId) (v : Int32) : kMi l yR_isWarmth (kwm yR_isWarmth bR_isWarmth 1 (some .boolean)) ({ frames := 1, cells := 0, slots := 0, locals := 22 }) D kcl (kty k) [] [] [.int v] (rR_isWarmth v) := by
  refine k_entry_i (lv0 := [(0, .int v)]) rfl (by decide +kernel) (Nat.le_of_ble_eq_true rfl) rfl ?_
  intro p e s m args below meth c0 C hr hlocks
  refine kw_iload_n C 0 dR_isWarmth_0 rfl rfl ?_
  refine kw_sipush (v := -5000) C dR_isWarmth_1 (by decide) ?_
  refine kw_sipush (v := 5000) C dR_isWarmth_4 (by decide) ?_
  refine kw_callSi (st := []) C (cR_isWithin l D k v (-5000) 5000) (va_cwS 3 C.1.2.2.2.2 (kgO kt_208 kt_209 kt_1 kt_210) rfl rfl rfl kdR_isWithin ⟨Nat.le_of_ble_eq_true rfl, Nat.le_of_ble_eq_true rfl⟩) [] rfl rfl rfl rfl (Nat.le_of_ble_eq_true rfl) dR_isWarmth_7 ⟨Nat.zero_le _, Nat.zero_le _⟩ rfl [] rfl ?_
  exact kw_zret C hr hlocks rfl (kzb_R_isWithin) dR_isWarmth_10
theorem kzb_R_isWarmth {v : Int32} : narrow .boolean (.int (rR_isWarmth v)) = .int (rR_isWarmth v) := by
  unfold rR_isWarmth
  (repeat' split) <;> first | rfl | apply kzb_R_isWithin
