def rR_isSide (v : Int32) : Int32 := (rR_isWithin v 0 3)
set_option maxRecDepth 100000 in
set_option maxHeartbeats 4000000 in
theorem cR_isSide (l : Launch) (D : va_G) (k : Nat → ClassId) (v : Int32) : kMi l yR_isSide (kwm yR_isSide bR_isSide 1 (some .boolean)) ({ frames := 1, cells := 0, slots := 0, locals := 22 }) D kcl (kty k) [] [] [.int v] (rR_isSide v) := by
  refine k_entry_i (lv0 := [(0, .int v)]) rfl (by decide +kernel) (Nat.le_of_ble_eq_true rfl) rfl ?_
  intro p e s m args below meth c0 C hr hlocks
  refine kw_iload_n C 0 dR_isSide_0 rfl rfl ?_
  refine kw_iconst (v := 0) C dR_isSide_1 (by decide) ?_
  refine kw_iconst (v := 3) C dR_isSide_2 (by decide) ?_
  refine kw_callSi (st := []) C (cR_isWithin l D k v 0 3) (va_cwS 3 C.1.2.2.2.2 (kgO kt_208 kt_209 kt_1 kt_210) rfl rfl rfl kdR_isWithin ⟨Nat.le_of_ble_eq_true rfl, Nat.le_of_ble_eq_true rfl⟩) [] rfl rfl rfl rfl (Nat.le_of_ble_eq_true rfl) dR_isSide_3 ⟨Nat.zero_le _, Nat.zero_le _⟩ rfl [] rfl ?_
  exact kw_zret C hr hlocks rfl (kzb_R_isWithin) dR_isSide_6
theorem kzb_R_isSide {v : Int32} : narrow .boolean (.int (rR_isSide v)) = .int (rR_isSide v) := by
  unfold rR_isSide
  (repeat' split) <;> first | rfl | apply kzb_R_isWithin | apply kzb_R_isWarmth | apply kzb_R_isHour
