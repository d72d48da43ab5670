def rC_hourOfDay (c : CS) (h : HS) : Int32 := ((c_over c) / 4) - ((c_over c) / 4) / 24 * 24
set_option maxRecDepth 100000 in
set_option maxHeartbeats 4000000 in
theorem cC_hourOfDay (l : Launch) (D : va_G) (k : Nat → ClassId) (ah : Nat → Nat) (ar : Nat → Nat → Nat) (ac : Nat → Nat) (c : CS) (h : HS)  : kMi l yC_hourOfDay (kwm yC_hourOfDay bC_hourOfDay 1 (some .int)) ({ frames := 0, cells := 0, slots := 0, locals := 0 }) D kcl (kty k) (wC k ah ar ac c h) (wC k ah ar ac c h) [.ref (ac 0)] (rC_hourOfDay c h) := by
  refine k_entry_i (lv0 := [(0, .ref (ac 0))]) rfl (by decide +kernel) (Nat.le_of_ble_eq_true rfl) rfl ?_
  intro p e s m args below meth c0 C hr hlocks
  refine kw_aload_n C 0 dC_hourOfDay_0 rfl rfl ?_
  refine kw_get (v := .int (c_over c)) C 0 rfl rfl ku_C 1 (by decide) kt_123 rfl dC_hourOfDay_1 ?_
  refine kw_iconst (v := 4) C dC_hourOfDay_4 (by decide) ?_
  refine kw_idiv C dC_hourOfDay_5 (by decide) ?_
  refine kw_bipush (v := 24) C dC_hourOfDay_6 (by decide) ?_
  refine kw_irem C dC_hourOfDay_8 (by decide) ?_
  exact kw_iret C hr hlocks rfl dC_hourOfDay_9
