def rC_planned (c : CS) (h : HS) (what : Int32) (room : Int32) (hour : Int32) : Int32 := ((h_plans h) what.toNatClampNeg) ((room * 24 + hour).toNatClampNeg)
set_option maxRecDepth 100000 in
set_option maxHeartbeats 4000000 in
theorem cC_planned (l : Launch) (D : va_G) (k : Nat → ClassId) (ah : Nat → Nat) (ar : Nat → Nat → Nat) (ac : Nat → Nat) (c : CS) (h : HS) (what : Int32) (room : Int32) (hour : Int32) (hw : vp_in what 3) (hp : vp_in (room * 24 + hour) 192) : kMi l yC_planned (kwm yC_planned bC_planned 4 (some .int)) ({ frames := 0, cells := 0, slots := 0, locals := 0 }) D kcl (kty k) (wC k ah ar ac c h) (wC k ah ar ac c h) [.ref (ac 0), .int what, .int room, .int hour] (rC_planned c h what room hour) := by
  refine k_entry_i (lv0 := [(0, .ref (ac 0)), (1, .int what), (2, .int room), (3, .int hour)]) rfl (by decide +kernel) (Nat.le_of_ble_eq_true rfl) rfl ?_
  intro p e s m args below meth c0 C hr hlocks
  refine kw_aload_n C 0 dC_planned_0 rfl rfl ?_
  refine kw_get (v := .ref (ah 0)) C 0 rfl rfl ku_C 0 (by decide) kt_122 rfl dC_planned_1 ?_
  refine kw_get (v := .ref (ah 4)) C 7 rfl rfl ku_H 4 (by decide) kt_44 rfl dC_planned_4 ?_
  refine kw_iload_n C 1 dC_planned_7 rfl rfl ?_
  refine kw_aldA (b := ar 1 what.toNatClampNeg) C 21 2 rfl rfl (kix_of hw) (if_pos (kin_lt hw)) dC_planned_8 ?_
  refine kw_iload_n C 2 dC_planned_9 rfl rfl ?_
  refine kw_bipush (v := 24) C dC_planned_10 (by decide) ?_
  refine kw_imul C dC_planned_12 ?_
  refine kw_iload_n C 3 dC_planned_13 rfl rfl ?_
  refine kw_iadd C dC_planned_14 ?_
  refine kw_iald C (22 + what.toNatClampNeg) 0 (pC_plans k ah ar ac c h _ (kin_lt hw)) rfl (kix_of hp) dC_planned_15 ?_
  exact kw_iret C hr hlocks rfl dC_planned_16
