noncomputable def scC_beginRoom (c : CS) (h : HS) (room : Int32) (itsHeat : Int64) : CS := ((c_over c), (c_setRoom c), (c_setTried c), (c_setFrom c), (c_mostRoom c), (c_mostTried c), (c_fellShort c), ((c_begun c) + itsHeat), (c_fromSun c), (c_fromPersons c), (c_goneOut c), (vp_updL (c_heat c) room.toNatClampNeg itsHeat), (c_warmth c), (c_given c), (c_taken c), (c_greatest c), (c_uneasy c))
set_option maxRecDepth 100000 in
set_option maxHeartbeats 4000000 in
theorem cC_beginRoom (l : Launch) (D : va_G) (k : Nat → ClassId) (ah : Nat → Nat) (ar : Nat → Nat → Nat) (ac : Nat → Nat) (c : CS) (h : HS) (room : Int32) (itsHeat : Int64) (hr8 : vp_in room 8) : kMv l yC_beginRoom (kwm yC_beginRoom bC_beginRoom 4 none) ({ frames := 0, cells := 0, slots := 0, locals := 0 }) D kcl (kty k) (wC k ah ar ac c h) (wC k ah ar ac (scC_beginRoom c h room itsHeat) h) [.ref (ac 0), .int room, .long itsHeat] := by
  refine k_entry_v (lv0 := [(0, .ref (ac 0)), (1, .int room), (2, .long itsHeat)]) rfl (by decide +kernel) (Nat.le_of_ble_eq_true rfl) rfl ?_
  intro p e s m args below meth c0 C hr hlocks
  refine kw_aload_n C 0 dC_beginRoom_0 rfl rfl ?_
  refine kw_get (v := .ref (ac 1)) C 0 rfl rfl ku_C 2 (by decide) kt_125 rfl dC_beginRoom_1 ?_
  refine kw_iload_n C 1 dC_beginRoom_4 rfl rfl ?_
  refine kw_lload_n C 2 dC_beginRoom_5 rfl rfl ?_
  refine kw_last C 1 1 rfl rfl (kix_of hr8) dC_beginRoom_6 (wC_c k ah ar ac (c_over c) (c_setRoom c) (c_setTried c) (c_setFrom c) (c_mostRoom c) (c_mostTried c) (c_fellShort c) (c_begun c) (c_fromSun c) (c_fromPersons c) (c_goneOut c) (vp_updL (c_heat c) room.toNatClampNeg itsHeat) (c_warmth c) (c_given c) (c_taken c) (c_greatest c) (c_uneasy c) h) rfl ?_
  refine kw_aload_n C 0 dC_beginRoom_7 rfl rfl ?_
  refine kw_dup C dC_beginRoom_8 rfl ?_
  refine kw_get (v := .long (c_begun c)) C 0 rfl rfl ku_C 8 (by decide) kt_136 rfl dC_beginRoom_9 ?_
  refine kw_lload_n C 2 dC_beginRoom_12 rfl rfl ?_
  refine kw_ladd C dC_beginRoom_13 ?_
  refine kw_put C 0 rfl rfl ku_C tC_ok nC 8 (by decide) kt_136 rfl (ty := .long) (by decide +kernel) rfl rfl (Nat.le_of_ble_eq_true rfl) dC_beginRoom_14 (wC_c k ah ar ac (c_over c) (c_setRoom c) (c_setTried c) (c_setFrom c) (c_mostRoom c) (c_mostTried c) (c_fellShort c) ((c_begun c) + itsHeat) (c_fromSun c) (c_fromPersons c) (c_goneOut c) (vp_updL (c_heat c) room.toNatClampNeg itsHeat) (c_warmth c) (c_given c) (c_taken c) (c_greatest c) (c_uneasy c) h) rfl ?_
  refine kw_eq rfl rfl (mk_wC_c.trans (congrArg (fun z90 => wC k ah ar ac z90 h) (show ((c_over c), (c_setRoom c), (c_setTried c), (c_setFrom c), (c_mostRoom c), (c_mostTried c), (c_fellShort c), ((c_begun c) + itsHeat), (c_fromSun c), (c_fromPersons c), (c_goneOut c), (vp_updL (c_heat c) room.toNatClampNeg itsHeat), (c_warmth c), (c_given c), (c_taken c), (c_greatest c), (c_uneasy c)) = scC_beginRoom c h room itsHeat from rfl))) ?_
  exact kw_vret C hr hlocks dC_beginRoom_17
