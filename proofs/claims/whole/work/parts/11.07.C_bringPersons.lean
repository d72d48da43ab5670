noncomputable def scC_bringPersons (c : CS) (h : HS) (room : Int32) (hour : Int32) : CS := ((c_over c), (c_setRoom c), (c_setTried c), (c_setFrom c), (c_mostRoom c), (c_mostTried c), (c_fellShort c), (c_begun c), (c_fromSun c), ((c_fromPersons c) + (((rC_planned c h 0 room hour) * 100).toInt64)), (c_goneOut c), (vp_updL (c_heat c) room.toNatClampNeg (((c_heat c) room.toNatClampNeg) + (((rC_planned c h 0 room hour) * 100).toInt64))), (c_warmth c), (c_given c), (c_taken c), (c_greatest c), (c_uneasy c))
set_option maxRecDepth 100000 in
set_option maxHeartbeats 4000000 in
theorem cC_bringPersons (l : Launch) (D : va_G) (k : Nat → ClassId) (ah : Nat → Nat) (ar : Nat → Nat → Nat) (ac : Nat → Nat) (c : CS) (h : HS) (room : Int32) (hour : Int32) (hr8 : vp_in room 8) (hp : vp_in (room * 24 + hour) 192) : kMv l yC_bringPersons (kwm yC_bringPersons bC_bringPersons 4 none) ({ frames := 1, cells := 0, slots := 0, locals := 23 }) D kcl (kty k) (wC k ah ar ac c h) (wC k ah ar ac (scC_bringPersons c h room hour) h) [.ref (ac 0), .int room, .int hour] := by
  refine k_entry_v (lv0 := [(0, .ref (ac 0)), (1, .int room), (2, .int hour)]) rfl (by decide +kernel) (Nat.le_of_ble_eq_true rfl) rfl ?_
  intro p e s m args below meth c0 C hr hlocks
  refine kw_aload_n C 0 dC_bringPersons_0 rfl rfl ?_
  refine kw_iconst (v := 0) C dC_bringPersons_1 (by decide) ?_
  refine kw_iload_n C 1 dC_bringPersons_2 rfl rfl ?_
  refine kw_iload_n C 2 dC_bringPersons_3 rfl rfl ?_
  refine kw_callAi (w1 := (wC k ah ar ac c h)) (st := []) C (cC_planned l D k ah ar ac c h 0 room hour (by unfold vp_in; decide) hp) (cwV 3 C.1.2.2.2.2 (kgV kt_446 kt_448 ks_C_planned kt_4 kt_449) rfl rfl rfl kdC_planned ⟨Nat.le_of_ble_eq_true rfl, Nat.le_of_ble_eq_true rfl⟩) 0 0 rfl rfl rfl rfl rfl (Nat.le_of_ble_eq_true rfl) dC_bringPersons_4 ⟨Nat.zero_le _, Nat.zero_le _⟩ (ad_wC.trans ad_wC.symm) ?_
  refine kw_bipush (v := 100) C dC_bringPersons_7 (by decide) ?_
  refine kw_imul C dC_bringPersons_9 ?_
  refine kw_istore_n (lv' := [(3, .int ((rC_planned c h 0 room hour) * 100)), (0, .ref (ac 0)), (1, .int room), (2, .int hour)]) C dC_bringPersons_10 rfl (by decide) rfl ?_
  refine kw_aload_n C 1 dC_bringPersons_11 rfl rfl ?_
  refine kw_get (v := .ref (ac 1)) C 0 rfl rfl ku_C 2 (by decide) kt_125 rfl dC_bringPersons_12 ?_
  refine kw_iload_n C 2 dC_bringPersons_15 rfl rfl ?_
  refine kw_dup2_11 C dC_bringPersons_16 rfl rfl ?_
  refine kw_lald C 1 1 rfl rfl (kix_of hr8) dC_bringPersons_17 ?_
  refine kw_iload_n C 0 dC_bringPersons_18 rfl rfl ?_
  refine kw_i2l C dC_bringPersons_19 ?_
  refine kw_ladd C dC_bringPersons_20 ?_
  refine kw_last C 1 1 rfl rfl (kix_of hr8) dC_bringPersons_21 (wC_c k ah ar ac (c_over c) (c_setRoom c) (c_setTried c) (c_setFrom c) (c_mostRoom c) (c_mostTried c) (c_fellShort c) (c_begun c) (c_fromSun c) (c_fromPersons c) (c_goneOut c) (vp_updL (c_heat c) room.toNatClampNeg (((c_heat c) room.toNatClampNeg) + (((rC_planned c h 0 room hour) * 100).toInt64))) (c_warmth c) (c_given c) (c_taken c) (c_greatest c) (c_uneasy c) h) rfl ?_
  refine kw_aload_n C 1 dC_bringPersons_22 rfl rfl ?_
  refine kw_dup C dC_bringPersons_23 rfl ?_
  refine kw_get (v := .long (c_fromPersons c)) C 0 rfl rfl ku_C 10 (by decide) kt_141 rfl dC_bringPersons_24 ?_
  refine kw_iload_n C 0 dC_bringPersons_27 rfl rfl ?_
  refine kw_i2l C dC_bringPersons_28 ?_
  refine kw_ladd C dC_bringPersons_29 ?_
  refine kw_put C 0 rfl rfl ku_C tC_ok nC 10 (by decide) kt_141 rfl (ty := .long) (by decide +kernel) rfl rfl (Nat.le_of_ble_eq_true rfl) dC_bringPersons_30 (wC_c k ah ar ac (c_over c) (c_setRoom c) (c_setTried c) (c_setFrom c) (c_mostRoom c) (c_mostTried c) (c_fellShort c) (c_begun c) (c_fromSun c) ((c_fromPersons c) + (((rC_planned c h 0 room hour) * 100).toInt64)) (c_goneOut c) (vp_updL (c_heat c) room.toNatClampNeg (((c_heat c) room.toNatClampNeg) + (((rC_planned c h 0 room hour) * 100).toInt64))) (c_warmth c) (c_given c) (c_taken c) (c_greatest c) (c_uneasy c) h) rfl ?_
  refine kw_eq rfl rfl (mk_wC_c.trans (congrArg (fun z90 => wC k ah ar ac z90 h) (show ((c_over c), (c_setRoom c), (c_setTried c), (c_setFrom c), (c_mostRoom c), (c_mostTried c), (c_fellShort c), (c_begun c), (c_fromSun c), ((c_fromPersons c) + (((rC_planned c h 0 room hour) * 100).toInt64)), (c_goneOut c), (vp_updL (c_heat c) room.toNatClampNeg (((c_heat c) room.toNatClampNeg) + (((rC_planned c h 0 room hour) * 100).toInt64))), (c_warmth c), (c_given c), (c_taken c), (c_greatest c), (c_uneasy c)) = scC_bringPersons c h room hour from rfl))) ?_
  exact kw_vret C hr hlocks dC_bringPersons_33
