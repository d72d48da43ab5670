noncomputable def scC_trySet (c : CS) (h : HS) (room : Int32) (wanted : Int32) (from_ : Int32) : CS := ((c_over c), room, wanted, from_, (c_mostRoom c), (c_mostTried c), (c_fellShort c), (c_begun c), (c_fromSun c), (c_fromPersons c), (c_goneOut c), (c_heat c), (c_warmth c), (c_given c), (c_taken c), (c_greatest c), (c_uneasy c))
set_option maxRecDepth 100000 in
set_option maxHeartbeats 4000000 in
theorem cC_trySet (l : Launch) (D : va_G) (k : Nat → ClassId) (ah : Nat → Nat) (ar : Nat → Nat → Nat) (ac : Nat → Nat) (c : CS) (h : HS) (room : Int32) (wanted : Int32) (from_ : Int32) : kMv l yC_trySet (kwm yC_trySet bC_trySet 4 none) ({ frames := 0, cells := 0, slots := 0, locals := 0 }) D kcl (kty k) (wC k ah ar ac c h) (wC k ah ar ac (scC_trySet c h room wanted from_) h) [.ref (ac 0), .int room, .int wanted, .int from_] := by
  refine k_entry_v (lv0 := [(0, .ref (ac 0)), (1, .int room), (2, .int wanted), (3, .int from_)]) rfl (by decide +kernel) (Nat.le_of_ble_eq_true rfl) rfl ?_
  intro p e s m args below meth c0 C hr hlocks
  refine kw_aload_n C 0 dC_trySet_0 rfl rfl ?_
  refine kw_iload_n C 1 dC_trySet_1 rfl rfl ?_
  refine kw_put C 0 rfl rfl ku_C tC_ok nC 12 (by decide) kt_144 rfl (ty := .int) (by decide +kernel) rfl rfl (Nat.le_of_ble_eq_true rfl) dC_trySet_2 (wC_c k ah ar ac (c_over c) room (c_setTried c) (c_setFrom c) (c_mostRoom c) (c_mostTried c) (c_fellShort c) (c_begun c) (c_fromSun c) (c_fromPersons c) (c_goneOut c) (c_heat c) (c_warmth c) (c_given c) (c_taken c) (c_greatest c) (c_uneasy c) h) rfl ?_
  refine kw_aload_n C 0 dC_trySet_5 rfl rfl ?_
  refine kw_iload_n C 2 dC_trySet_6 rfl rfl ?_
  refine kw_put C 0 rfl rfl ku_C tC_ok nC 13 (by decide) kt_145 rfl (ty := .int) (by decide +kernel) rfl rfl (Nat.le_of_ble_eq_true rfl) dC_trySet_7 (wC_c k ah ar ac (c_over c) room wanted (c_setFrom c) (c_mostRoom c) (c_mostTried c) (c_fellShort c) (c_begun c) (c_fromSun c) (c_fromPersons c) (c_goneOut c) (c_heat c) (c_warmth c) (c_given c) (c_taken c) (c_greatest c) (c_uneasy c) h) rfl ?_
  refine kw_aload_n C 0 dC_trySet_10 rfl rfl ?_
  refine kw_iload_n C 3 dC_trySet_11 rfl rfl ?_
  refine kw_put C 0 rfl rfl ku_C tC_ok nC 14 (by decide) kt_146 rfl (ty := .int) (by decide +kernel) rfl rfl (Nat.le_of_ble_eq_true rfl) dC_trySet_12 (wC_c k ah ar ac (c_over c) room wanted from_ (c_mostRoom c) (c_mostTried c) (c_fellShort c) (c_begun c) (c_fromSun c) (c_fromPersons c) (c_goneOut c) (c_heat c) (c_warmth c) (c_given c) (c_taken c) (c_greatest c) (c_uneasy c) h) rfl ?_
  refine kw_eq rfl rfl (mk_wC_c.trans (congrArg (fun z90 => wC k ah ar ac z90 h) (show ((c_over c), room, wanted, from_, (c_mostRoom c), (c_mostTried c), (c_fellShort c), (c_begun c), (c_fromSun c), (c_fromPersons c), (c_goneOut c), (c_heat c), (c_warmth c), (c_given c), (c_taken c), (c_greatest c), (c_uneasy c)) = scC_trySet c h room wanted from_ from rfl))) ?_
  exact kw_vret C hr hlocks dC_trySet_15
