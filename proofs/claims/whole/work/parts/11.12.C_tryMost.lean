noncomputable def scC_tryMost (c : CS) (h : HS) (room : Int32) (most : Int32) : CS := ((c_over c), (c_setRoom c), (c_setTried c), (c_setFrom c), room, most, (c_fellShort c), (c_begun c), (c_fromSun c), (c_fromPersons c), (c_goneOut c), (c_heat c), (c_warmth c), (c_given c), (c_taken c), (c_greatest c), (c_uneasy c))
set_option maxRecDepth 100000 in
set_option maxHeartbeats 4000000 in
theorem cC_tryMost (l : Launch) (D : va_G) (k : Nat → ClassId) (ah : Nat → Nat) (ar : Nat → Nat → Nat) (ac : Nat → Nat) (c : CS) (h : HS) (room : Int32) (most : Int32) : kMv l yC_tryMost (kwm yC_tryMost bC_tryMost 3 none) ({ frames := 0, cells := 0, slots := 0, locals := 0 }) D kcl (kty k) (wC k ah ar ac c h) (wC k ah ar ac (scC_tryMost c h room most) h) [.ref (ac 0), .int room, .int most] := by
  refine k_entry_v (lv0 := [(0, .ref (ac 0)), (1, .int room), (2, .int most)]) rfl (by decide +kernel) (Nat.le_of_ble_eq_true rfl) rfl ?_
  intro p e s m args below meth c0 C hr hlocks
  refine kw_aload_n C 0 dC_tryMost_0 rfl rfl ?_
  refine kw_iload_n C 1 dC_tryMost_1 rfl rfl ?_
  refine kw_put C 0 rfl rfl ku_C tC_ok nC 15 (by decide) kt_147 rfl (ty := .int) (by decide +kernel) rfl rfl (Nat.le_of_ble_eq_true rfl) dC_tryMost_2 (wC_c k ah ar ac (c_over c) (c_setRoom c) (c_setTried c) (c_setFrom c) room (c_mostTried c) (c_fellShort c) (c_begun c) (c_fromSun c) (c_fromPersons c) (c_goneOut c) (c_heat c) (c_warmth c) (c_given c) (c_taken c) (c_greatest c) (c_uneasy c) h) rfl ?_
  refine kw_aload_n C 0 dC_tryMost_5 rfl rfl ?_
  refine kw_iload_n C 2 dC_tryMost_6 rfl rfl ?_
  refine kw_put C 0 rfl rfl ku_C tC_ok nC 16 (by decide) kt_148 rfl (ty := .int) (by decide +kernel) rfl rfl (Nat.le_of_ble_eq_true rfl) dC_tryMost_7 (wC_c k ah ar ac (c_over c) (c_setRoom c) (c_setTried c) (c_setFrom c) room most (c_fellShort c) (c_begun c) (c_fromSun c) (c_fromPersons c) (c_goneOut c) (c_heat c) (c_warmth c) (c_given c) (c_taken c) (c_greatest c) (c_uneasy c) h) rfl ?_
  refine kw_eq rfl rfl (mk_wC_c.trans (congrArg (fun z90 => wC k ah ar ac z90 h) (show ((c_over c), (c_setRoom c), (c_setTried c), (c_setFrom c), room, most, (c_fellShort c), (c_begun c), (c_fromSun c), (c_fromPersons c), (c_goneOut c), (c_heat c), (c_warmth c), (c_given c), (c_taken c), (c_greatest c), (c_uneasy c)) = scC_tryMost c h room most from rfl))) ?_
  exact kw_vret C hr hlocks dC_tryMost_10
