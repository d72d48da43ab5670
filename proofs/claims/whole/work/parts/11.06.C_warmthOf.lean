def rC_warmthOf (c : CS) (h : HS) (room : Int32) : Int64 := if 0 ≤ (lg_cmp (((h_stores h) room.toNatClampNeg).toInt64) 1) then (rJ_floorDiv ((c_heat c) room.toNatClampNeg) (((h_stores h) room.toNatClampNeg).toInt64)) else 0
set_option maxRecDepth 100000 in
set_option maxHeartbeats 4000000 in
theorem cC_warmthOf (l : Launch) (D : va_G) (k : Nat → ClassId) (ah : Nat → Nat) (ar : Nat → Nat → Nat) (ac : Nat → Nat) (c : CS) (h : HS) (room : Int32) (hr8 : vp_in room 8) : kMl l yC_warmthOf (kwm yC_warmthOf bC_warmthOf 4 (some .long)) ({ frames := 1, cells := 0, slots := 0, locals := 25 }) D kcl (kty k) (wC k ah ar ac c h) (wC k ah ar ac c h) [.ref (ac 0), .int room] (rC_warmthOf c h room) := by
  refine k_entry_l (lv0 := [(0, .ref (ac 0)), (1, .int room)]) rfl (by decide +kernel) (Nat.le_of_ble_eq_true rfl) rfl ?_
  intro p e s m args below meth c0 C hr hlocks
  refine kw_aload_n C 0 dC_warmthOf_0 rfl rfl ?_
  refine kw_get (v := .ref (ah 0)) C 0 rfl rfl ku_C 0 (by decide) kt_122 rfl dC_warmthOf_1 ?_
  refine kw_get (v := .ref (ah 1)) C 7 rfl rfl ku_H 1 (by decide) kt_37 rfl dC_warmthOf_4 ?_
  refine kw_iload_n C 1 dC_warmthOf_7 rfl rfl ?_
  refine kw_iald C 8 0 rfl rfl (kix_of hr8) dC_warmthOf_8 ?_
  refine kw_i2l C dC_warmthOf_9 ?_
  refine kw_lstore_n (lv' := [(2, .long (((h_stores h) room.toNatClampNeg).toInt64)), (0, .ref (ac 0)), (1, .int room)]) C dC_warmthOf_10 rfl (by decide) rfl ?_
  refine kw_lload_n C 0 dC_warmthOf_11 rfl rfl ?_
  refine kw_lconst (v := 1) C dC_warmthOf_12 (by decide) ?_
  refine kw_lcmp C dC_warmthOf_13 ?_
  refine kw_if_ge (tgt := 21) C dC_warmthOf_14 (by decide) (fun c_1 => ?_) (fun c_1 => ?_)
  · skip
    refine kw_aload_n C 1 dC_warmthOf_21 rfl rfl ?_
    refine kw_get (v := .ref (ac 1)) C 0 rfl rfl ku_C 2 (by decide) kt_125 rfl dC_warmthOf_22 ?_
    refine kw_iload_n C 2 dC_warmthOf_25 rfl rfl ?_
    refine kw_lald C 1 1 rfl rfl (kix_of hr8) dC_warmthOf_26 ?_
    refine kw_lload_n C 0 dC_warmthOf_27 rfl rfl ?_
    refine kw_callSl (st := []) C (cJ_floorDiv l D k ((c_heat c) room.toNatClampNeg) (((h_stores h) room.toNatClampNeg).toInt64) (klc1g c_1)) (va_cwS 2 C.1.2.2.2.2 (kgO kt_430 kt_431 kt_11 kt_432) rfl rfl rfl kdJ_floorDiv ⟨Nat.le_of_ble_eq_true rfl, Nat.le_of_ble_eq_true rfl⟩) [] rfl rfl rfl rfl (Nat.le_of_ble_eq_true rfl) dC_warmthOf_28 ⟨Nat.zero_le _, Nat.zero_le _⟩ rfl (wC k ah ar ac c h) rfl ?_
    exact kw_lret C hr hlocks (by unfold rC_warmthOf; rw [if_pos c_1]) dC_warmthOf_31
  · skip
    refine kw_lconst (v := 0) C dC_warmthOf_17 (by decide) ?_
    refine kw_goto (tgt := 31) C dC_warmthOf_18 (by decide) ?_
    exact kw_lret C hr hlocks (by unfold rC_warmthOf; rw [if_neg c_1]) dC_warmthOf_31
