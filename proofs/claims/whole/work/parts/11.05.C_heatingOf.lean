def rC_heatingOf (c : CS) (h : HS) (room : Int32) : Int32 := if room = (c_mostRoom c) then (c_mostTried c) else ((h_mosts h) 0) room.toNatClampNeg
set_option maxRecDepth 100000 in
set_option maxHeartbeats 4000000 in
theorem cC_heatingOf (l : Launch) (D : va_G) (k : Nat → ClassId) (ah : Nat → Nat) (ar : Nat → Nat → Nat) (ac : Nat → Nat) (c : CS) (h : HS) (room : Int32) (hr8 : vp_in room 8) : kMi l yC_heatingOf (kwm yC_heatingOf bC_heatingOf 2 (some .int)) ({ frames := 0, cells := 0, slots := 0, locals := 0 }) D kcl (kty k) (wC k ah ar ac c h) (wC k ah ar ac c h) [.ref (ac 0), .int room] (rC_heatingOf c h room) := by
  refine k_entry_i (lv0 := [(0, .ref (ac 0)), (1, .int room)]) rfl (by decide +kernel) (Nat.le_of_ble_eq_true rfl) rfl ?_
  intro p e s m args below meth c0 C hr hlocks
  refine kw_iload_n C 1 dC_heatingOf_0 rfl rfl ?_
  refine kw_aload_n C 0 dC_heatingOf_1 rfl rfl ?_
  refine kw_get (v := .int (c_mostRoom c)) C 0 rfl rfl ku_C 15 (by decide) kt_147 rfl dC_heatingOf_2 ?_
  refine kw_icmp_ne (tgt := 15) C dC_heatingOf_5 (by decide) (fun c_1 => ?_) (fun c_1 => ?_)
  · skip
    refine kw_aload_n C 0 dC_heatingOf_15 rfl rfl ?_
    refine kw_get (v := .ref (ah 0)) C 0 rfl rfl ku_C 0 (by decide) kt_122 rfl dC_heatingOf_16 ?_
    refine kw_get (v := .ref (ah 3)) C 7 rfl rfl ku_H 3 (by decide) kt_41 rfl dC_heatingOf_19 ?_
    refine kw_iconst (v := 0) C dC_heatingOf_22 (by decide) ?_
    refine kw_aldA (b := ar 0 0) C 18 2 rfl rfl (show kix 0 2 0 from ⟨by unfold vp_in; decide, by decide⟩) rfl dC_heatingOf_23 ?_
    refine kw_iload_n C 1 dC_heatingOf_24 rfl rfl ?_
    refine kw_iald C 19 0 rfl rfl (kix_of hr8) dC_heatingOf_25 ?_
    exact kw_iret C hr hlocks (by unfold rC_heatingOf; rw [if_neg c_1]) dC_heatingOf_26
  · skip
    refine kw_aload_n C 0 dC_heatingOf_8 rfl rfl ?_
    refine kw_get (v := .int (c_mostTried c)) C 0 rfl rfl ku_C 16 (by decide) kt_148 rfl dC_heatingOf_9 ?_
    refine kw_goto (tgt := 26) C dC_heatingOf_12 (by decide) ?_
    exact kw_iret C hr hlocks (by unfold rC_heatingOf; rw [if_pos c_1]) dC_heatingOf_26
