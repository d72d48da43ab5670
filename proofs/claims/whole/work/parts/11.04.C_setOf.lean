def rC_setOf (c : CS) (h : HS) (room : Int32) (hour : Int32) : Int32 := if room = (c_setRoom c) then (if (c_over c) < (c_setFrom c) then (rC_planned c h 1 room hour) else (c_setTried c)) else (rC_planned c h 1 room hour)
set_option maxRecDepth 100000 in
set_option maxHeartbeats 4000000 in
theorem cC_setOf (l : Launch) (D : va_G) (k : Nat → ClassId) (ah : Nat → Nat) (ar : Nat → Nat → Nat) (ac : Nat → Nat) (c : CS) (h : HS) (room : Int32) (hour : Int32) (hp : vp_in (room * 24 + hour) 192) : kMi l yC_setOf (kwm yC_setOf bC_setOf 3 (some .int)) ({ frames := 1, cells := 0, slots := 0, locals := 23 }) D kcl (kty k) (wC k ah ar ac c h) (wC k ah ar ac c h) [.ref (ac 0), .int room, .int hour] (rC_setOf c h room hour) := by
  refine k_entry_i (lv0 := [(0, .ref (ac 0)), (1, .int room), (2, .int hour)]) rfl (by decide +kernel) (Nat.le_of_ble_eq_true rfl) rfl ?_
  intro p e s m args below meth c0 C hr hlocks
  refine kw_iload_n C 1 dC_setOf_0 rfl rfl ?_
  refine kw_aload_n C 0 dC_setOf_1 rfl rfl ?_
  refine kw_get (v := .int (c_setRoom c)) C 0 rfl rfl ku_C 12 (by decide) kt_144 rfl dC_setOf_2 ?_
  refine kw_icmp_ne (tgt := 26) C dC_setOf_5 (by decide) (fun c_1 => ?_) (fun c_1 => ?_)
  · skip
    refine kw_aload_n C 0 dC_setOf_26 rfl rfl ?_
    refine kw_iconst (v := 1) C dC_setOf_27 (by decide) ?_
    refine kw_iload_n C 1 dC_setOf_28 rfl rfl ?_
    refine kw_iload_n C 2 dC_setOf_29 rfl rfl ?_
    refine kw_callAi (w1 := (wC k ah ar ac c h)) (st := []) C (cC_planned l D k ah ar ac c h 1 room hour (by unfold vp_in; decide) hp) (cwV 3 C.1.2.2.2.2 (kgV kt_446 kt_448 ks_C_planned kt_4 kt_449) rfl rfl rfl kdC_planned ⟨Nat.le_of_ble_eq_true rfl, Nat.le_of_ble_eq_true rfl⟩) 0 0 rfl rfl rfl rfl rfl (Nat.le_of_ble_eq_true rfl) dC_setOf_30 ⟨Nat.zero_le _, Nat.zero_le _⟩ (ad_wC.trans ad_wC.symm) ?_
    exact kw_iret C hr hlocks (by unfold rC_setOf; rw [if_neg c_1]) dC_setOf_33
  · skip
    refine kw_aload_n C 0 dC_setOf_8 rfl rfl ?_
    refine kw_get (v := .int (c_over c)) C 0 rfl rfl ku_C 1 (by decide) kt_123 rfl dC_setOf_9 ?_
    refine kw_aload_n C 0 dC_setOf_12 rfl rfl ?_
    refine kw_get (v := .int (c_setFrom c)) C 0 rfl rfl ku_C 14 (by decide) kt_146 rfl dC_setOf_13 ?_
    refine kw_icmp_lt (tgt := 26) C dC_setOf_16 (by decide) (fun c_2 => ?_) (fun c_2 => ?_)
    · skip
      refine kw_aload_n C 0 dC_setOf_26 rfl rfl ?_
      refine kw_iconst (v := 1) C dC_setOf_27 (by decide) ?_
      refine kw_iload_n C 1 dC_setOf_28 rfl rfl ?_
      refine kw_iload_n C 2 dC_setOf_29 rfl rfl ?_
      refine kw_callAi (w1 := (wC k ah ar ac c h)) (st := []) C (cC_planned l D k ah ar ac c h 1 room hour (by unfold vp_in; decide) hp) (cwV 3 C.1.2.2.2.2 (kgV kt_446 kt_448 ks_C_planned kt_4 kt_449) rfl rfl rfl kdC_planned ⟨Nat.le_of_ble_eq_true rfl, Nat.le_of_ble_eq_true rfl⟩) 0 0 rfl rfl rfl rfl rfl (Nat.le_of_ble_eq_true rfl) dC_setOf_30 ⟨Nat.zero_le _, Nat.zero_le _⟩ (ad_wC.trans ad_wC.symm) ?_
      exact kw_iret C hr hlocks (by unfold rC_setOf; rw [if_pos c_1, if_pos c_2]) dC_setOf_33
    · skip
      refine kw_aload_n C 0 dC_setOf_19 rfl rfl ?_
      refine kw_get (v := .int (c_setTried c)) C 0 rfl rfl ku_C 13 (by decide) kt_145 rfl dC_setOf_20 ?_
      refine kw_goto (tgt := 33) C dC_setOf_23 (by decide) ?_
      exact kw_iret C hr hlocks (by unfold rC_setOf; rw [if_pos c_1, if_neg c_2]) dC_setOf_33
