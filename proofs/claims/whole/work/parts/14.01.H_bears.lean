def rH_bears (h : HS) (room : Int32) (more : Int32) : Int32 := if (rH_hasRoom h room) = 0 then 1 else (if (100 * ((h_stores h) room.toNatClampNeg)) < (((h_leadsAt h) room.toNatClampNeg) + more) then 0 else 1)
set_option maxRecDepth 100000 in
set_option maxHeartbeats 4000000 in
theorem cH_bears (l : Launch) (D : va_G) (k : Nat → ClassId) (ah : Nat → Nat) (ar : Nat → Nat → Nat) (h : HS) (room : Int32) (more : Int32) (hI : kInv h) : kMi l yH_bears (kwm yH_bears bH_bears 3 (some .boolean)) ({ frames := 1, cells := 0, slots := 0, locals := 21 }) D kcl (kty k) (wH k ah ar h) (wH k ah ar h) [.ref (ah 0), .int room, .int more] (rH_bears h room more) := by
  refine k_entry_i (lv0 := [(0, .ref (ah 0)), (1, .int room), (2, .int more)]) rfl (by decide +kernel) (Nat.le_of_ble_eq_true rfl) rfl ?_
  intro p e s m args below meth c0 C hr hlocks
  refine kw_aload_n C 0 dH_bears_0 rfl rfl ?_
  refine kw_iload_n C 1 dH_bears_1 rfl rfl ?_
  refine kw_callAi (w1 := (wH k ah ar h)) (st := []) C (cH_hasRoom l D k ah ar h room) (cwV 1 C.1.2.2.2.2 (kgV kt_322 kt_313 kt_314 kt_2 kt_315) rfl rfl rfl kdH_hasRoom ⟨Nat.le_of_ble_eq_true rfl, Nat.le_of_ble_eq_true rfl⟩) 0 1 rfl rfl rfl rfl rfl (Nat.le_of_ble_eq_true rfl) dH_bears_2 ⟨Nat.zero_le _, Nat.zero_le _⟩ (ad_wH.trans ad_wH.symm) ?_
  refine kw_if_eq (tgt := 28) C dH_bears_5 (by decide) (fun c_1 => ?_) (fun c_1 => ?_)
  · skip
    refine kw_iconst (v := 1) C dH_bears_28 (by decide) ?_
    refine kw_goto (tgt := 33) C dH_bears_29 (by decide) ?_
    exact kw_zret C hr hlocks (by unfold rH_bears; rw [if_pos c_1]) rfl dH_bears_33
  · skip
    refine kw_aload_n C 0 dH_bears_8 rfl rfl ?_
    refine kw_get (v := .ref (ah 2)) C 0 rfl rfl ku_H 2 (by decide) kt_38 rfl dH_bears_9 ?_
    refine kw_iload_n C 1 dH_bears_12 rfl rfl ?_
    refine kw_iald C 2 0 rfl rfl (kix_of (kin_le (khas hI c_1) hI.1.2)) dH_bears_13 ?_
    refine kw_iload_n C 2 dH_bears_14 rfl rfl ?_
    refine kw_iadd C dH_bears_15 ?_
    refine kw_bipush (v := 100) C dH_bears_16 (by decide) ?_
    refine kw_aload_n C 0 dH_bears_18 rfl rfl ?_
    refine kw_get (v := .ref (ah 1)) C 0 rfl rfl ku_H 1 (by decide) kt_36 rfl dH_bears_19 ?_
    refine kw_iload_n C 1 dH_bears_22 rfl rfl ?_
    refine kw_iald C 1 0 rfl rfl (kix_of (kin_le (khas hI c_1) hI.1.2)) dH_bears_23 ?_
    refine kw_imul C dH_bears_24 ?_
    refine kw_icmp_gt (tgt := 32) C dH_bears_25 (by decide) (fun c_2 => ?_) (fun c_2 => ?_)
    · skip
      refine kw_iconst (v := 0) C dH_bears_32 (by decide) ?_
      exact kw_zret C hr hlocks (by unfold rH_bears; rw [if_neg c_1, if_pos c_2]) rfl dH_bears_33
    · skip
      refine kw_iconst (v := 1) C dH_bears_28 (by decide) ?_
      refine kw_goto (tgt := 33) C dH_bears_29 (by decide) ?_
      exact kw_zret C hr hlocks (by unfold rH_bears; rw [if_neg c_1, if_neg c_2]) rfl dH_bears_33
theorem kzb_H_bears {h : HS} {room : Int32} {more : Int32} : narrow .boolean (.int (rH_bears h room more)) = .int (rH_bears h room more) := by
  unfold rH_bears
  (repeat' split) <;> first | rfl | apply kzb_R_isWithin | apply kzb_R_isWarmth | apply kzb_R_isHour | apply kzb_R_isSide | apply kzb_R_isPlan | apply kzb_C_hourEnds | apply kzb_C_hasPersons | apply kzb_H_hasRoom
