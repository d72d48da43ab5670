noncomputable def scC_coolDown (c : CS) (h : HS) (room : Int32) (hour : Int32) : CS := if (rC_planned c h 2 room hour) = (-1000000) then c else (if 0 < (lg_cmp (((c_heat c) room.toNatClampNeg) - ((((h_stores h) room.toNatClampNeg).toInt64) * ((rC_planned c h 2 room hour).toInt64))) 0) then ((c_over c), (c_setRoom c), (c_setTried c), (c_setFrom c), (c_mostRoom c), (c_mostTried c), (c_fellShort c), (c_begun c), (c_fromSun c), (c_fromPersons c), (c_goneOut c), (vp_updL (c_heat c) room.toNatClampNeg (((c_heat c) room.toNatClampNeg) - (if ((((h_mosts h) 1) room.toNatClampNeg).toInt64) < (((c_heat c) room.toNatClampNeg) - ((((h_stores h) room.toNatClampNeg).toInt64) * ((rC_planned c h 2 room hour).toInt64))) then ((((h_mosts h) 1) room.toNatClampNeg).toInt64) else (((c_heat c) room.toNatClampNeg) - ((((h_stores h) room.toNatClampNeg).toInt64) * ((rC_planned c h 2 room hour).toInt64)))))), (c_warmth c), (c_given c), (vp_updL (c_taken c) room.toNatClampNeg (((c_taken c) room.toNatClampNeg) + (if ((((h_mosts h) 1) room.toNatClampNeg).toInt64) < (((c_heat c) room.toNatClampNeg) - ((((h_stores h) room.toNatClampNeg).toInt64) * ((rC_planned c h 2 room hour).toInt64))) then ((((h_mosts h) 1) room.toNatClampNeg).toInt64) else (((c_heat c) room.toNatClampNeg) - ((((h_stores h) room.toNatClampNeg).toInt64) * ((rC_planned c h 2 room hour).toInt64)))))), (c_greatest c), (c_uneasy c)) else c)
set_option maxRecDepth 100000 in
set_option maxHeartbeats 4000000 in
theorem cC_coolDown (l : Launch) (D : va_G) (k : Nat → ClassId) (ah : Nat → Nat) (ar : Nat → Nat → Nat) (ac : Nat → Nat) (c : CS) (h : HS) (room : Int32) (hour : Int32) (hr8 : vp_in room 8) (hp : vp_in (room * 24 + hour) 192) : kMv l yC_coolDown (kwm yC_coolDown bC_coolDown 8 none) ({ frames := 1, cells := 0, slots := 0, locals := 23 }) D kcl (kty k) (wC k ah ar ac c h) (wC k ah ar ac (scC_coolDown c h room hour) h) [.ref (ac 0), .int room, .int hour] := by
  refine k_entry_v (lv0 := [(0, .ref (ac 0)), (1, .int room), (2, .int hour)]) rfl (by decide +kernel) (Nat.le_of_ble_eq_true rfl) rfl ?_
  intro p e s m args below meth c0 C hr hlocks
  refine kw_aload_n C 0 dC_coolDown_0 rfl rfl ?_
  refine kw_iconst (v := 2) C dC_coolDown_1 (by decide) ?_
  refine kw_iload_n C 1 dC_coolDown_2 rfl rfl ?_
  refine kw_iload_n C 2 dC_coolDown_3 rfl rfl ?_
  refine kw_callAi (w1 := (wC k ah ar ac c h)) (st := []) C (cC_planned l D k ah ar ac c h 2 room hour (by unfold vp_in; decide) hp) (cwV 3 C.1.2.2.2.2 (kgV kt_446 kt_448 ks_C_planned kt_4 kt_449) rfl rfl rfl kdC_planned ⟨Nat.le_of_ble_eq_true rfl, Nat.le_of_ble_eq_true rfl⟩) 0 0 rfl rfl rfl rfl rfl (Nat.le_of_ble_eq_true rfl) dC_coolDown_4 ⟨Nat.zero_le _, Nat.zero_le _⟩ (ad_wC.trans ad_wC.symm) ?_
  refine kw_istore_n (lv' := [(3, .int (rC_planned c h 2 room hour)), (0, .ref (ac 0)), (1, .int room), (2, .int hour)]) C dC_coolDown_7 rfl (by decide) rfl ?_
  refine kw_iload_n C 0 dC_coolDown_8 rfl rfl ?_
  refine kw_ldc (v := -1000000) C kt_458 dC_coolDown_9 ?_
  refine kw_icmp_ne (tgt := 15) C dC_coolDown_11 (by decide) (fun c_1 => ?_) (fun c_1 => ?_)
  · skip
    refine kw_aload_n C 1 dC_coolDown_15 rfl rfl ?_
    refine kw_get (v := .ref (ac 1)) C 0 rfl rfl ku_C 2 (by decide) kt_125 rfl dC_coolDown_16 ?_
    refine kw_iload_n C 2 dC_coolDown_19 rfl rfl ?_
    refine kw_lald C 1 1 rfl rfl (kix_of hr8) dC_coolDown_20 ?_
    refine kw_aload_n C 1 dC_coolDown_21 rfl rfl ?_
    refine kw_get (v := .ref (ah 0)) C 0 rfl rfl ku_C 0 (by decide) kt_122 rfl dC_coolDown_22 ?_
    refine kw_get (v := .ref (ah 1)) C 7 rfl rfl ku_H 1 (by decide) kt_37 rfl dC_coolDown_25 ?_
    refine kw_iload_n C 2 dC_coolDown_28 rfl rfl ?_
    refine kw_iald C 8 0 rfl rfl (kix_of hr8) dC_coolDown_29 ?_
    refine kw_i2l C dC_coolDown_30 ?_
    refine kw_iload_n C 0 dC_coolDown_31 rfl rfl ?_
    refine kw_i2l C dC_coolDown_32 ?_
    refine kw_lmul C dC_coolDown_33 ?_
    refine kw_lsub C dC_coolDown_34 ?_
    refine kw_lstore (lv' := [(4, .long (((c_heat c) room.toNatClampNeg) - ((((h_stores h) room.toNatClampNeg).toInt64) * ((rC_planned c h 2 room hour).toInt64)))), (3, .int (rC_planned c h 2 room hour)), (0, .ref (ac 0)), (1, .int room), (2, .int hour)]) C dC_coolDown_35 (by decide) rfl ?_
    refine kw_lload C 0 dC_coolDown_37 rfl ?_
    refine kw_lconst (v := 0) C dC_coolDown_39 (by decide) ?_
    refine kw_lcmp C dC_coolDown_40 ?_
    refine kw_if_gt (tgt := 45) C dC_coolDown_41 (by decide) (fun c_2 => ?_) (fun c_2 => ?_)
    · skip
      refine kw_lload C 0 dC_coolDown_45 rfl ?_
      refine kw_aload_n C 2 dC_coolDown_47 rfl rfl ?_
      refine kw_get (v := .ref (ah 0)) C 0 rfl rfl ku_C 0 (by decide) kt_122 rfl dC_coolDown_48 ?_
      refine kw_get (v := .ref (ah 3)) C 7 rfl rfl ku_H 3 (by decide) kt_41 rfl dC_coolDown_51 ?_
      refine kw_iconst (v := 1) C dC_coolDown_54 (by decide) ?_
      refine kw_aldA (b := ar 0 1) C 18 2 rfl rfl (show kix 1 2 1 from ⟨by unfold vp_in; decide, by decide⟩) rfl dC_coolDown_55 ?_
      refine kw_iload_n C 3 dC_coolDown_56 rfl rfl ?_
      refine kw_iald C 20 0 rfl rfl (kix_of hr8) dC_coolDown_57 ?_
      refine kw_i2l C dC_coolDown_58 ?_
      refine kw_mmin_long C kt_463 kt_464 kt_11 kt_465 (Nat.le_of_ble_eq_true rfl) (Nat.le_of_ble_eq_true rfl) (Nat.zero_le _) (Nat.zero_le _) dC_coolDown_59 ?_
      refine kw_lstore (lv' := [(6, .long (if ((((h_mosts h) 1) room.toNatClampNeg).toInt64) < (((c_heat c) room.toNatClampNeg) - ((((h_stores h) room.toNatClampNeg).toInt64) * ((rC_planned c h 2 room hour).toInt64))) then ((((h_mosts h) 1) room.toNatClampNeg).toInt64) else (((c_heat c) room.toNatClampNeg) - ((((h_stores h) room.toNatClampNeg).toInt64) * ((rC_planned c h 2 room hour).toInt64))))), (4, .long (((c_heat c) room.toNatClampNeg) - ((((h_stores h) room.toNatClampNeg).toInt64) * ((rC_planned c h 2 room hour).toInt64)))), (3, .int (rC_planned c h 2 room hour)), (0, .ref (ac 0)), (1, .int room), (2, .int hour)]) C dC_coolDown_62 (by decide) rfl ?_
      refine kw_aload_n C 3 dC_coolDown_64 rfl rfl ?_
      refine kw_get (v := .ref (ac 1)) C 0 rfl rfl ku_C 2 (by decide) kt_125 rfl dC_coolDown_65 ?_
      refine kw_iload_n C 4 dC_coolDown_68 rfl rfl ?_
      refine kw_dup2_11 C dC_coolDown_69 rfl rfl ?_
      refine kw_lald C 1 1 rfl rfl (kix_of hr8) dC_coolDown_70 ?_
      refine kw_lload C 0 dC_coolDown_71 rfl ?_
      refine kw_lsub C dC_coolDown_73 ?_
      refine kw_last C 1 1 rfl rfl (kix_of hr8) dC_coolDown_74 (wC_c k ah ar ac (c_over c) (c_setRoom c) (c_setTried c) (c_setFrom c) (c_mostRoom c) (c_mostTried c) (c_fellShort c) (c_begun c) (c_fromSun c) (c_fromPersons c) (c_goneOut c) (vp_updL (c_heat c) room.toNatClampNeg (((c_heat c) room.toNatClampNeg) - (if ((((h_mosts h) 1) room.toNatClampNeg).toInt64) < (((c_heat c) room.toNatClampNeg) - ((((h_stores h) room.toNatClampNeg).toInt64) * ((rC_planned c h 2 room hour).toInt64))) then ((((h_mosts h) 1) room.toNatClampNeg).toInt64) else (((c_heat c) room.toNatClampNeg) - ((((h_stores h) room.toNatClampNeg).toInt64) * ((rC_planned c h 2 room hour).toInt64)))))) (c_warmth c) (c_given c) (c_taken c) (c_greatest c) (c_uneasy c) h) rfl ?_
      refine kw_aload_n C 3 dC_coolDown_75 rfl rfl ?_
      refine kw_get (v := .ref (ac 4)) C 0 rfl rfl ku_C 5 (by decide) kt_130 rfl dC_coolDown_76 ?_
      refine kw_iload_n C 4 dC_coolDown_79 rfl rfl ?_
      refine kw_dup2_11 C dC_coolDown_80 rfl rfl ?_
      refine kw_lald C 4 1 rfl rfl (kix_of hr8) dC_coolDown_81 ?_
      refine kw_lload C 0 dC_coolDown_82 rfl ?_
      refine kw_ladd C dC_coolDown_84 ?_
      refine kw_last C 4 1 rfl rfl (kix_of hr8) dC_coolDown_85 (wC_c k ah ar ac (c_over c) (c_setRoom c) (c_setTried c) (c_setFrom c) (c_mostRoom c) (c_mostTried c) (c_fellShort c) (c_begun c) (c_fromSun c) (c_fromPersons c) (c_goneOut c) (vp_updL (c_heat c) room.toNatClampNeg (((c_heat c) room.toNatClampNeg) - (if ((((h_mosts h) 1) room.toNatClampNeg).toInt64) < (((c_heat c) room.toNatClampNeg) - ((((h_stores h) room.toNatClampNeg).toInt64) * ((rC_planned c h 2 room hour).toInt64))) then ((((h_mosts h) 1) room.toNatClampNeg).toInt64) else (((c_heat c) room.toNatClampNeg) - ((((h_stores h) room.toNatClampNeg).toInt64) * ((rC_planned c h 2 room hour).toInt64)))))) (c_warmth c) (c_given c) (vp_updL (c_taken c) room.toNatClampNeg (((c_taken c) room.toNatClampNeg) + (if ((((h_mosts h) 1) room.toNatClampNeg).toInt64) < (((c_heat c) room.toNatClampNeg) - ((((h_stores h) room.toNatClampNeg).toInt64) * ((rC_planned c h 2 room hour).toInt64))) then ((((h_mosts h) 1) room.toNatClampNeg).toInt64) else (((c_heat c) room.toNatClampNeg) - ((((h_stores h) room.toNatClampNeg).toInt64) * ((rC_planned c h 2 room hour).toInt64)))))) (c_greatest c) (c_uneasy c) h) rfl ?_
      refine kw_eq rfl rfl (mk_wC_c.trans (congrArg (fun z90 => wC k ah ar ac z90 h) (show ((c_over c), (c_setRoom c), (c_setTried c), (c_setFrom c), (c_mostRoom c), (c_mostTried c), (c_fellShort c), (c_begun c), (c_fromSun c), (c_fromPersons c), (c_goneOut c), (vp_updL (c_heat c) room.toNatClampNeg (((c_heat c) room.toNatClampNeg) - (if ((((h_mosts h) 1) room.toNatClampNeg).toInt64) < (((c_heat c) room.toNatClampNeg) - ((((h_stores h) room.toNatClampNeg).toInt64) * ((rC_planned c h 2 room hour).toInt64))) then ((((h_mosts h) 1) room.toNatClampNeg).toInt64) else (((c_heat c) room.toNatClampNeg) - ((((h_stores h) room.toNatClampNeg).toInt64) * ((rC_planned c h 2 room hour).toInt64)))))), (c_warmth c), (c_given c), (vp_updL (c_taken c) room.toNatClampNeg (((c_taken c) room.toNatClampNeg) + (if ((((h_mosts h) 1) room.toNatClampNeg).toInt64) < (((c_heat c) room.toNatClampNeg) - ((((h_stores h) room.toNatClampNeg).toInt64) * ((rC_planned c h 2 room hour).toInt64))) then ((((h_mosts h) 1) room.toNatClampNeg).toInt64) else (((c_heat c) room.toNatClampNeg) - ((((h_stores h) room.toNatClampNeg).toInt64) * ((rC_planned c h 2 room hour).toInt64)))))), (c_greatest c), (c_uneasy c)) = scC_coolDown c h room hour from by unfold scC_coolDown; rw [if_neg c_1, if_pos c_2]))) ?_
      exact kw_vret C hr hlocks dC_coolDown_86
    · skip
      refine kw_eq rfl rfl ((congrArg (fun z90 => wC k ah ar ac z90 h) (show c = scC_coolDown c h room hour from by unfold scC_coolDown; rw [if_neg c_1, if_neg c_2]))) ?_
      exact kw_vret C hr hlocks dC_coolDown_44
  · skip
    refine kw_eq rfl rfl ((congrArg (fun z90 => wC k ah ar ac z90 h) (show c = scC_coolDown c h room hour from by unfold scC_coolDown; rw [if_pos c_1]))) ?_
    exact kw_vret C hr hlocks dC_coolDown_14
