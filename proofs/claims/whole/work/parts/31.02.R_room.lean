noncomputable def rR_room (c : CS) (t : CS) (h : HS) (store : Int32) (warmth : Int32) : Int32 := if (rR_isWithin store 1 10000) = 0 then 0 else (if (rR_isWarmth warmth) = 0 then 0 else (if (h_rooms h) < 8 then (rH_addRoom h store) else 0))
noncomputable def scR_room (c : CS) (t : CS) (h : HS) (store : Int32) (warmth : Int32) : CS := if (rR_isWithin store 1 10000) = 0 then c else (if (rR_isWarmth warmth) = 0 then c else (if (h_rooms h) < 8 then (scC_beginRoom c (shH_addRoom h store) (rH_addRoom h store) (store.toInt64 * warmth.toInt64)) else c))
noncomputable def shR_room (c : CS) (t : CS) (h : HS) (store : Int32) (warmth : Int32) : HS := if (rR_isWithin store 1 10000) = 0 then h else (if (rR_isWarmth warmth) = 0 then h else (if (h_rooms h) < 8 then (shH_addRoom h store) else h))
set_option maxRecDepth 100000 in
set_option maxHeartbeats 4000000 in
theorem cR_room (l : Launch) (D : va_G) (k : Nat → ClassId) (ah : Nat → Nat) (ar : Nat → Nat → Nat) (ac ax : Nat → Nat) (a : Nat) (c t : CS) (h : HS) (store : Int32) (warmth : Int32) (hl9 : l.stackTraces = false) (hI : kInv h) : kNi l yR_room (kwm yR_room bR_room 4 (some .int)) ({ frames := 6, cells := 1, slots := 6, locals := 82 }) D kcl (kty k) (wR k ah ar ac ax a c t h) (wR k ah ar ac ax a (scR_room c t h store warmth) t (shR_room c t h store warmth)) [.ref a, .int store, .int warmth] (oR_room c t h store warmth) (rR_room c t h store warmth) := by
  refine k_enX_i (lv0 := [(0, .ref a), (1, .int store), (2, .int warmth)]) rfl (by decide +kernel) (Nat.le_of_ble_eq_true rfl) rfl ?_
  intro p e s m args below meth c0 C hr hlocks hEx hE hZ
  refine kw_iload_n C 1 dR_room_0 rfl rfl ?_
  refine kw_iconst (v := 1) C dR_room_1 (by decide) ?_
  refine kw_sipush (v := 10000) C dR_room_2 (by decide) ?_
  refine kw_callSi (st := []) C (cR_isWithin l D k store 1 10000) (va_cwS 3 C.1.2.2.2.2 (kgO kt_208 kt_209 kt_1 kt_210) rfl rfl rfl kdR_isWithin ⟨Nat.le_of_ble_eq_true rfl, Nat.le_of_ble_eq_true rfl⟩) [] rfl rfl rfl rfl (Nat.le_of_ble_eq_true rfl) dR_room_5 ⟨Nat.zero_le _, Nat.zero_le _⟩ rfl (wR k ah ar ac ax a c t h) rfl ?_
  refine kw_if_eq (tgt := 18) C dR_room_8 (by decide) (fun c_1 => ?_) (fun c_1 => ?_)
  · skip
    exact kx_throwIAE hl9 C hlocks hEx hE hZ (by unfold oR_room; rw [if_pos c_1]) 38 "no such store or warmth" (by decide +kernel) dR_room_18 dR_room_21 dR_room_22 dR_room_24 dR_room_27 (Nat.le_of_ble_eq_true rfl) (Nat.le_of_ble_eq_true rfl) (Nat.le_of_ble_eq_true rfl) (Nat.le_of_ble_eq_true rfl)
  · skip
    refine kw_iload_n C 2 dR_room_11 rfl rfl ?_
    refine kw_callSi (st := []) C (cR_isWarmth l D k warmth) (va_cwS 1 C.1.2.2.2.2 (kgO kt_211 kt_212 kt_1 kt_213) rfl rfl rfl kdR_isWarmth ⟨Nat.le_of_ble_eq_true rfl, Nat.le_of_ble_eq_true rfl⟩) [] rfl rfl rfl rfl (Nat.le_of_ble_eq_true rfl) dR_room_12 ⟨Nat.zero_le _, Nat.zero_le _⟩ rfl (wR k ah ar ac ax a c t h) rfl ?_
    refine kw_if_ne (tgt := 28) C dR_room_15 (by decide) (fun c_2 => ?_) (fun c_2 => ?_)
    · skip
      refine kw_aload_n C 0 dR_room_28 rfl rfl ?_
      refine kw_get (v := .ref (ah 0)) C 0 rfl rfl ku_R 0 (by decide) kt_189 rfl dR_room_29 ?_
      refine kw_get (v := .int (h_rooms h)) C 8 rfl rfl ku_H 0 (by decide) kt_34 rfl dR_room_32 ?_
      refine kw_bipush (v := 8) C dR_room_35 (by decide) ?_
      refine kw_icmp_lt (tgt := 50) C dR_room_37 (by decide) (fun c_3 => ?_) (fun c_3 => ?_)
      · skip
        refine kw_aload_n C 0 dR_room_50 rfl rfl ?_
        refine kw_get (v := .ref (ah 0)) C 0 rfl rfl ku_R 0 (by decide) kt_189 rfl dR_room_51 ?_
        refine kw_iload_n C 1 dR_room_54 rfl rfl ?_
        refine kw_callPi (ws' := (wR k ah ar ac ax a c t (shH_addRoom h store))) (st := []) C (cH_addRoom l D k ah ar h store (krooms8 hI c_3)) (cwV 1 C.1.2.2.2.2 (kgV kt_297 kt_298 kt_299 kt_2 kt_300) rfl rfl rfl kdH_addRoom ⟨Nat.le_of_ble_eq_true rfl, Nat.le_of_ble_eq_true rfl⟩) [8, 9, 10, 11, 12, 13, 14, 15, 16, 17, 18, 19, 20, 21, 22, 23, 24, 25, 26, 27, 28, 29, 30] [0, 1, 2, 3, 4, 5, 6, 7, 31, 32, 33, 34, 35, 36, 37] [0, 1, 2, 3, 4, 5, 6, 7, 15, 16, 17, 18, 19, 20, 21, 22, 23, 24, 25, 26, 27, 28, 29, 30, 31, 32, 33, 34, 35, 36, 37, 8, 9, 10, 11, 12, 13, 14] chR_H rhR_H ppR_H (by decide) (by decide) (by decide) (by decide) 0 1 rfl rfl rfl rfl rfl (Nat.le_of_ble_eq_true rfl) dR_room_55 ⟨Nat.zero_le _, Nat.zero_le _⟩ ?_
        refine kw_istore_n (lv' := [(3, .int (rH_addRoom h store)), (0, .ref a), (1, .int store), (2, .int warmth)]) C dR_room_58 rfl (by decide) rfl ?_
        refine kw_aload_n C 1 dR_room_59 rfl rfl ?_
        refine kw_get (v := .ref (ac 0)) C 0 rfl rfl ku_R 1 (by decide) kt_190 rfl dR_room_60 ?_
        refine kw_iload_n C 0 dR_room_63 rfl rfl ?_
        refine kw_iload_n C 2 dR_room_64 rfl rfl ?_
        refine kw_i2l C dR_room_65 ?_
        refine kw_iload_n C 3 dR_room_66 rfl rfl ?_
        refine kw_i2l C dR_room_67 ?_
        refine kw_lmul C dR_room_68 ?_
        refine kw_callPv (ws' := (wR k ah ar ac ax a (scC_beginRoom c (shH_addRoom h store) (rH_addRoom h store) (store.toInt64 * warmth.toInt64)) t (shH_addRoom h store))) (st := []) C (cC_beginRoom l D k ah ar ac c (shH_addRoom h store) (rH_addRoom h store) (store.toInt64 * warmth.toInt64) (krooms8 hI c_3)) (cwV 2 C.1.2.2.2.2 (kgV kt_301 kt_302 kt_303 kt_4 kt_304) rfl rfl rfl kdC_beginRoom ⟨Nat.le_of_ble_eq_true rfl, Nat.le_of_ble_eq_true rfl⟩) [1, 2, 3, 4, 5, 6, 7, 8, 9, 10, 11, 12, 13, 14, 15, 16, 17, 18, 19, 20, 21, 22, 23, 24, 25, 26, 27, 28, 29, 30] [0, 31, 32, 33, 34, 35, 36, 37] [0, 8, 9, 10, 11, 12, 13, 14, 15, 16, 17, 18, 19, 20, 21, 22, 23, 24, 25, 26, 27, 28, 29, 30, 31, 32, 33, 34, 35, 36, 37, 1, 2, 3, 4, 5, 6, 7] chR_C rhR_C ppR_C (by decide) (by decide) (by decide) (by decide) 0 0 rfl rfl rfl rfl rfl (Nat.le_of_ble_eq_true rfl) dR_room_69 ⟨Nat.zero_le _, Nat.zero_le _⟩ ?_
        refine kw_iload_n C 0 dR_room_72 rfl rfl ?_
        refine kw_eq rfl rfl ((kc2 (f := fun z90 z91 => wR k ah ar ac ax a z90 t z91) (show (scC_beginRoom c (shH_addRoom h store) (rH_addRoom h store) (store.toInt64 * warmth.toInt64)) = scR_room c t h store warmth from by unfold scR_room; rw [if_neg c_1, if_neg c_2, if_pos c_3]) (show (shH_addRoom h store) = shR_room c t h store warmth from by unfold shR_room; rw [if_neg c_1, if_neg c_2, if_pos c_3]))) ?_
        exact kx_iret C hr hlocks (by unfold oR_room; rw [if_neg c_1, if_neg c_2, if_pos c_3]) (by unfold rR_room; rw [if_neg c_1, if_neg c_2, if_pos c_3]) dR_room_73
      · skip
        exact kx_throwISE hl9 C hlocks hEx hE hZ (by unfold oR_room; rw [if_neg c_1, if_neg c_2, if_neg c_3]) 49 "there are 8 rooms" (by decide +kernel) dR_room_40 dR_room_43 dR_room_44 dR_room_46 dR_room_49 (Nat.le_of_ble_eq_true rfl) (Nat.le_of_ble_eq_true rfl) (Nat.le_of_ble_eq_true rfl) (Nat.le_of_ble_eq_true rfl)
    · skip
      exact kx_throwIAE hl9 C hlocks hEx hE hZ (by unfold oR_room; rw [if_neg c_1, if_pos c_2]) 38 "no such store or warmth" (by decide +kernel) dR_room_18 dR_room_21 dR_room_22 dR_room_24 dR_room_27 (Nat.le_of_ble_eq_true rfl) (Nat.le_of_ble_eq_true rfl) (Nat.le_of_ble_eq_true rfl) (Nat.le_of_ble_eq_true rfl)
