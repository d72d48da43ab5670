noncomputable def rR_most (c : CS) (t : CS) (h : HS) (room : Int32) (what : Int32) (v : Int32) : Int32 := if (rH_hasRoom h room) = 0 then 0 else (if (rR_isWithin what 0 1) = 0 then 0 else (if (rR_isWithin v 0 1000000) = 0 then 0 else ((h_mosts h) what.toNatClampNeg) room.toNatClampNeg))
noncomputable def shR_most (c : CS) (t : CS) (h : HS) (room : Int32) (what : Int32) (v : Int32) : HS := if (rH_hasRoom h room) = 0 then h else (if (rR_isWithin what 0 1) = 0 then h else (if (rR_isWithin v 0 1000000) = 0 then h else ((h_rooms h), (h_walls h), (h_windows h), (h_low h), (h_high h), (h_stores h), (h_leadsAt h), (va_up (h_mosts h) what.toNatClampNeg (upd ((h_mosts h) what.toNatClampNeg) room.toNatClampNeg v)), (h_plans h), (h_wallFrom h), (h_wallTo h), (h_wallLeads h), (h_windowRoom h), (h_windowSide h), (h_windowArea h), (h_windowLimit h), (h_outsides h), (h_suns h))))
set_option maxRecDepth 100000 in
set_option maxHeartbeats 4000000 in
theorem cR_most (l : Launch) (D : va_G) (k : Nat → ClassId) (ah : Nat → Nat) (ar : Nat → Nat → Nat) (ac ax : Nat → Nat) (a : Nat) (c t : CS) (h : HS) (room : Int32) (what : Int32) (v : Int32) (hl9 : l.stackTraces = false) (hI : kInv h) : kNi l yR_most (kwm yR_most bR_most 5 (some .int)) ({ frames := 6, cells := 1, slots := 6, locals := 82 }) D kcl (kty k) (wR k ah ar ac ax a c t h) (wR k ah ar ac ax a c t (shR_most c t h room what v)) [.ref a, .int room, .int what, .int v] (oR_most c t h room what v) (rR_most c t h room what v) := by
  refine k_enX_i (lv0 := [(0, .ref a), (1, .int room), (2, .int what), (3, .int v)]) rfl (by decide +kernel) (Nat.le_of_ble_eq_true rfl) rfl ?_
  intro p e s m args below meth c0 C hr hlocks hEx hE hZ
  refine kw_aload_n C 0 dR_most_0 rfl rfl ?_
  refine kw_get (v := .ref (ah 0)) C 0 rfl rfl ku_R 0 (by decide) kt_189 rfl dR_most_1 ?_
  refine kw_iload_n C 1 dR_most_4 rfl rfl ?_
  refine kw_callPi (ws' := (wR k ah ar ac ax a c t h)) (st := []) C (cH_hasRoom l D k ah ar h room) (cwV 1 C.1.2.2.2.2 (kgV kt_312 kt_313 kt_314 kt_2 kt_315) rfl rfl rfl kdH_hasRoom ⟨Nat.le_of_ble_eq_true rfl, Nat.le_of_ble_eq_true rfl⟩) [8, 9, 10, 11, 12, 13, 14, 15, 16, 17, 18, 19, 20, 21, 22, 23, 24, 25, 26, 27, 28, 29, 30] [0, 1, 2, 3, 4, 5, 6, 7, 31, 32, 33, 34, 35, 36, 37] [0, 1, 2, 3, 4, 5, 6, 7, 15, 16, 17, 18, 19, 20, 21, 22, 23, 24, 25, 26, 27, 28, 29, 30, 31, 32, 33, 34, 35, 36, 37, 8, 9, 10, 11, 12, 13, 14] chR_H rhR_H ppR_H (by decide) (by decide) (by decide) (by decide) 0 1 rfl rfl rfl rfl rfl (Nat.le_of_ble_eq_true rfl) dR_most_5 ⟨Nat.zero_le _, Nat.zero_le _⟩ ?_
  refine kw_if_eq (tgt := 30) C dR_most_8 (by decide) (fun c_1 => ?_) (fun c_1 => ?_)
  · skip
    exact kx_throwIAE hl9 C hlocks hEx hE hZ (by unfold oR_most; rw [if_pos c_1]) 139 "no such room or most" (by decide +kernel) dR_most_30 dR_most_33 dR_most_34 dR_most_36 dR_most_39 (Nat.le_of_ble_eq_true rfl) (Nat.le_of_ble_eq_true rfl) (Nat.le_of_ble_eq_true rfl) (Nat.le_of_ble_eq_true rfl)
  · skip
    refine kw_iload_n C 2 dR_most_11 rfl rfl ?_
    refine kw_iconst (v := 0) C dR_most_12 (by decide) ?_
    refine kw_iconst (v := 1) C dR_most_13 (by decide) ?_
    refine kw_callSi (st := []) C (cR_isWithin l D k what 0 1) (va_cwS 3 C.1.2.2.2.2 (kgO kt_208 kt_209 kt_1 kt_210) rfl rfl rfl kdR_isWithin ⟨Nat.le_of_ble_eq_true rfl, Nat.le_of_ble_eq_true rfl⟩) [] rfl rfl rfl rfl (Nat.le_of_ble_eq_true rfl) dR_most_14 ⟨Nat.zero_le _, Nat.zero_le _⟩ rfl (wR k ah ar ac ax a c t h) rfl ?_
    refine kw_if_eq (tgt := 30) C dR_most_17 (by decide) (fun c_2 => ?_) (fun c_2 => ?_)
    · skip
      exact kx_throwIAE hl9 C hlocks hEx hE hZ (by unfold oR_most; rw [if_neg c_1, if_pos c_2]) 139 "no such room or most" (by decide +kernel) dR_most_30 dR_most_33 dR_most_34 dR_most_36 dR_most_39 (Nat.le_of_ble_eq_true rfl) (Nat.le_of_ble_eq_true rfl) (Nat.le_of_ble_eq_true rfl) (Nat.le_of_ble_eq_true rfl)
    · skip
      refine kw_iload_n C 3 dR_most_20 rfl rfl ?_
      refine kw_iconst (v := 0) C dR_most_21 (by decide) ?_
      refine kw_ldc (v := 1000000) C kt_398 dR_most_22 ?_
      refine kw_callSi (st := []) C (cR_isWithin l D k v 0 1000000) (va_cwS 3 C.1.2.2.2.2 (kgO kt_208 kt_209 kt_1 kt_210) rfl rfl rfl kdR_isWithin ⟨Nat.le_of_ble_eq_true rfl, Nat.le_of_ble_eq_true rfl⟩) [] rfl rfl rfl rfl (Nat.le_of_ble_eq_true rfl) dR_most_24 ⟨Nat.zero_le _, Nat.zero_le _⟩ rfl (wR k ah ar ac ax a c t h) rfl ?_
      refine kw_if_ne (tgt := 40) C dR_most_27 (by decide) (fun c_3 => ?_) (fun c_3 => ?_)
      · skip
        refine kw_aload_n C 0 dR_most_40 rfl rfl ?_
        refine kw_get (v := .ref (ah 0)) C 0 rfl rfl ku_R 0 (by decide) kt_189 rfl dR_most_41 ?_
        refine kw_get (v := .ref (ah 3)) C 8 rfl rfl ku_H 3 (by decide) kt_40 rfl dR_most_44 ?_
        refine kw_iload_n C 2 dR_most_47 rfl rfl ?_
        refine kw_aldA (b := ar 0 what.toNatClampNeg) C 19 2 rfl rfl (kix_of (krw (N := 2) rfl (by decide) c_2)) (if_pos (kin_lt (krw (N := 2) rfl (by decide) c_2))) dR_most_48 ?_
        refine kw_iload_n C 1 dR_most_49 rfl rfl ?_
        refine kw_iald C (20 + what.toNatClampNeg) 0 (pR_mosts k ah ar ac ax a c t h _ (kin_lt (krw (N := 2) rfl (by decide) c_2))) rfl (kix_of (kin_le (khas hI c_1) hI.1.2)) dR_most_50 ?_
        refine kw_istore (lv' := [(4, .int (((h_mosts h) what.toNatClampNeg) room.toNatClampNeg)), (0, .ref a), (1, .int room), (2, .int what), (3, .int v)]) C dR_most_51 (by decide) rfl ?_
        refine kw_aload_n C 1 dR_most_53 rfl rfl ?_
        refine kw_get (v := .ref (ah 0)) C 0 rfl rfl ku_R 0 (by decide) kt_189 rfl dR_most_54 ?_
        refine kw_get (v := .ref (ah 3)) C 8 rfl rfl ku_H 3 (by decide) kt_40 rfl dR_most_57 ?_
        refine kw_iload_n C 3 dR_most_60 rfl rfl ?_
        refine kw_aldA (b := ar 0 what.toNatClampNeg) C 19 2 rfl rfl (kix_of (krw (N := 2) rfl (by decide) c_2)) (if_pos (kin_lt (krw (N := 2) rfl (by decide) c_2))) dR_most_61 ?_
        refine kw_iload_n C 2 dR_most_62 rfl rfl ?_
        refine kw_iload_n C 4 dR_most_63 rfl rfl ?_
        refine kw_iast C (20 + what.toNatClampNeg) 0 (pR_mosts k ah ar ac ax a c t h _ (kin_lt (krw (N := 2) rfl (by decide) c_2))) rfl (kix_of (kin_le (khas hI c_1) hI.1.2)) dR_most_64 (wR_h k ah ar ac ax a c t (h_rooms h) (h_walls h) (h_windows h) (h_low h) (h_high h) (h_stores h) (h_leadsAt h) (va_up (h_mosts h) what.toNatClampNeg (upd ((h_mosts h) what.toNatClampNeg) room.toNatClampNeg v)) (h_plans h) (h_wallFrom h) (h_wallTo h) (h_wallLeads h) (h_windowRoom h) (h_windowSide h) (h_windowArea h) (h_windowLimit h) (h_outsides h) (h_suns h)) (sR_mosts k ah ar ac ax a c t h _ _ (kin_lt (krw (N := 2) rfl (by decide) c_2))) ?_
        refine kw_iload C 0 dR_most_65 rfl ?_
        refine kw_eq rfl rfl (mk_wR_h.trans (congrArg (fun z90 => wR k ah ar ac ax a c t z90) (show ((h_rooms h), (h_walls h), (h_windows h), (h_low h), (h_high h), (h_stores h), (h_leadsAt h), (va_up (h_mosts h) what.toNatClampNeg (upd ((h_mosts h) what.toNatClampNeg) room.toNatClampNeg v)), (h_plans h), (h_wallFrom h), (h_wallTo h), (h_wallLeads h), (h_windowRoom h), (h_windowSide h), (h_windowArea h), (h_windowLimit h), (h_outsides h), (h_suns h)) = shR_most c t h room what v from by unfold shR_most; rw [if_neg c_1, if_neg c_2, if_neg c_3]))) ?_
        exact kx_iret C hr hlocks (by unfold oR_most; rw [if_neg c_1, if_neg c_2, if_neg c_3]) (by unfold rR_most; rw [if_neg c_1, if_neg c_2, if_neg c_3]) dR_most_67
      · skip
        exact kx_throwIAE hl9 C hlocks hEx hE hZ (by unfold oR_most; rw [if_neg c_1, if_neg c_2, if_pos c_3]) 139 "no such room or most" (by decide +kernel) dR_most_30 dR_most_33 dR_most_34 dR_most_36 dR_most_39 (Nat.le_of_ble_eq_true rfl) (Nat.le_of_ble_eq_true rfl) (Nat.le_of_ble_eq_true rfl) (Nat.le_of_ble_eq_true rfl)
