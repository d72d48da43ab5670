noncomputable def rR_window (c : CS) (t : CS) (h : HS) (room : Int32) (side : Int32) (area : Int32) (limit : Int32) : Int32 := if (rH_hasRoom h room) = 0 then 0 else (if (rR_isSide side) = 0 then 0 else (if (rR_isWithin area 0 100) = 0 then 0 else (if (rR_isWarmth limit) = 0 then 0 else (if (h_windows h) < 12 then (rH_addWindow h room side area limit) else 0))))
noncomputable def shR_window (c : CS) (t : CS) (h : HS) (room : Int32) (side : Int32) (area : Int32) (limit : Int32) : HS := if (rH_hasRoom h room) = 0 then h else (if (rR_isSide side) = 0 then h else (if (rR_isWithin area 0 100) = 0 then h else (if (rR_isWarmth limit) = 0 then h else (if (h_windows h) < 12 then (shH_addWindow h room side area limit) else h))))
set_option maxRecDepth 100000 in
set_option maxHeartbeats 4000000 in
theorem cR_window (l : Launch) (D : va_G) (k : Nat → ClassId) (ah : Nat → Nat) (ar : Nat → Nat → Nat) (ac ax : Nat → Nat) (a : Nat) (c t : CS) (h : HS) (room : Int32) (side : Int32) (area : Int32) (limit : Int32) (hl9 : l.stackTraces = false) (hI : kInv h) : kNi l yR_window (kwm yR_window bR_window 5 (some .int)) ({ frames := 6, cells := 1, slots := 6, locals := 82 }) D kcl (kty k) (wR k ah ar ac ax a c t h) (wR k ah ar ac ax a c t (shR_window c t h room side area limit)) [.ref a, .int room, .int side, .int area, .int limit] (oR_window c t h room side area limit) (rR_window c t h room side area limit) := by
  refine k_enX_i (lv0 := [(0, .ref a), (1, .int room), (2, .int side), (3, .int area), (4, .int limit)]) rfl (by decide +kernel) (Nat.le_of_ble_eq_true rfl) rfl ?_
  intro p e s m args below meth c0 C hr hlocks hEx hE hZ
  refine kw_aload_n C 0 dR_window_0 rfl rfl ?_
  refine kw_get (v := .ref (ah 0)) C 0 rfl rfl ku_R 0 (by decide) kt_189 rfl dR_window_1 ?_
  refine kw_iload_n C 1 dR_window_4 rfl rfl ?_
  refine kw_callPi (ws' := (wR k ah ar ac ax a c t h)) (st := []) C (cH_hasRoom l D k ah ar h room) (cwV 1 C.1.2.2.2.2 (kgV kt_312 kt_313 kt_314 kt_2 kt_315) rfl rfl rfl kdH_hasRoom ⟨Nat.le_of_ble_eq_true rfl, Nat.le_of_ble_eq_true rfl⟩) [8, 9, 10, 11, 12, 13, 14, 15, 16, 17, 18, 19, 20, 21, 22, 23, 24, 25, 26, 27, 28, 29, 30] [0, 1, 2, 3, 4, 5, 6, 7, 31, 32, 33, 34, 35, 36, 37] [0, 1, 2, 3, 4, 5, 6, 7, 15, 16, 17, 18, 19, 20, 21, 22, 23, 24, 25, 26, 27, 28, 29, 30, 31, 32, 33, 34, 35, 36, 37, 8, 9, 10, 11, 12, 13, 14] chR_H rhR_H ppR_H (by decide) (by decide) (by decide) (by decide) 0 1 rfl rfl rfl rfl rfl (Nat.le_of_ble_eq_true rfl) dR_window_5 ⟨Nat.zero_le _, Nat.zero_le _⟩ ?_
  refine kw_if_eq (tgt := 18) C dR_window_8 (by decide) (fun c_1 => ?_) (fun c_1 => ?_)
  · skip
    exact kx_throwIAE hl9 C hlocks hEx hE hZ (by unfold oR_window; rw [if_pos c_1]) 101 "no such room or side" (by decide +kernel) dR_window_18 dR_window_21 dR_window_22 dR_window_24 dR_window_27 (Nat.le_of_ble_eq_true rfl) (Nat.le_of_ble_eq_true rfl) (Nat.le_of_ble_eq_true rfl) (Nat.le_of_ble_eq_true rfl)
  · skip
    refine kw_iload_n C 2 dR_window_11 rfl rfl ?_
    refine kw_callSi (st := []) C (cR_isSide l D k side) (va_cwS 1 C.1.2.2.2.2 (kgO kt_349 kt_350 kt_1 kt_351) rfl rfl rfl kdR_isSide ⟨Nat.le_of_ble_eq_true rfl, Nat.le_of_ble_eq_true rfl⟩) [] rfl rfl rfl rfl (Nat.le_of_ble_eq_true rfl) dR_window_12 ⟨Nat.zero_le _, Nat.zero_le _⟩ rfl (wR k ah ar ac ax a c t h) rfl ?_
    refine kw_if_ne (tgt := 28) C dR_window_15 (by decide) (fun c_2 => ?_) (fun c_2 => ?_)
    · skip
      refine kw_iload_n C 3 dR_window_28 rfl rfl ?_
      refine kw_iconst (v := 0) C dR_window_29 (by decide) ?_
      refine kw_bipush (v := 100) C dR_window_30 (by decide) ?_
      refine kw_callSi (st := []) C (cR_isWithin l D k area 0 100) (va_cwS 3 C.1.2.2.2.2 (kgO kt_208 kt_209 kt_1 kt_210) rfl rfl rfl kdR_isWithin ⟨Nat.le_of_ble_eq_true rfl, Nat.le_of_ble_eq_true rfl⟩) [] rfl rfl rfl rfl (Nat.le_of_ble_eq_true rfl) dR_window_32 ⟨Nat.zero_le _, Nat.zero_le _⟩ rfl (wR k ah ar ac ax a c t h) rfl ?_
      refine kw_if_eq (tgt := 46) C dR_window_35 (by decide) (fun c_3 => ?_) (fun c_3 => ?_)
      · skip
        exact kx_throwIAE hl9 C hlocks hEx hE hZ (by unfold oR_window; rw [if_neg c_1, if_neg c_2, if_pos c_3]) 103 "no such area or limit" (by decide +kernel) dR_window_46 dR_window_49 dR_window_50 dR_window_52 dR_window_55 (Nat.le_of_ble_eq_true rfl) (Nat.le_of_ble_eq_true rfl) (Nat.le_of_ble_eq_true rfl) (Nat.le_of_ble_eq_true rfl)
      · skip
        refine kw_iload C 4 dR_window_38 rfl ?_
        refine kw_callSi (st := []) C (cR_isWarmth l D k limit) (va_cwS 1 C.1.2.2.2.2 (kgO kt_211 kt_212 kt_1 kt_213) rfl rfl rfl kdR_isWarmth ⟨Nat.le_of_ble_eq_true rfl, Nat.le_of_ble_eq_true rfl⟩) [] rfl rfl rfl rfl (Nat.le_of_ble_eq_true rfl) dR_window_40 ⟨Nat.zero_le _, Nat.zero_le _⟩ rfl (wR k ah ar ac ax a c t h) rfl ?_
        refine kw_if_ne (tgt := 56) C dR_window_43 (by decide) (fun c_4 => ?_) (fun c_4 => ?_)
        · skip
          refine kw_aload_n C 0 dR_window_56 rfl rfl ?_
          refine kw_get (v := .ref (ah 0)) C 0 rfl rfl ku_R 0 (by decide) kt_189 rfl dR_window_57 ?_
          refine kw_get (v := .int (h_windows h)) C 8 rfl rfl ku_H 9 (by decide) kt_57 rfl dR_window_60 ?_
          refine kw_bipush (v := 12) C dR_window_63 (by decide) ?_
          refine kw_icmp_lt (tgt := 78) C dR_window_65 (by decide) (fun c_5 => ?_) (fun c_5 => ?_)
          · skip
            refine kw_aload_n C 0 dR_window_78 rfl rfl ?_
            refine kw_get (v := .ref (ah 0)) C 0 rfl rfl ku_R 0 (by decide) kt_189 rfl dR_window_79 ?_
            refine kw_iload_n C 1 dR_window_82 rfl rfl ?_
            refine kw_iload_n C 2 dR_window_83 rfl rfl ?_
            refine kw_iload_n C 3 dR_window_84 rfl rfl ?_
            refine kw_iload C 4 dR_window_85 rfl ?_
            refine kw_callPi (ws' := (wR k ah ar ac ax a c t (shH_addWindow h room side area limit))) (st := []) C (cH_addWindow l D k ah ar h room side area limit (kwin12 hI c_5)) (cwV 4 C.1.2.2.2.2 (kgV kt_355 kt_356 kt_357 kt_2 kt_358) rfl rfl rfl kdH_addWindow ⟨Nat.le_of_ble_eq_true rfl, Nat.le_of_ble_eq_true rfl⟩) [8, 9, 10, 11, 12, 13, 14, 15, 16, 17, 18, 19, 20, 21, 22, 23, 24, 25, 26, 27, 28, 29, 30] [0, 1, 2, 3, 4, 5, 6, 7, 31, 32, 33, 34, 35, 36, 37] [0, 1, 2, 3, 4, 5, 6, 7, 15, 16, 17, 18, 19, 20, 21, 22, 23, 24, 25, 26, 27, 28, 29, 30, 31, 32, 33, 34, 35, 36, 37, 8, 9, 10, 11, 12, 13, 14] chR_H rhR_H ppR_H (by decide) (by decide) (by decide) (by decide) 0 1 rfl rfl rfl rfl rfl (Nat.le_of_ble_eq_true rfl) dR_window_87 ⟨Nat.zero_le _, Nat.zero_le _⟩ ?_
            refine kw_eq rfl rfl ((congrArg (fun z90 => wR k ah ar ac ax a c t z90) (show (shH_addWindow h room side area limit) = shR_window c t h room side area limit from by unfold shR_window; rw [if_neg c_1, if_neg c_2, if_neg c_3, if_neg c_4, if_pos c_5]))) ?_
            exact kx_iret C hr hlocks (by unfold oR_window; rw [if_neg c_1, if_neg c_2, if_neg c_3, if_neg c_4, if_pos c_5]) (by unfold rR_window; rw [if_neg c_1, if_neg c_2, if_neg c_3, if_neg c_4, if_pos c_5]) dR_window_90
          · skip
            exact kx_throwISE hl9 C hlocks hEx hE hZ (by unfold oR_window; rw [if_neg c_1, if_neg c_2, if_neg c_3, if_neg c_4, if_neg c_5]) 108 "there are 12 windows" (by decide +kernel) dR_window_68 dR_window_71 dR_window_72 dR_window_74 dR_window_77 (Nat.le_of_ble_eq_true rfl) (Nat.le_of_ble_eq_true rfl) (Nat.le_of_ble_eq_true rfl) (Nat.le_of_ble_eq_true rfl)
        · skip
          exact kx_throwIAE hl9 C hlocks hEx hE hZ (by unfold oR_window; rw [if_neg c_1, if_neg c_2, if_neg c_3, if_pos c_4]) 103 "no such area or limit" (by decide +kernel) dR_window_46 dR_window_49 dR_window_50 dR_window_52 dR_window_55 (Nat.le_of_ble_eq_true rfl) (Nat.le_of_ble_eq_true rfl) (Nat.le_of_ble_eq_true rfl) (Nat.le_of_ble_eq_true rfl)
    · skip
      exact kx_throwIAE hl9 C hlocks hEx hE hZ (by unfold oR_window; rw [if_neg c_1, if_pos c_2]) 101 "no such room or side" (by decide +kernel) dR_window_18 dR_window_21 dR_window_22 dR_window_24 dR_window_27 (Nat.le_of_ble_eq_true rfl) (Nat.le_of_ble_eq_true rfl) (Nat.le_of_ble_eq_true rfl) (Nat.le_of_ble_eq_true rfl)
noncomputable def oR_told (c : CS) (t : CS) (h : HS) (room : Int32) (what : Int32) : String ⊕ Unit := if (rH_hasRoom h room) = 0 then .inl "java/lang/IllegalArgumentException" else (if (rR_isWithin what 0 5) = 0 then .inl "java/lang/IllegalArgumentException" else (if what = 0 then .inr () else (if what = 1 then .inr () else (if what = 2 then .inr () else (if what = 3 then .inr () else (if what = 4 then .inr () else .inr ()))))))
