noncomputable def rR_told (c : CS) (t : CS) (h : HS) (room : Int32) (what : Int32) : Int64 := if (rH_hasRoom h room) = 0 then 0 else (if (rR_isWithin what 0 5) = 0 then 0 else (if what = 0 then (rC_warmthOf c h room) else (if what = 1 then (c_heat c) room.toNatClampNeg else (if what = 2 then ((c_uneasy c) room.toNatClampNeg).toInt64 else (if what = 3 then (c_given c) room.toNatClampNeg else (if what = 4 then (c_taken c) room.toNatClampNeg else (c_greatest c) room.toNatClampNeg))))))
set_option maxRecDepth 100000 in
set_option maxHeartbeats 4000000 in
theorem cR_told (l : Launch) (D : va_G) (k : Nat → ClassId) (ah : Nat → Nat) (ar : Nat → Nat → Nat) (ac ax : Nat → Nat) (a : Nat) (c t : CS) (h : HS) (room : Int32) (what : Int32) (hl9 : l.stackTraces = false) (hI : kInv h) : kNl l yR_told (kwm yR_told bR_told 3 (some .long)) ({ frames := 6, cells := 1, slots := 6, locals := 82 }) D kcl (kty k) (wR k ah ar ac ax a c t h) (wR k ah ar ac ax a c t h) [.ref a, .int room, .int what] (oR_told c t h room what) (rR_told c t h room what) := by
  refine k_enX_l (lv0 := [(0, .ref a), (1, .int room), (2, .int what)]) rfl (by decide +kernel) (Nat.le_of_ble_eq_true rfl) rfl ?_
  intro p e s m args below meth c0 C hr hlocks hEx hE hZ
  refine kw_aload_n C 0 dR_told_0 rfl rfl ?_
  refine kw_get (v := .ref (ah 0)) C 0 rfl rfl ku_R 0 (by decide) kt_189 rfl dR_told_1 ?_
  refine kw_iload_n C 1 dR_told_4 rfl rfl ?_
  refine kw_callPi (ws' := (wR k ah ar ac ax a c t h)) (st := []) C (cH_hasRoom l D k ah ar h room) (cwV 1 C.1.2.2.2.2 (kgV kt_312 kt_313 kt_314 kt_2 kt_315) rfl rfl rfl kdH_hasRoom ⟨Nat.le_of_ble_eq_true rfl, Nat.le_of_ble_eq_true rfl⟩) [8, 9, 10, 11, 12, 13, 14, 15, 16, 17, 18, 19, 20, 21, 22, 23, 24, 25, 26, 27, 28, 29, 30] [0, 1, 2, 3, 4, 5, 6, 7, 31, 32, 33, 34, 35, 36, 37] [0, 1, 2, 3, 4, 5, 6, 7, 15, 16, 17, 18, 19, 20, 21, 22, 23, 24, 25, 26, 27, 28, 29, 30, 31, 32, 33, 34, 35, 36, 37, 8, 9, 10, 11, 12, 13, 14] chR_H rhR_H ppR_H (by decide) (by decide) (by decide) (by decide) 0 1 rfl rfl rfl rfl rfl (Nat.le_of_ble_eq_true rfl) dR_told_5 ⟨Nat.zero_le _, Nat.zero_le _⟩ ?_
  refine kw_if_eq (tgt := 20) C dR_told_8 (by decide) (fun c_1 => ?_) (fun c_1 => ?_)
  · skip
    exact kx_throwIAE hl9 C hlocks hEx hE hZ (by unfold oR_told; rw [if_pos c_1]) 163 "no such room, or nothing such is told" (by decide +kernel) dR_told_20 dR_told_23 dR_told_24 dR_told_26 dR_told_29 (Nat.le_of_ble_eq_true rfl) (Nat.le_of_ble_eq_true rfl) (Nat.le_of_ble_eq_true rfl) (Nat.le_of_ble_eq_true rfl)
  · skip
    refine kw_iload_n C 2 dR_told_11 rfl rfl ?_
    refine kw_iconst (v := 0) C dR_told_12 (by decide) ?_
    refine kw_iconst (v := 5) C dR_told_13 (by decide) ?_
    refine kw_callSi (st := []) C (cR_isWithin l D k what 0 5) (va_cwS 3 C.1.2.2.2.2 (kgO kt_208 kt_209 kt_1 kt_210) rfl rfl rfl kdR_isWithin ⟨Nat.le_of_ble_eq_true rfl, Nat.le_of_ble_eq_true rfl⟩) [] rfl rfl rfl rfl (Nat.le_of_ble_eq_true rfl) dR_told_14 ⟨Nat.zero_le _, Nat.zero_le _⟩ rfl (wR k ah ar ac ax a c t h) rfl ?_
    refine kw_if_ne (tgt := 30) C dR_told_17 (by decide) (fun c_2 => ?_) (fun c_2 => ?_)
    · skip
      refine kw_iload_n C 2 dR_told_30 rfl rfl ?_
      refine kw_by (what = 0) (fun c_3 => ?_) (fun c_3 => ?_)
      · skip
        refine kw_tableIn (off := 33) (tgt := 64) C dR_told_31 (by rw [c_3]; decide) (by rw [c_3]; decide) (by rw [c_3]; rfl) (by decide) ?_
        refine kw_aload_n C 0 dR_told_64 rfl rfl ?_
        refine kw_get (v := .ref (ac 0)) C 0 rfl rfl ku_R 1 (by decide) kt_190 rfl dR_told_65 ?_
        refine kw_iload_n C 1 dR_told_68 rfl rfl ?_
        refine kw_callPl (ws' := (wR k ah ar ac ax a c t h)) (st := []) C (cC_warmthOf l D k ah ar ac c h room (kin_le (khas hI c_1) hI.1.2)) (cwV 1 C.1.2.2.2.2 (kgV kt_493 kt_427 kt_428 kt_4 kt_429) rfl rfl rfl kdC_warmthOf ⟨Nat.le_of_ble_eq_true rfl, Nat.le_of_ble_eq_true rfl⟩) [1, 2, 3, 4, 5, 6, 7, 8, 9, 10, 11, 12, 13, 14, 15, 16, 17, 18, 19, 20, 21, 22, 23, 24, 25, 26, 27, 28, 29, 30] [0, 31, 32, 33, 34, 35, 36, 37] [0, 8, 9, 10, 11, 12, 13, 14, 15, 16, 17, 18, 19, 20, 21, 22, 23, 24, 25, 26, 27, 28, 29, 30, 31, 32, 33, 34, 35, 36, 37, 1, 2, 3, 4, 5, 6, 7] chR_C rhR_C ppR_C (by decide) (by decide) (by decide) (by decide) 0 0 rfl rfl rfl rfl rfl (Nat.le_of_ble_eq_true rfl) dR_told_69 ⟨Nat.zero_le _, Nat.zero_le _⟩ ?_
        exact kx_lret C hr hlocks (by unfold oR_told; rw [if_neg c_1, if_neg c_2, if_pos c_3]) (by unfold rR_told; rw [if_neg c_1, if_neg c_2, if_pos c_3]) dR_told_72
      · skip
        refine kw_by (what = 1) (fun c_4 => ?_) (fun c_4 => ?_)
        · skip
          refine kw_tableIn (off := 42) (tgt := 73) C dR_told_31 (by rw [c_4]; decide) (by rw [c_4]; decide) (by rw [c_4]; rfl) (by decide) ?_
          refine kw_aload_n C 0 dR_told_73 rfl rfl ?_
          refine kw_get (v := .ref (ac 0)) C 0 rfl rfl ku_R 1 (by decide) kt_190 rfl dR_told_74 ?_
          refine kw_get (v := .ref (ac 1)) C 1 rfl rfl ku_C 2 (by decide) kt_126 rfl dR_told_77 ?_
          refine kw_iload_n C 1 dR_told_80 rfl rfl ?_
          refine kw_lald C 2 1 rfl rfl (kix_of (kin_le (khas hI c_1) hI.1.2)) dR_told_81 ?_
          exact kx_lret C hr hlocks (by unfold oR_told; rw [if_neg c_1, if_neg c_2, if_neg c_3, if_pos c_4]) (by unfold rR_told; rw [if_neg c_1, if_neg c_2, if_neg c_3, if_pos c_4]) dR_told_82
        · skip
          refine kw_by (what = 2) (fun c_5 => ?_) (fun c_5 => ?_)
          · skip
            refine kw_tableIn (off := 52) (tgt := 83) C dR_told_31 (by rw [c_5]; decide) (by rw [c_5]; decide) (by rw [c_5]; rfl) (by decide) ?_
            refine kw_aload_n C 0 dR_told_83 rfl rfl ?_
            refine kw_get (v := .ref (ac 0)) C 0 rfl rfl ku_R 1 (by decide) kt_190 rfl dR_told_84 ?_
            refine kw_get (v := .ref (ac 6)) C 1 rfl rfl ku_C 7 (by decide) kt_135 rfl dR_told_87 ?_
            refine kw_iload_n C 1 dR_told_90 rfl rfl ?_
            refine kw_iald C 7 0 rfl rfl (kix_of (kin_le (khas hI c_1) hI.1.2)) dR_told_91 ?_
            refine kw_i2l C dR_told_92 ?_
            exact kx_lret C hr hlocks (by unfold oR_told; rw [if_neg c_1, if_neg c_2, if_neg c_3, if_neg c_4, if_pos c_5]) (by unfold rR_told; rw [if_neg c_1, if_neg c_2, if_neg c_3, if_neg c_4, if_pos c_5]) dR_told_93
          · skip
            refine kw_by (what = 3) (fun c_6 => ?_) (fun c_6 => ?_)
            · skip
              refine kw_tableIn (off := 63) (tgt := 94) C dR_told_31 (by rw [c_6]; decide) (by rw [c_6]; decide) (by rw [c_6]; rfl) (by decide) ?_
              refine kw_aload_n C 0 dR_told_94 rfl rfl ?_
              refine kw_get (v := .ref (ac 0)) C 0 rfl rfl ku_R 1 (by decide) kt_190 rfl dR_told_95 ?_
              refine kw_get (v := .ref (ac 3)) C 1 rfl rfl ku_C 4 (by decide) kt_129 rfl dR_told_98 ?_
              refine kw_iload_n C 1 dR_told_101 rfl rfl ?_
              refine kw_lald C 4 1 rfl rfl (kix_of (kin_le (khas hI c_1) hI.1.2)) dR_told_102 ?_
              exact kx_lret C hr hlocks (by unfold oR_told; rw [if_neg c_1, if_neg c_2, if_neg c_3, if_neg c_4, if_neg c_5, if_pos c_6]) (by unfold rR_told; rw [if_neg c_1, if_neg c_2, if_neg c_3, if_neg c_4, if_neg c_5, if_pos c_6]) dR_told_103
            · skip
              refine kw_by (what = 4) (fun c_7 => ?_) (fun c_7 => ?_)
              · skip
                refine kw_tableIn (off := 73) (tgt := 104) C dR_told_31 (by rw [c_7]; decide) (by rw [c_7]; decide) (by rw [c_7]; rfl) (by decide) ?_
                refine kw_aload_n C 0 dR_told_104 rfl rfl ?_
                refine kw_get (v := .ref (ac 0)) C 0 rfl rfl ku_R 1 (by decide) kt_190 rfl dR_told_105 ?_
                refine kw_get (v := .ref (ac 4)) C 1 rfl rfl ku_C 5 (by decide) kt_131 rfl dR_told_108 ?_
                refine kw_iload_n C 1 dR_told_111 rfl rfl ?_
                refine kw_lald C 5 1 rfl rfl (kix_of (kin_le (khas hI c_1) hI.1.2)) dR_told_112 ?_
                exact kx_lret C hr hlocks (by unfold oR_told; rw [if_neg c_1, if_neg c_2, if_neg c_3, if_neg c_4, if_neg c_5, if_neg c_6, if_pos c_7]) (by unfold rR_told; rw [if_neg c_1, if_neg c_2, if_neg c_3, if_neg c_4, if_neg c_5, if_neg c_6, if_pos c_7]) dR_told_113
              · skip
                refine kw_tableOut (tgt := 114) C dR_told_31 (by have := kne (n := 0) c_3; have := kne (n := 1) c_4; have := kne (n := 2) c_5; have := kne (n := 3) c_6; have := kne (n := 4) c_7; omega) (by decide) ?_
                refine kw_aload_n C 0 dR_told_114 rfl rfl ?_
                refine kw_get (v := .ref (ac 0)) C 0 rfl rfl ku_R 1 (by decide) kt_190 rfl dR_told_115 ?_
                refine kw_get (v := .ref (ac 5)) C 1 rfl rfl ku_C 6 (by decide) kt_133 rfl dR_told_118 ?_
                refine kw_iload_n C 1 dR_told_121 rfl rfl ?_
                refine kw_lald C 6 1 rfl rfl (kix_of (kin_le (khas hI c_1) hI.1.2)) dR_told_122 ?_
                exact kx_lret C hr hlocks (by unfold oR_told; rw [if_neg c_1, if_neg c_2, if_neg c_3, if_neg c_4, if_neg c_5, if_neg c_6, if_neg c_7]) (by unfold rR_told; rw [if_neg c_1, if_neg c_2, if_neg c_3, if_neg c_4, if_neg c_5, if_neg c_6, if_neg c_7]) dR_told_123
    · skip
      exact kx_throwIAE hl9 C hlocks hEx hE hZ (by unfold oR_told; rw [if_neg c_1, if_pos c_2]) 163 "no such room, or nothing such is told" (by decide +kernel) dR_told_20 dR_told_23 dR_told_24 dR_told_26 dR_told_29 (Nat.le_of_ble_eq_true rfl) (Nat.le_of_ble_eq_true rfl) (Nat.le_of_ble_eq_true rfl) (Nat.le_of_ble_eq_true rfl)
noncomputable def oR_balance (c : CS) (t : CS) (h : HS) (what : Int32) : String ⊕ Unit := if (rR_isWithin what 0 6) = 0 then .inl "java/lang/IllegalArgumentException" else (if what = 0 then .inr () else (if what = 1 then .inr () else (if what = 2 then .inr () else (if what = 3 then .inr () else (if what = 4 then .inr () else (if what = 5 then .inr () else .inr ()))))))
