noncomputable def rR_leads (c : CS) (t : CS) (h : HS) (wall : Int32) (leads : Int32) : Int32 := if (rR_isWithin wall 0 ((h_walls h) - 1)) = 0 then 0 else (if (rR_isWithin leads 0 1000) = 0 then 0 else (if (rH_bears h ((h_wallFrom h) wall.toNatClampNeg) (leads - ((h_wallLeads h) wall.toNatClampNeg))) = 0 then 0 else (if (rH_bears h ((h_wallTo h) wall.toNatClampNeg) (leads - ((h_wallLeads h) wall.toNatClampNeg))) = 0 then 0 else (h_wallLeads h) wall.toNatClampNeg)))
noncomputable def shR_leads (c : CS) (t : CS) (h : HS) (wall : Int32) (leads : Int32) : HS := if (rR_isWithin wall 0 ((h_walls h) - 1)) = 0 then h else (if (rR_isWithin leads 0 1000) = 0 then h else (if (rH_bears h ((h_wallFrom h) wall.toNatClampNeg) (leads - ((h_wallLeads h) wall.toNatClampNeg))) = 0 then h else (if (rH_bears h ((h_wallTo h) wall.toNatClampNeg) (leads - ((h_wallLeads h) wall.toNatClampNeg))) = 0 then h else (shH_addLeads h wall (leads - ((h_wallLeads h) wall.toNatClampNeg))))))
set_option maxRecDepth 100000 in
set_option maxHeartbeats 4000000 in
theorem cR_leads (l : Launch) (D : va_G) (k : Nat → ClassId) (ah : Nat → Nat) (ar : Nat → Nat → Nat) (ac ax : Nat → Nat) (a : Nat) (c t : CS) (h : HS) (wall : Int32) (leads : Int32) (hl9 : l.stackTraces = false) (hI : kInv h) : kNi l yR_leads (kwm yR_leads bR_leads 5 (some .int)) ({ frames := 6, cells := 1, slots := 6, locals := 82 }) D kcl (kty k) (wR k ah ar ac ax a c t h) (wR k ah ar ac ax a c t (shR_leads c t h wall leads)) [.ref a, .int wall, .int leads] (oR_leads c t h wall leads) (rR_leads c t h wall leads) := by
  refine k_enX_i (lv0 := [(0, .ref a), (1, .int wall), (2, .int leads)]) rfl (by decide +kernel) (Nat.le_of_ble_eq_true rfl) rfl ?_
  intro p e s m args below meth c0 C hr hlocks hEx hE hZ
  refine kw_iload_n C 1 dR_leads_0 rfl rfl ?_
  refine kw_iconst (v := 0) C dR_leads_1 (by decide) ?_
  refine kw_aload_n C 0 dR_leads_2 rfl rfl ?_
  refine kw_get (v := .ref (ah 0)) C 0 rfl rfl ku_R 0 (by decide) kt_189 rfl dR_leads_3 ?_
  refine kw_get (v := .int (h_walls h)) C 8 rfl rfl ku_H 5 (by decide) kt_45 rfl dR_leads_6 ?_
  refine kw_iconst (v := 1) C dR_leads_9 (by decide) ?_
  refine kw_isub C dR_leads_10 ?_
  refine kw_callSi (st := []) C (cR_isWithin l D k wall 0 ((h_walls h) - 1)) (va_cwS 3 C.1.2.2.2.2 (kgO kt_208 kt_209 kt_1 kt_210) rfl rfl rfl kdR_isWithin ⟨Nat.le_of_ble_eq_true rfl, Nat.le_of_ble_eq_true rfl⟩) [] rfl rfl rfl rfl (Nat.le_of_ble_eq_true rfl) dR_leads_11 ⟨Nat.zero_le _, Nat.zero_le _⟩ rfl (wR k ah ar ac ax a c t h) rfl ?_
  refine kw_if_eq (tgt := 28) C dR_leads_14 (by decide) (fun c_1 => ?_) (fun c_1 => ?_)
  · skip
    exact kx_throwIAE hl9 C hlocks hEx hE hZ (by unfold oR_leads; rw [if_pos c_1]) 80 "no such wall or leads" (by decide +kernel) dR_leads_28 dR_leads_31 dR_leads_32 dR_leads_34 dR_leads_37 (Nat.le_of_ble_eq_true rfl) (Nat.le_of_ble_eq_true rfl) (Nat.le_of_ble_eq_true rfl) (Nat.le_of_ble_eq_true rfl)
  · skip
    refine kw_iload_n C 2 dR_leads_17 rfl rfl ?_
    refine kw_iconst (v := 0) C dR_leads_18 (by decide) ?_
    refine kw_sipush (v := 1000) C dR_leads_19 (by decide) ?_
    refine kw_callSi (st := []) C (cR_isWithin l D k leads 0 1000) (va_cwS 3 C.1.2.2.2.2 (kgO kt_208 kt_209 kt_1 kt_210) rfl rfl rfl kdR_isWithin ⟨Nat.le_of_ble_eq_true rfl, Nat.le_of_ble_eq_true rfl⟩) [] rfl rfl rfl rfl (Nat.le_of_ble_eq_true rfl) dR_leads_22 ⟨Nat.zero_le _, Nat.zero_le _⟩ rfl (wR k ah ar ac ax a c t h) rfl ?_
    refine kw_if_ne (tgt := 38) C dR_leads_25 (by decide) (fun c_2 => ?_) (fun c_2 => ?_)
    · skip
      refine kw_aload_n C 0 dR_leads_38 rfl rfl ?_
      refine kw_get (v := .ref (ah 0)) C 0 rfl rfl ku_R 0 (by decide) kt_189 rfl dR_leads_39 ?_
      refine kw_get (v := .ref (ah 7)) C 8 rfl rfl ku_H 8 (by decide) kt_55 rfl dR_leads_42 ?_
      refine kw_iload_n C 1 dR_leads_45 rfl rfl ?_
      refine kw_iald C 13 0 rfl rfl (kix_of (kin_le (kleadsR hI c_1) hI.2.1.2)) dR_leads_46 ?_
      refine kw_istore_n (lv' := [(3, .int ((h_wallLeads h) wall.toNatClampNeg)), (0, .ref a), (1, .int wall), (2, .int leads)]) C dR_leads_47 rfl (by decide) rfl ?_
      refine kw_iload_n C 3 dR_leads_48 rfl rfl ?_
      refine kw_iload_n C 0 dR_leads_49 rfl rfl ?_
      refine kw_isub C dR_leads_50 ?_
      refine kw_istore (lv' := [(4, .int (leads - ((h_wallLeads h) wall.toNatClampNeg))), (3, .int ((h_wallLeads h) wall.toNatClampNeg)), (0, .ref a), (1, .int wall), (2, .int leads)]) C dR_leads_51 (by decide) rfl ?_
      refine kw_aload_n C 2 dR_leads_53 rfl rfl ?_
      refine kw_get (v := .ref (ah 0)) C 0 rfl rfl ku_R 0 (by decide) kt_189 rfl dR_leads_54 ?_
      refine kw_aload_n C 2 dR_leads_57 rfl rfl ?_
      refine kw_get (v := .ref (ah 0)) C 0 rfl rfl ku_R 0 (by decide) kt_189 rfl dR_leads_58 ?_
      refine kw_get (v := .ref (ah 5)) C 8 rfl rfl ku_H 6 (by decide) kt_49 rfl dR_leads_61 ?_
      refine kw_iload_n C 3 dR_leads_64 rfl rfl ?_
      refine kw_iald C 11 0 rfl rfl (kix_of (kin_le (kleadsR hI c_1) hI.2.1.2)) dR_leads_65 ?_
      refine kw_iload C 0 dR_leads_66 rfl ?_
      refine kw_callPi (ws' := (wR k ah ar ac ax a c t h)) (st := []) C (cH_bears l D k ah ar h ((h_wallFrom h) wall.toNatClampNeg) (leads - ((h_wallLeads h) wall.toNatClampNeg)) hI) (cwV 2 C.1.2.2.2.2 (kgV kt_318 kt_319 kt_320 kt_2 kt_321) rfl rfl rfl kdH_bears ⟨Nat.le_of_ble_eq_true rfl, Nat.le_of_ble_eq_true rfl⟩) [8, 9, 10, 11, 12, 13, 14, 15, 16, 17, 18, 19, 20, 21, 22, 23, 24, 25, 26, 27, 28, 29, 30] [0, 1, 2, 3, 4, 5, 6, 7, 31, 32, 33, 34, 35, 36, 37] [0, 1, 2, 3, 4, 5, 6, 7, 15, 16, 17, 18, 19, 20, 21, 22, 23, 24, 25, 26, 27, 28, 29, 30, 31, 32, 33, 34, 35, 36, 37, 8, 9, 10, 11, 12, 13, 14] chR_H rhR_H ppR_H (by decide) (by decide) (by decide) (by decide) 0 1 rfl rfl rfl rfl rfl (Nat.le_of_ble_eq_true rfl) dR_leads_68 ⟨Nat.zero_le _, Nat.zero_le _⟩ ?_
      refine kw_if_eq (tgt := 95) C dR_leads_71 (by decide) (fun c_3 => ?_) (fun c_3 => ?_)
      · skip
        exact kx_throwISE hl9 C hlocks hEx hE hZ (by unfold oR_leads; rw [if_neg c_1, if_neg c_2, if_pos c_3]) 92 "too many leads at a room" (by decide +kernel) dR_leads_95 dR_leads_98 dR_leads_99 dR_leads_101 dR_leads_104 (Nat.le_of_ble_eq_true rfl) (Nat.le_of_ble_eq_true rfl) (Nat.le_of_ble_eq_true rfl) (Nat.le_of_ble_eq_true rfl)
      · skip
        refine kw_aload_n C 2 dR_leads_74 rfl rfl ?_
        refine kw_get (v := .ref (ah 0)) C 0 rfl rfl ku_R 0 (by decide) kt_189 rfl dR_leads_75 ?_
        refine kw_aload_n C 2 dR_leads_78 rfl rfl ?_
        refine kw_get (v := .ref (ah 0)) C 0 rfl rfl ku_R 0 (by decide) kt_189 rfl dR_leads_79 ?_
        refine kw_get (v := .ref (ah 6)) C 8 rfl rfl ku_H 7 (by decide) kt_52 rfl dR_leads_82 ?_
        refine kw_iload_n C 3 dR_leads_85 rfl rfl ?_
        refine kw_iald C 12 0 rfl rfl (kix_of (kin_le (kleadsR hI c_1) hI.2.1.2)) dR_leads_86 ?_
        refine kw_iload C 0 dR_leads_87 rfl ?_
        refine kw_callPi (ws' := (wR k ah ar ac ax a c t h)) (st := []) C (cH_bears l D k ah ar h ((h_wallTo h) wall.toNatClampNeg) (leads - ((h_wallLeads h) wall.toNatClampNeg)) hI) (cwV 2 C.1.2.2.2.2 (kgV kt_318 kt_319 kt_320 kt_2 kt_321) rfl rfl rfl kdH_bears ⟨Nat.le_of_ble_eq_true rfl, Nat.le_of_ble_eq_true rfl⟩) [8, 9, 10, 11, 12, 13, 14, 15, 16, 17, 18, 19, 20, 21, 22, 23, 24, 25, 26, 27, 28, 29, 30] [0, 1, 2, 3, 4, 5, 6, 7, 31, 32, 33, 34, 35, 36, 37] [0, 1, 2, 3, 4, 5, 6, 7, 15, 16, 17, 18, 19, 20, 21, 22, 23, 24, 25, 26, 27, 28, 29, 30, 31, 32, 33, 34, 35, 36, 37, 8, 9, 10, 11, 12, 13, 14] chR_H rhR_H ppR_H (by decide) (by decide) (by decide) (by decide) 0 1 rfl rfl rfl rfl rfl (Nat.le_of_ble_eq_true rfl) dR_leads_89 ⟨Nat.zero_le _, Nat.zero_le _⟩ ?_
        refine kw_if_ne (tgt := 105) C dR_leads_92 (by decide) (fun c_4 => ?_) (fun c_4 => ?_)
        · skip
          refine kw_aload_n C 2 dR_leads_105 rfl rfl ?_
          refine kw_get (v := .ref (ah 0)) C 0 rfl rfl ku_R 0 (by decide) kt_189 rfl dR_leads_106 ?_
          refine kw_iload_n C 3 dR_leads_109 rfl rfl ?_
          refine kw_iload C 0 dR_leads_110 rfl ?_
          refine kw_callPv (ws' := (wR k ah ar ac ax a c t (shH_addLeads h wall (leads - ((h_wallLeads h) wall.toNatClampNeg))))) (st := []) C (cH_addLeads l D k ah ar h wall (leads - ((h_wallLeads h) wall.toNatClampNeg)) (kin_le (kleadsR hI c_1) hI.2.1.2) (hI.2.2.2.1 _ (kin_lt (kleadsR hI c_1))) (hI.2.2.2.2.1 _ (kin_lt (kleadsR hI c_1)))) (cwV 2 C.1.2.2.2.2 (kgV kt_341 kt_329 kt_330 kt_2 kt_331) rfl rfl rfl kdH_addLeads ⟨Nat.le_of_ble_eq_true rfl, Nat.le_of_ble_eq_true rfl⟩) [8, 9, 10, 11, 12, 13, 14, 15, 16, 17, 18, 19, 20, 21, 22, 23, 24, 25, 26, 27, 28, 29, 30] [0, 1, 2, 3, 4, 5, 6, 7, 31, 32, 33, 34, 35, 36, 37] [0, 1, 2, 3, 4, 5, 6, 7, 15, 16, 17, 18, 19, 20, 21, 22, 23, 24, 25, 26, 27, 28, 29, 30, 31, 32, 33, 34, 35, 36, 37, 8, 9, 10, 11, 12, 13, 14] chR_H rhR_H ppR_H (by decide) (by decide) (by decide) (by decide) 0 1 rfl rfl rfl rfl rfl (Nat.le_of_ble_eq_true rfl) dR_leads_112 ⟨Nat.zero_le _, Nat.zero_le _⟩ ?_
          refine kw_iload_n C 1 dR_leads_115 rfl rfl ?_
          refine kw_eq rfl rfl ((congrArg (fun z90 => wR k ah ar ac ax a c t z90) (show (shH_addLeads h wall (leads - ((h_wallLeads h) wall.toNatClampNeg))) = shR_leads c t h wall leads from by unfold shR_leads; rw [if_neg c_1, if_neg c_2, if_neg c_3, if_neg c_4]))) ?_
          exact kx_iret C hr hlocks (by unfold oR_leads; rw [if_neg c_1, if_neg c_2, if_neg c_3, if_neg c_4]) (by unfold rR_leads; rw [if_neg c_1, if_neg c_2, if_neg c_3, if_neg c_4]) dR_leads_116
        · skip
          exact kx_throwISE hl9 C hlocks hEx hE hZ (by unfold oR_leads; rw [if_neg c_1, if_neg c_2, if_neg c_3, if_pos c_4]) 92 "too many leads at a room" (by decide +kernel) dR_leads_95 dR_leads_98 dR_leads_99 dR_leads_101 dR_leads_104 (Nat.le_of_ble_eq_true rfl) (Nat.le_of_ble_eq_true rfl) (Nat.le_of_ble_eq_true rfl) (Nat.le_of_ble_eq_true rfl)
    · skip
      exact kx_throwIAE hl9 C hlocks hEx hE hZ (by unfold oR_leads; rw [if_neg c_1, if_pos c_2]) 80 "no such wall or leads" (by decide +kernel) dR_leads_28 dR_leads_31 dR_leads_32 dR_leads_34 dR_leads_37 (Nat.le_of_ble_eq_true rfl) (Nat.le_of_ble_eq_true rfl) (Nat.le_of_ble_eq_true rfl) (Nat.le_of_ble_eq_true rfl)
noncomputable def oR_window (c : CS) (t : CS) (h : HS) (room : Int32) (side : Int32) (area : Int32) (limit : Int32) : String ⊕ Unit := if (rH_hasRoom h room) = 0 then .inl "java/lang/IllegalArgumentException" else (if (rR_isSide side) = 0 then .inl "java/lang/IllegalArgumentException" else (if (rR_isWithin area 0 100) = 0 then .inl "java/lang/IllegalArgumentException" else (if (rR_isWarmth limit) = 0 then .inl "java/lang/IllegalArgumentException" else (if (h_windows h) < 12 then .inr () else .inl "java/lang/IllegalStateException"))))
