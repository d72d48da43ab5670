theorem kwalls20 {h : HS} (hI : kInv h) (hc : ¬ 20 ≤ h_walls h) : vp_in (h_walls h) 20 := by
  rw [hI.2.1.1] at hc ⊢
  rw [show (20 : Int32) = nI 20 from rfl, nI_leI (by decide) (by have := hI.2.1.2; omega)] at hc
  exact vp_in_nI (by omega) (by decide)
theorem kwin12 {h : HS} (hI : kInv h) (hc : h_windows h < 12) : vp_in (h_windows h) 12 := by
  rw [hI.2.2.1.1] at hc ⊢
  rw [show (12 : Int32) = nI 12 from rfl, nI_ltI (by have := hI.2.2.1.2; omega) (by decide)] at hc
  exact vp_in_nI hc (by decide)
theorem kleadsR {h : HS} {x : Int32} (hI : kInv h) (hc : ¬ rR_isWithin x 0 (h_walls h - 1) = 0) : vp_in x (hnW h) := by
  rw [hI.2.1.1] at hc
  exact krw rfl (by have := hI.2.1.2; omega) hc
noncomputable def oR_wall (c : CS) (t : CS) (h : HS) (room : Int32) (other : Int32) (leads : Int32) : String ⊕ Unit := if (rH_hasRoom h room) = 0 then .inl "java/lang/IllegalArgumentException" else (if room = other then .inl "java/lang/IllegalArgumentException" else (if (rR_isWithin leads 0 1000) = 0 then .inl "java/lang/IllegalArgumentException" else (if other = (-1) then (if 20 ≤ (h_walls h) then .inl "java/lang/IllegalStateException" else (if (rH_bears h room leads) = 0 then .inl "java/lang/IllegalStateException" else (if (rH_bears h other leads) = 0 then .inl "java/lang/IllegalStateException" else .inr ()))) else (if (rH_hasRoom h other) = 0 then .inl "java/lang/IllegalArgumentException" else (if 20 ≤ (h_walls h) then .inl "java/lang/IllegalStateException" else (if (rH_bears h room leads) = 0 then .inl "java/lang/IllegalStateException" else (if (rH_bears h other leads) = 0 then .inl "java/lang/IllegalStateException" else .inr ())))))))
noncomputable def rR_wall (c : CS) (t : CS) (h : HS) (room : Int32) (other : Int32) (leads : Int32) : Int32 := if (rH_hasRoom h room) = 0 then 0 else (if room = other then 0 else (if (rR_isWithin leads 0 1000) = 0 then 0 else (if other = (-1) then (if 20 ≤ (h_walls h) then 0 else (if (rH_bears h room leads) = 0 then 0 else (if (rH_bears h other leads) = 0 then 0 else (rH_addWall h room other leads)))) else (if (rH_hasRoom h other) = 0 then 0 else (if 20 ≤ (h_walls h) then 0 else (if (rH_bears h room leads) = 0 then 0 else (if (rH_bears h other leads) = 0 then 0 else (rH_addWall h room other leads))))))))
noncomputable def shR_wall (c : CS) (t : CS) (h : HS) (room : Int32) (other : Int32) (leads : Int32) : HS := if (rH_hasRoom h room) = 0 then h else (if room = other then h else (if (rR_isWithin leads 0 1000) = 0 then h else (if other = (-1) then (if 20 ≤ (h_walls h) then h else (if (rH_bears h room leads) = 0 then h else (if (rH_bears h other leads) = 0 then h else (shH_addWall h room other leads)))) else (if (rH_hasRoom h other) = 0 then h else (if 20 ≤ (h_walls h) then h else (if (rH_bears h room leads) = 0 then h else (if (rH_bears h other leads) = 0 then h else (shH_addWall h room other leads))))))))
set_option maxRecDepth 100000 in
set_option maxHeartbeats 4000000 in
theorem cR_wall (l : Launch) (D : va_G) (k : Nat → ClassId) (ah : Nat → Nat) (ar : Nat → Nat → Nat) (ac ax : Nat → Nat) (a : Nat) (c t : CS) (h : HS) (room : Int32) (other : Int32) (leads : Int32) (hl9 : l.stackTraces = false) (hI : kInv h) : kNi l yR_wall (kwm yR_wall bR_wall 4 (some .int)) ({ frames := 6, cells := 1, slots := 6, locals := 82 }) D kcl (kty k) (wR k ah ar ac ax a c t h) (wR k ah ar ac ax a c t (shR_wall c t h room other leads)) [.ref a, .int room, .int other, .int leads] (oR_wall c t h room other leads) (rR_wall c t h room other leads) := by
  refine k_enX_i (lv0 := [(0, .ref a), (1, .int room), (2, .int other), (3, .int leads)]) rfl (by decide +kernel) (Nat.le_of_ble_eq_true rfl) rfl ?_
  intro p e s m args below meth c0 C hr hlocks hEx hE hZ
  refine kw_aload_n C 0 dR_wall_0 rfl rfl ?_
  refine kw_get (v := .ref (ah 0)) C 0 rfl rfl ku_R 0 (by decide) kt_189 rfl dR_wall_1 ?_
  refine kw_iload_n C 1 dR_wall_4 rfl rfl ?_
  refine kw_callPi (ws' := (wR k ah ar ac ax a c t h)) (st := []) C (cH_hasRoom l D k ah ar h room) (cwV 1 C.1.2.2.2.2 (kgV kt_312 kt_313 kt_314 kt_2 kt_315) rfl rfl rfl kdH_hasRoom ⟨Nat.le_of_ble_eq_true rfl, Nat.le_of_ble_eq_true rfl⟩) [8, 9, 10, 11, 12, 13, 14, 15, 16, 17, 18, 19, 20, 21, 22, 23, 24, 25, 26, 27, 28, 29, 30] [0, 1, 2, 3, 4, 5, 6, 7, 31, 32, 33, 34, 35, 36, 37] [0, 1, 2, 3, 4, 5, 6, 7, 15, 16, 17, 18, 19, 20, 21, 22, 23, 24, 25, 26, 27, 28, 29, 30, 31, 32, 33, 34, 35, 36, 37, 8, 9, 10, 11, 12, 13, 14] chR_H rhR_H ppR_H (by decide) (by decide) (by decide) (by decide) 0 1 rfl rfl rfl rfl rfl (Nat.le_of_ble_eq_true rfl) dR_wall_5 ⟨Nat.zero_le _, Nat.zero_le _⟩ ?_
  refine kw_if_eq (tgt := 27) C dR_wall_8 (by decide) (fun c_1 => ?_) (fun c_1 => ?_)
  · skip
    exact kx_throwIAE hl9 C hlocks hEx hE hZ (by unfold oR_wall; rw [if_pos c_1]) 63 "no such room or leads, or both rooms are one" (by decide +kernel) dR_wall_27 dR_wall_30 dR_wall_31 dR_wall_33 dR_wall_36 (Nat.le_of_ble_eq_true rfl) (Nat.le_of_ble_eq_true rfl) (Nat.le_of_ble_eq_true rfl) (Nat.le_of_ble_eq_true rfl)
  · skip
    refine kw_iload_n C 1 dR_wall_11 rfl rfl ?_
    refine kw_iload_n C 2 dR_wall_12 rfl rfl ?_
    refine kw_icmp_eq (tgt := 27) C dR_wall_13 (by decide) (fun c_2 => ?_) (fun c_2 => ?_)
    · skip
      exact kx_throwIAE hl9 C hlocks hEx hE hZ (by unfold oR_wall; rw [if_neg c_1, if_pos c_2]) 63 "no such room or leads, or both rooms are one" (by decide +kernel) dR_wall_27 dR_wall_30 dR_wall_31 dR_wall_33 dR_wall_36 (Nat.le_of_ble_eq_true rfl) (Nat.le_of_ble_eq_true rfl) (Nat.le_of_ble_eq_true rfl) (Nat.le_of_ble_eq_true rfl)
    · skip
      refine kw_iload_n C 3 dR_wall_16 rfl rfl ?_
      refine kw_iconst (v := 0) C dR_wall_17 (by decide) ?_
      refine kw_sipush (v := 1000) C dR_wall_18 (by decide) ?_
      refine kw_callSi (st := []) C (cR_isWithin l D k leads 0 1000) (va_cwS 3 C.1.2.2.2.2 (kgO kt_208 kt_209 kt_1 kt_210) rfl rfl rfl kdR_isWithin ⟨Nat.le_of_ble_eq_true rfl, Nat.le_of_ble_eq_true rfl⟩) [] rfl rfl rfl rfl (Nat.le_of_ble_eq_true rfl) dR_wall_21 ⟨Nat.zero_le _, Nat.zero_le _⟩ rfl (wR k ah ar ac ax a c t h) rfl ?_
      refine kw_if_ne (tgt := 37) C dR_wall_24 (by decide) (fun c_3 => ?_) (fun c_3 => ?_)
      · skip
        refine kw_iload_n C 2 dR_wall_37 rfl rfl ?_
        refine kw_iconst (v := -1) C dR_wall_38 (by decide) ?_
        refine kw_icmp_eq (tgt := 63) C dR_wall_39 (by decide) (fun c_4 => ?_) (fun c_4 => ?_)
        · skip
          refine kw_aload_n C 0 dR_wall_63 rfl rfl ?_
          refine kw_get (v := .ref (ah 0)) C 0 rfl rfl ku_R 0 (by decide) kt_189 rfl dR_wall_64 ?_
          refine kw_get (v := .int (h_walls h)) C 8 rfl rfl ku_H 5 (by decide) kt_45 rfl dR_wall_67 ?_
          refine kw_bipush (v := 20) C dR_wall_70 (by decide) ?_
          refine kw_icmp_ge (tgt := 99) C dR_wall_72 (by decide) (fun c_5 => ?_) (fun c_5 => ?_)
          · skip
            exact kx_throwISE hl9 C hlocks hEx hE hZ (by unfold oR_wall; rw [if_neg c_1, if_neg c_2, if_neg c_3, if_pos c_4, if_pos c_5]) 74 "there are 20 walls, or too many leads at a room" (by decide +kernel) dR_wall_99 dR_wall_102 dR_wall_103 dR_wall_105 dR_wall_108 (Nat.le_of_ble_eq_true rfl) (Nat.le_of_ble_eq_true rfl) (Nat.le_of_ble_eq_true rfl) (Nat.le_of_ble_eq_true rfl)
          · skip
            refine kw_aload_n C 0 dR_wall_75 rfl rfl ?_
            refine kw_get (v := .ref (ah 0)) C 0 rfl rfl ku_R 0 (by decide) kt_189 rfl dR_wall_76 ?_
            refine kw_iload_n C 1 dR_wall_79 rfl rfl ?_
            refine kw_iload_n C 3 dR_wall_80 rfl rfl ?_
            refine kw_callPi (ws' := (wR k ah ar ac ax a c t h)) (st := []) C (cH_bears l D k ah ar h room leads hI) (cwV 2 C.1.2.2.2.2 (kgV kt_318 kt_319 kt_320 kt_2 kt_321) rfl rfl rfl kdH_bears ⟨Nat.le_of_ble_eq_true rfl, Nat.le_of_ble_eq_true rfl⟩) [8, 9, 10, 11, 12, 13, 14, 15, 16, 17, 18, 19, 20, 21, 22, 23, 24, 25, 26, 27, 28, 29, 30] [0, 1, 2, 3, 4, 5, 6, 7, 31, 32, 33, 34, 35, 36, 37] [0, 1, 2, 3, 4, 5, 6, 7, 15, 16, 17, 18, 19, 20, 21, 22, 23, 24, 25, 26, 27, 28, 29, 30, 31, 32, 33, 34, 35, 36, 37, 8, 9, 10, 11, 12, 13, 14] chR_H rhR_H ppR_H (by decide) (by decide) (by decide) (by decide) 0 1 rfl rfl rfl rfl rfl (Nat.le_of_ble_eq_true rfl) dR_wall_81 ⟨Nat.zero_le _, Nat.zero_le _⟩ ?_
            refine kw_if_eq (tgt := 99) C dR_wall_84 (by decide) (fun c_6 => ?_) (fun c_6 => ?_)
            · skip
              exact kx_throwISE hl9 C hlocks hEx hE hZ (by unfold oR_wall; rw [if_neg c_1, if_neg c_2, if_neg c_3, if_pos c_4, if_neg c_5, if_pos c_6]) 74 "there are 20 walls, or too many leads at a room" (by decide +kernel) dR_wall_99 dR_wall_102 dR_wall_103 dR_wall_105 dR_wall_108 (Nat.le_of_ble_eq_true rfl) (Nat.le_of_ble_eq_true rfl) (Nat.le_of_ble_eq_true rfl) (Nat.le_of_ble_eq_true rfl)
            · skip
              refine kw_aload_n C 0 dR_wall_87 rfl rfl ?_
              refine kw_get (v := .ref (ah 0)) C 0 rfl rfl ku_R 0 (by decide) kt_189 rfl dR_wall_88 ?_
              refine kw_iload_n C 2 dR_wall_91 rfl rfl ?_
              refine kw_iload_n C 3 dR_wall_92 rfl rfl ?_
              refine kw_callPi (ws' := (wR k ah ar ac ax a c t h)) (st := []) C (cH_bears l D k ah ar h other leads hI) (cwV 2 C.1.2.2.2.2 (kgV kt_318 kt_319 kt_320 kt_2 kt_321) rfl rfl rfl kdH_bears ⟨Nat.le_of_ble_eq_true rfl, Nat.le_of_ble_eq_true rfl⟩) [8, 9, 10, 11, 12, 13, 14, 15, 16, 17, 18, 19, 20, 21, 22, 23, 24, 25, 26, 27, 28, 29, 30] [0, 1, 2, 3, 4, 5, 6, 7, 31, 32, 33, 34, 35, 36, 37] [0, 1, 2, 3, 4, 5, 6, 7, 15, 16, 17, 18, 19, 20, 21, 22, 23, 24, 25, 26, 27, 28, 29, 30, 31, 32, 33, 34, 35, 36, 37, 8, 9, 10, 11, 12, 13, 14] chR_H rhR_H ppR_H (by decide) (by decide) (by decide) (by decide) 0 1 rfl rfl rfl rfl rfl (Nat.le_of_ble_eq_true rfl) dR_wall_93 ⟨Nat.zero_le _, Nat.zero_le _⟩ ?_
              refine kw_if_ne (tgt := 109) C dR_wall_96 (by decide) (fun c_7 => ?_) (fun c_7 => ?_)
              · skip
                refine kw_aload_n C 0 dR_wall_109 rfl rfl ?_
                refine kw_get (v := .ref (ah 0)) C 0 rfl rfl ku_R 0 (by decide) kt_189 rfl dR_wall_110 ?_
                refine kw_iload_n C 1 dR_wall_113 rfl rfl ?_
                refine kw_iload_n C 2 dR_wall_114 rfl rfl ?_
                refine kw_iload_n C 3 dR_wall_115 rfl rfl ?_
                refine kw_callPi (ws' := (wR k ah ar ac ax a c t (shH_addWall h room other leads))) (st := []) C (cH_addWall l D k ah ar h room other leads (kwalls20 hI c_5) (kin_le (khas hI c_1) hI.1.2) (Or.inl c_4)) (cwV 3 C.1.2.2.2.2 (kgV kt_324 kt_325 kt_326 kt_2 kt_327) rfl rfl rfl kdH_addWall ⟨Nat.le_of_ble_eq_true rfl, Nat.le_of_ble_eq_true rfl⟩) [8, 9, 10, 11, 12, 13, 14, 15, 16, 17, 18, 19, 20, 21, 22, 23, 24, 25, 26, 27, 28, 29, 30] [0, 1, 2, 3, 4, 5, 6, 7, 31, 32, 33, 34, 35, 36, 37] [0, 1, 2, 3, 4, 5, 6, 7, 15, 16, 17, 18, 19, 20, 21, 22, 23, 24, 25, 26, 27, 28, 29, 30, 31, 32, 33, 34, 35, 36, 37, 8, 9, 10, 11, 12, 13, 14] chR_H rhR_H ppR_H (by decide) (by decide) (by decide) (by decide) 0 1 rfl rfl rfl rfl rfl (Nat.le_of_ble_eq_true rfl) dR_wall_116 ⟨Nat.zero_le _, Nat.zero_le _⟩ ?_
                refine kw_eq rfl rfl ((congrArg (fun z90 => wR k ah ar ac ax a c t z90) (show (shH_addWall h room other leads) = shR_wall c t h room other leads from by unfold shR_wall; rw [if_neg c_1, if_neg c_2, if_neg c_3, if_pos c_4, if_neg c_5, if_neg c_6, if_neg c_7]))) ?_
                exact kx_iret C hr hlocks (by unfold oR_wall; rw [if_neg c_1, if_neg c_2, if_neg c_3, if_pos c_4, if_neg c_5, if_neg c_6, if_neg c_7]) (by unfold rR_wall; rw [if_neg c_1, if_neg c_2, if_neg c_3, if_pos c_4, if_neg c_5, if_neg c_6, if_neg c_7]) dR_wall_119
              · skip
                exact kx_throwISE hl9 C hlocks hEx hE hZ (by unfold oR_wall; rw [if_neg c_1, if_neg c_2, if_neg c_3, if_pos c_4, if_neg c_5, if_neg c_6, if_pos c_7]) 74 "there are 20 walls, or too many leads at a room" (by decide +kernel) dR_wall_99 dR_wall_102 dR_wall_103 dR_wall_105 dR_wall_108 (Nat.le_of_ble_eq_true rfl) (Nat.le_of_ble_eq_true rfl) (Nat.le_of_ble_eq_true rfl) (Nat.le_of_ble_eq_true rfl)
        · skip
          refine kw_aload_n C 0 dR_wall_42 rfl rfl ?_
          refine kw_get (v := .ref (ah 0)) C 0 rfl rfl ku_R 0 (by decide) kt_189 rfl dR_wall_43 ?_
          refine kw_iload_n C 2 dR_wall_46 rfl rfl ?_
          refine kw_callPi (ws' := (wR k ah ar ac ax a c t h)) (st := []) C (cH_hasRoom l D k ah ar h other) (cwV 1 C.1.2.2.2.2 (kgV kt_312 kt_313 kt_314 kt_2 kt_315) rfl rfl rfl kdH_hasRoom ⟨Nat.le_of_ble_eq_true rfl, Nat.le_of_ble_eq_true rfl⟩) [8, 9, 10, 11, 12, 13, 14, 15, 16, 17, 18, 19, 20, 21, 22, 23, 24, 25, 26, 27, 28, 29, 30] [0, 1, 2, 3, 4, 5, 6, 7, 31, 32, 33, 34, 35, 36, 37] [0, 1, 2, 3, 4, 5, 6, 7, 15, 16, 17, 18, 19, 20, 21, 22, 23, 24, 25, 26, 27, 28, 29, 30, 31, 32, 33, 34, 35, 36, 37, 8, 9, 10, 11, 12, 13, 14] chR_H rhR_H ppR_H (by decide) (by decide) (by decide) (by decide) 0 1 rfl rfl rfl rfl rfl (Nat.le_of_ble_eq_true rfl) dR_wall_47 ⟨Nat.zero_le _, Nat.zero_le _⟩ ?_
          refine kw_if_ne (tgt := 63) C dR_wall_50 (by decide) (fun c_8 => ?_) (fun c_8 => ?_)
          · skip
            refine kw_aload_n C 0 dR_wall_63 rfl rfl ?_
            refine kw_get (v := .ref (ah 0)) C 0 rfl rfl ku_R 0 (by decide) kt_189 rfl dR_wall_64 ?_
            refine kw_get (v := .int (h_walls h)) C 8 rfl rfl ku_H 5 (by decide) kt_45 rfl dR_wall_67 ?_
            refine kw_bipush (v := 20) C dR_wall_70 (by decide) ?_
            refine kw_icmp_ge (tgt := 99) C dR_wall_72 (by decide) (fun c_9 => ?_) (fun c_9 => ?_)
            · skip
              exact kx_throwISE hl9 C hlocks hEx hE hZ (by unfold oR_wall; rw [if_neg c_1, if_neg c_2, if_neg c_3, if_neg c_4, if_neg c_8, if_pos c_9]) 74 "there are 20 walls, or too many leads at a room" (by decide +kernel) dR_wall_99 dR_wall_102 dR_wall_103 dR_wall_105 dR_wall_108 (Nat.le_of_ble_eq_true rfl) (Nat.le_of_ble_eq_true rfl) (Nat.le_of_ble_eq_true rfl) (Nat.le_of_ble_eq_true rfl)
            · skip
              refine kw_aload_n C 0 dR_wall_75 rfl rfl ?_
              refine kw_get (v := .ref (ah 0)) C 0 rfl rfl ku_R 0 (by decide) kt_189 rfl dR_wall_76 ?_
              refine kw_iload_n C 1 dR_wall_79 rfl rfl ?_
              refine kw_iload_n C 3 dR_wall_80 rfl rfl ?_
              refine kw_callPi (ws' := (wR k ah ar ac ax a c t h)) (st := []) C (cH_bears l D k ah ar h room leads hI) (cwV 2 C.1.2.2.2.2 (kgV kt_318 kt_319 kt_320 kt_2 kt_321) rfl rfl rfl kdH_bears ⟨Nat.le_of_ble_eq_true rfl, Nat.le_of_ble_eq_true rfl⟩) [8, 9, 10, 11, 12, 13, 14, 15, 16, 17, 18, 19, 20, 21, 22, 23, 24, 25, 26, 27, 28, 29, 30] [0, 1, 2, 3, 4, 5, 6, 7, 31, 32, 33, 34, 35, 36, 37] [0, 1, 2, 3, 4, 5, 6, 7, 15, 16, 17, 18, 19, 20, 21, 22, 23, 24, 25, 26, 27, 28, 29, 30, 31, 32, 33, 34, 35, 36, 37, 8, 9, 10, 11, 12, 13, 14] chR_H rhR_H ppR_H (by decide) (by decide) (by decide) (by decide) 0 1 rfl rfl rfl rfl rfl (Nat.le_of_ble_eq_true rfl) dR_wall_81 ⟨Nat.zero_le _, Nat.zero_le _⟩ ?_
              refine kw_if_eq (tgt := 99) C dR_wall_84 (by decide) (fun c_10 => ?_) (fun c_10 => ?_)
              · skip
                exact kx_throwISE hl9 C hlocks hEx hE hZ (by unfold oR_wall; rw [if_neg c_1, if_neg c_2, if_neg c_3, if_neg c_4, if_neg c_8, if_neg c_9, if_pos c_10]) 74 "there are 20 walls, or too many leads at a room" (by decide +kernel) dR_wall_99 dR_wall_102 dR_wall_103 dR_wall_105 dR_wall_108 (Nat.le_of_ble_eq_true rfl) (Nat.le_of_ble_eq_true rfl) (Nat.le_of_ble_eq_true rfl) (Nat.le_of_ble_eq_true rfl)
              · skip
                refine kw_aload_n C 0 dR_wall_87 rfl rfl ?_
                refine kw_get (v := .ref (ah 0)) C 0 rfl rfl ku_R 0 (by decide) kt_189 rfl dR_wall_88 ?_
                refine kw_iload_n C 2 dR_wall_91 rfl rfl ?_
                refine kw_iload_n C 3 dR_wall_92 rfl rfl ?_
                refine kw_callPi (ws' := (wR k ah ar ac ax a c t h)) (st := []) C (cH_bears l D k ah ar h other leads hI) (cwV 2 C.1.2.2.2.2 (kgV kt_318 kt_319 kt_320 kt_2 kt_321) rfl rfl rfl kdH_bears ⟨Nat.le_of_ble_eq_true rfl, Nat.le_of_ble_eq_true rfl⟩) [8, 9, 10, 11, 12, 13, 14, 15, 16, 17, 18, 19, 20, 21, 22, 23, 24, 25, 26, 27, 28, 29, 30] [0, 1, 2, 3, 4, 5, 6, 7, 31, 32, 33, 34, 35, 36, 37] [0, 1, 2, 3, 4, 5, 6, 7, 15, 16, 17, 18, 19, 20, 21, 22, 23, 24, 25, 26, 27, 28, 29, 30, 31, 32, 33, 34, 35, 36, 37, 8, 9, 10, 11, 12, 13, 14] chR_H rhR_H ppR_H (by decide) (by decide) (by decide) (by decide) 0 1 rfl rfl rfl rfl rfl (Nat.le_of_ble_eq_true rfl) dR_wall_93 ⟨Nat.zero_le _, Nat.zero_le _⟩ ?_
                refine kw_if_ne (tgt := 109) C dR_wall_96 (by decide) (fun c_11 => ?_) (fun c_11 => ?_)
                · skip
                  refine kw_aload_n C 0 dR_wall_109 rfl rfl ?_
                  refine kw_get (v := .ref (ah 0)) C 0 rfl rfl ku_R 0 (by decide) kt_189 rfl dR_wall_110 ?_
                  refine kw_iload_n C 1 dR_wall_113 rfl rfl ?_
                  refine kw_iload_n C 2 dR_wall_114 rfl rfl ?_
                  refine kw_iload_n C 3 dR_wall_115 rfl rfl ?_
                  refine kw_callPi (ws' := (wR k ah ar ac ax a c t (shH_addWall h room other leads))) (st := []) C (cH_addWall l D k ah ar h room other leads (kwalls20 hI c_9) (kin_le (khas hI c_1) hI.1.2) (Or.inr (kin_le (khas hI c_8) hI.1.2))) (cwV 3 C.1.2.2.2.2 (kgV kt_324 kt_325 kt_326 kt_2 kt_327) rfl rfl rfl kdH_addWall ⟨Nat.le_of_ble_eq_true rfl, Nat.le_of_ble_eq_true rfl⟩) [8, 9, 10, 11, 12, 13, 14, 15, 16, 17, 18, 19, 20, 21, 22, 23, 24, 25, 26, 27, 28, 29, 30] [0, 1, 2, 3, 4, 5, 6, 7, 31, 32, 33, 34, 35, 36, 37] [0, 1, 2, 3, 4, 5, 6, 7, 15, 16, 17, 18, 19, 20, 21, 22, 23, 24, 25, 26, 27, 28, 29, 30, 31, 32, 33, 34, 35, 36, 37, 8, 9, 10, 11, 12, 13, 14] chR_H rhR_H ppR_H (by decide) (by decide) (by decide) (by decide) 0 1 rfl rfl rfl rfl rfl (Nat.le_of_ble_eq_true rfl) dR_wall_116 ⟨Nat.zero_le _, Nat.zero_le _⟩ ?_
                  refine kw_eq rfl rfl ((congrArg (fun z90 => wR k ah ar ac ax a c t z90) (show (shH_addWall h room other leads) = shR_wall c t h room other leads from by unfold shR_wall; rw [if_neg c_1, if_neg c_2, if_neg c_3, if_neg c_4, if_neg c_8, if_neg c_9, if_neg c_10, if_neg c_11]))) ?_
                  exact kx_iret C hr hlocks (by unfold oR_wall; rw [if_neg c_1, if_neg c_2, if_neg c_3, if_neg c_4, if_neg c_8, if_neg c_9, if_neg c_10, if_neg c_11]) (by unfold rR_wall; rw [if_neg c_1, if_neg c_2, if_neg c_3, if_neg c_4, if_neg c_8, if_neg c_9, if_neg c_10, if_neg c_11]) dR_wall_119
                · skip
                  exact kx_throwISE hl9 C hlocks hEx hE hZ (by unfold oR_wall; rw [if_neg c_1, if_neg c_2, if_neg c_3, if_neg c_4, if_neg c_8, if_neg c_9, if_neg c_10, if_pos c_11]) 74 "there are 20 walls, or too many leads at a room" (by decide +kernel) dR_wall_99 dR_wall_102 dR_wall_103 dR_wall_105 dR_wall_108 (Nat.le_of_ble_eq_true rfl) (Nat.le_of_ble_eq_true rfl) (Nat.le_of_ble_eq_true rfl) (Nat.le_of_ble_eq_true rfl)
          · skip
            exact kx_throwIAE hl9 C hlocks hEx hE hZ (by unfold oR_wall; rw [if_neg c_1, if_neg c_2, if_neg c_3, if_neg c_4, if_pos c_8]) 65 "no such other room" (by decide +kernel) dR_wall_53 dR_wall_56 dR_wall_57 dR_wall_59 dR_wall_62 (Nat.le_of_ble_eq_true rfl) (Nat.le_of_ble_eq_true rfl) (Nat.le_of_ble_eq_true rfl) (Nat.le_of_ble_eq_true rfl)
      · skip
        exact kx_throwIAE hl9 C hlocks hEx hE hZ (by unfold oR_wall; rw [if_neg c_1, if_neg c_2, if_pos c_3]) 63 "no such room or leads, or both rooms are one" (by decide +kernel) dR_wall_27 dR_wall_30 dR_wall_31 dR_wall_33 dR_wall_36 (Nat.le_of_ble_eq_true rfl) (Nat.le_of_ble_eq_true rfl) (Nat.le_of_ble_eq_true rfl) (Nat.le_of_ble_eq_true rfl)
noncomputable def oR_leads (c : CS) (t : CS) (h : HS) (wall : Int32) (leads : Int32) : String ⊕ Unit := if (rR_isWithin wall 0 ((h_walls h) - 1)) = 0 then .inl "java/lang/IllegalArgumentException" else (if (rR_isWithin leads 0 1000) = 0 then .inl "java/lang/IllegalArgumentException" else (if (rH_bears h ((h_wallFrom h) wall.toNatClampNeg) (leads - ((h_wallLeads h) wall.toNatClampNeg))) = 0 then .inl "java/lang/IllegalStateException" else (if (rH_bears h ((h_wallTo h) wall.toNatClampNeg) (leads - ((h_wallLeads h) wall.toNatClampNeg))) = 0 then .inl "java/lang/IllegalStateException" else .inr ())))
