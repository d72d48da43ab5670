noncomputable def rR_plan (c : CS) (t : CS) (h : HS) (room : Int32) (hour : Int32) (what : Int32) (v : Int32) : Int32 := if (rH_hasRoom h room) = 0 then 0 else (if (rR_isHour hour) = 0 then 0 else (if (rR_isWithin what 0 2) = 0 then 0 else (if (rR_isPlan what v) = 0 then 0 else ((h_plans h) what.toNatClampNeg) ((room * 24 + hour).toNatClampNeg))))
noncomputable def shR_plan (c : CS) (t : CS) (h : HS) (room : Int32) (hour : Int32) (what : Int32) (v : Int32) : HS := if (rH_hasRoom h room) = 0 then h else (if (rR_isHour hour) = 0 then h else (if (rR_isWithin what 0 2) = 0 then h else (if (rR_isPlan what v) = 0 then h else ((h_rooms h), (h_walls h), (h_windows h), (h_low h), (h_high h), (h_stores h), (h_leadsAt h), (h_mosts h), (va_up (h_plans h) what.toNatClampNeg (upd ((h_plans h) what.toNatClampNeg) ((room * 24 + hour).toNatClampNeg) v)), (h_wallFrom h), (h_wallTo h), (h_wallLeads h), (h_windowRoom h), (h_windowSide h), (h_windowArea h), (h_windowLimit h), (h_outsides h), (h_suns h)))))
set_option maxRecDepth 100000 in
set_option maxHeartbeats 4000000 in
theorem cR_plan (l : Launch) (D : va_G) (k : Nat → ClassId) (ah : Nat → Nat) (ar : Nat → Nat → Nat) (ac ax : Nat → Nat) (a : Nat) (c t : CS) (h : HS) (room : Int32) (hour : Int32) (what : Int32) (v : Int32) (hl9 : l.stackTraces = false) (hI : kInv h) : kNi l yR_plan (kwm yR_plan bR_plan 7 (some .int)) ({ frames := 6, cells := 1, slots := 6, locals := 82 }) D kcl (kty k) (wR k ah ar ac ax a c t h) (wR k ah ar ac ax a c t (shR_plan c t h room hour what v)) [.ref a, .int room, .int hour, .int what, .int v] (oR_plan c t h room hour what v) (rR_plan c t h room hour what v) := by
  refine k_enX_i (lv0 := [(0, .ref a), (1, .int room), (2, .int hour), (3, .int what), (4, .int v)]) rfl (by decide +kernel) (Nat.le_of_ble_eq_true rfl) rfl ?_
  intro p e s m args below meth c0 C hr hlocks hEx hE hZ
  refine kw_aload_n C 0 dR_plan_0 rfl rfl ?_
  refine kw_get (v := .ref (ah 0)) C 0 rfl rfl ku_R 0 (by decide) kt_189 rfl dR_plan_1 ?_
  refine kw_iload_n C 1 dR_plan_4 rfl rfl ?_
  refine kw_callPi (ws' := (wR k ah ar ac ax a c t h)) (st := []) C (cH_hasRoom l D k ah ar h room) (cwV 1 C.1.2.2.2.2 (kgV kt_312 kt_313 kt_314 kt_2 kt_315) rfl rfl rfl kdH_hasRoom ⟨Nat.le_of_ble_eq_true rfl, Nat.le_of_ble_eq_true rfl⟩) [8, 9, 10, 11, 12, 13, 14, 15, 16, 17, 18, 19, 20, 21, 22, 23, 24, 25, 26, 27, 28, 29, 30] [0, 1, 2, 3, 4, 5, 6, 7, 31, 32, 33, 34, 35, 36, 37] [0, 1, 2, 3, 4, 5, 6, 7, 15, 16, 17, 18, 19, 20, 21, 22, 23, 24, 25, 26, 27, 28, 29, 30, 31, 32, 33, 34, 35, 36, 37, 8, 9, 10, 11, 12, 13, 14] chR_H rhR_H ppR_H (by decide) (by decide) (by decide) (by decide) 0 1 rfl rfl rfl rfl rfl (Nat.le_of_ble_eq_true rfl) dR_plan_5 ⟨Nat.zero_le _, Nat.zero_le _⟩ ?_
  refine kw_if_eq (tgt := 18) C dR_plan_8 (by decide) (fun c_1 => ?_) (fun c_1 => ?_)
  · skip
    exact kx_throwIAE hl9 C hlocks hEx hE hZ (by unfold oR_plan; rw [if_pos c_1]) 128 "no such room or hour" (by decide +kernel) dR_plan_18 dR_plan_21 dR_plan_22 dR_plan_24 dR_plan_27 (Nat.le_of_ble_eq_true rfl) (Nat.le_of_ble_eq_true rfl) (Nat.le_of_ble_eq_true rfl) (Nat.le_of_ble_eq_true rfl)
  · skip
    refine kw_iload_n C 2 dR_plan_11 rfl rfl ?_
    refine kw_callSi (st := []) C (cR_isHour l D k hour) (va_cwS 1 C.1.2.2.2.2 (kgO kt_366 kt_367 kt_1 kt_368) rfl rfl rfl kdR_isHour ⟨Nat.le_of_ble_eq_true rfl, Nat.le_of_ble_eq_true rfl⟩) [] rfl rfl rfl rfl (Nat.le_of_ble_eq_true rfl) dR_plan_12 ⟨Nat.zero_le _, Nat.zero_le _⟩ rfl (wR k ah ar ac ax a c t h) rfl ?_
    refine kw_if_ne (tgt := 28) C dR_plan_15 (by decide) (fun c_2 => ?_) (fun c_2 => ?_)
    · skip
      refine kw_iload_n C 3 dR_plan_28 rfl rfl ?_
      refine kw_iconst (v := 0) C dR_plan_29 (by decide) ?_
      refine kw_iconst (v := 2) C dR_plan_30 (by decide) ?_
      refine kw_callSi (st := []) C (cR_isWithin l D k what 0 2) (va_cwS 3 C.1.2.2.2.2 (kgO kt_208 kt_209 kt_1 kt_210) rfl rfl rfl kdR_isWithin ⟨Nat.le_of_ble_eq_true rfl, Nat.le_of_ble_eq_true rfl⟩) [] rfl rfl rfl rfl (Nat.le_of_ble_eq_true rfl) dR_plan_31 ⟨Nat.zero_le _, Nat.zero_le _⟩ rfl (wR k ah ar ac ax a c t h) rfl ?_
      refine kw_if_eq (tgt := 46) C dR_plan_34 (by decide) (fun c_3 => ?_) (fun c_3 => ?_)
      · skip
        exact kx_throwIAE hl9 C hlocks hEx hE hZ (by unfold oR_plan; rw [if_neg c_1, if_neg c_2, if_pos c_3]) 133 "no such plan" (by decide +kernel) dR_plan_46 dR_plan_49 dR_plan_50 dR_plan_52 dR_plan_55 (Nat.le_of_ble_eq_true rfl) (Nat.le_of_ble_eq_true rfl) (Nat.le_of_ble_eq_true rfl) (Nat.le_of_ble_eq_true rfl)
      · skip
        refine kw_iload_n C 3 dR_plan_37 rfl rfl ?_
        refine kw_iload C 4 dR_plan_38 rfl ?_
        refine kw_callSi (st := []) C (cR_isPlan l D k what v) (va_cwS 2 C.1.2.2.2.2 (kgO kt_386 kt_387 kt_1 kt_388) rfl rfl rfl kdR_isPlan ⟨Nat.le_of_ble_eq_true rfl, Nat.le_of_ble_eq_true rfl⟩) [] rfl rfl rfl rfl (Nat.le_of_ble_eq_true rfl) dR_plan_40 ⟨Nat.zero_le _, Nat.zero_le _⟩ rfl (wR k ah ar ac ax a c t h) rfl ?_
        refine kw_if_ne (tgt := 56) C dR_plan_43 (by decide) (fun c_4 => ?_) (fun c_4 => ?_)
        · skip
          refine kw_iload_n C 1 dR_plan_56 rfl rfl ?_
          refine kw_bipush (v := 24) C dR_plan_57 (by decide) ?_
          refine kw_imul C dR_plan_59 ?_
          refine kw_iload_n C 2 dR_plan_60 rfl rfl ?_
          refine kw_iadd C dR_plan_61 ?_
          refine kw_istore (lv' := [(5, .int ((room * 24) + hour)), (0, .ref a), (1, .int room), (2, .int hour), (3, .int what), (4, .int v)]) C dR_plan_62 (by decide) rfl ?_
          refine kw_aload_n C 1 dR_plan_64 rfl rfl ?_
          refine kw_get (v := .ref (ah 0)) C 0 rfl rfl ku_R 0 (by decide) kt_189 rfl dR_plan_65 ?_
          refine kw_get (v := .ref (ah 4)) C 8 rfl rfl ku_H 4 (by decide) kt_43 rfl dR_plan_68 ?_
          refine kw_iload_n C 4 dR_plan_71 rfl rfl ?_
          refine kw_aldA (b := ar 1 what.toNatClampNeg) C 22 2 rfl rfl (kix_of (krw (N := 3) rfl (by decide) c_3)) (if_pos (kin_lt (krw (N := 3) rfl (by decide) c_3))) dR_plan_72 ?_
          refine kw_iload C 0 dR_plan_73 rfl ?_
          refine kw_iald C (23 + what.toNatClampNeg) 0 (pR_plans k ah ar ac ax a c t h _ (kin_lt (krw (N := 3) rfl (by decide) c_3))) rfl (kix_of (kplanR (kin_le (khas hI c_1) hI.1.2) (krh c_2))) dR_plan_75 ?_
          refine kw_istore (lv' := [(6, .int (((h_plans h) what.toNatClampNeg) ((room * 24 + hour).toNatClampNeg))), (5, .int ((room * 24) + hour)), (0, .ref a), (1, .int room), (2, .int hour), (3, .int what), (4, .int v)]) C dR_plan_76 (by decide) rfl ?_
          refine kw_aload_n C 2 dR_plan_78 rfl rfl ?_
          refine kw_get (v := .ref (ah 0)) C 0 rfl rfl ku_R 0 (by decide) kt_189 rfl dR_plan_79 ?_
          refine kw_get (v := .ref (ah 4)) C 8 rfl rfl ku_H 4 (by decide) kt_43 rfl dR_plan_82 ?_
          refine kw_iload_n C 5 dR_plan_85 rfl rfl ?_
          refine kw_aldA (b := ar 1 what.toNatClampNeg) C 22 2 rfl rfl (kix_of (krw (N := 3) rfl (by decide) c_3)) (if_pos (kin_lt (krw (N := 3) rfl (by decide) c_3))) dR_plan_86 ?_
          refine kw_iload C 1 dR_plan_87 rfl ?_
          refine kw_iload C 6 dR_plan_89 rfl ?_
          refine kw_iast C (23 + what.toNatClampNeg) 0 (pR_plans k ah ar ac ax a c t h _ (kin_lt (krw (N := 3) rfl (by decide) c_3))) rfl (kix_of (kplanR (kin_le (khas hI c_1) hI.1.2) (krh c_2))) dR_plan_91 (wR_h k ah ar ac ax a c t (h_rooms h) (h_walls h) (h_windows h) (h_low h) (h_high h) (h_stores h) (h_leadsAt h) (h_mosts h) (va_up (h_plans h) what.toNatClampNeg (upd ((h_plans h) what.toNatClampNeg) ((room * 24 + hour).toNatClampNeg) v)) (h_wallFrom h) (h_wallTo h) (h_wallLeads h) (h_windowRoom h) (h_windowSide h) (h_windowArea h) (h_windowLimit h) (h_outsides h) (h_suns h)) (sR_plans k ah ar ac ax a c t h _ _ (kin_lt (krw (N := 3) rfl (by decide) c_3))) ?_
          refine kw_iload C 0 dR_plan_92 rfl ?_
          refine kw_eq rfl rfl (mk_wR_h.trans (congrArg (fun z90 => wR k ah ar ac ax a c t z90) (show ((h_rooms h), (h_walls h), (h_windows h), (h_low h), (h_high h), (h_stores h), (h_leadsAt h), (h_mosts h), (va_up (h_plans h) what.toNatClampNeg (upd ((h_plans h) what.toNatClampNeg) ((room * 24 + hour).toNatClampNeg) v)), (h_wallFrom h), (h_wallTo h), (h_wallLeads h), (h_windowRoom h), (h_windowSide h), (h_windowArea h), (h_windowLimit h), (h_outsides h), (h_suns h)) = shR_plan c t h room hour what v from by unfold shR_plan; rw [if_neg c_1, if_neg c_2, if_neg c_3, if_neg c_4]))) ?_
          exact kx_iret C hr hlocks (by unfold oR_plan; rw [if_neg c_1, if_neg c_2, if_neg c_3, if_neg c_4]) (by unfold rR_plan; rw [if_neg c_1, if_neg c_2, if_neg c_3, if_neg c_4]) dR_plan_94
        · skip
          exact kx_throwIAE hl9 C hlocks hEx hE hZ (by unfold oR_plan; rw [if_neg c_1, if_neg c_2, if_neg c_3, if_pos c_4]) 133 "no such plan" (by decide +kernel) dR_plan_46 dR_plan_49 dR_plan_50 dR_plan_52 dR_plan_55 (Nat.le_of_ble_eq_true rfl) (Nat.le_of_ble_eq_true rfl) (Nat.le_of_ble_eq_true rfl) (Nat.le_of_ble_eq_true rfl)
    · skip
      exact kx_throwIAE hl9 C hlocks hEx hE hZ (by unfold oR_plan; rw [if_neg c_1, if_pos c_2]) 128 "no such room or hour" (by decide +kernel) dR_plan_18 dR_plan_21 dR_plan_22 dR_plan_24 dR_plan_27 (Nat.le_of_ble_eq_true rfl) (Nat.le_of_ble_eq_true rfl) (Nat.le_of_ble_eq_true rfl) (Nat.le_of_ble_eq_true rfl)
noncomputable def oR_most (c : CS) (t : CS) (h : HS) (room : Int32) (what : Int32) (v : Int32) : String ⊕ Unit := if (rH_hasRoom h room) = 0 then .inl "java/lang/IllegalArgumentException" else (if (rR_isWithin what 0 1) = 0 then .inl "java/lang/IllegalArgumentException" else (if (rR_isWithin v 0 1000000) = 0 then .inl "java/lang/IllegalArgumentException" else .inr ()))
