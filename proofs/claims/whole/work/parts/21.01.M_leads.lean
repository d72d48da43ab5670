noncomputable def rM_leads (gu : MU) (gv : MV) (wall : Int32) (lead : Int32) : Int32 := if (rM_in wall 0 ((m_walls gu) - 1)) = 0 then 0 else (if (rM_in lead 0 1000) = 0 then 0 else (if (rM_isTooMuch gu gv ((m_wallRoom gu) wall.toNatClampNeg) (lead - ((m_leads gu) wall.toNatClampNeg))) = 0 then (if (rM_isTooMuch gu gv ((m_wallOther gu) wall.toNatClampNeg) (lead - ((m_leads gu) wall.toNatClampNeg))) = 0 then (m_leads gu) wall.toNatClampNeg else 0) else 0))
noncomputable def sguM_leads (gu : MU) (gv : MV) (wall : Int32) (lead : Int32) : MU := if (rM_in wall 0 ((m_walls gu) - 1)) = 0 then (1, (m_rooms gu), (m_store gu), (m_mostHeating gu), (m_mostCooling gu), (m_began gu), (m_walls gu), (m_wallRoom gu), (m_wallOther gu), (m_leads gu), (m_windows gu), (m_windowRoom gu), (m_windowSide gu), (m_windowArea gu), (m_windowLimit gu), (m_outside gu), (m_sun gu), (m_persons gu), (m_set gu), (m_cool gu), (m_low gu), (m_high gu)) else (if (rM_in lead 0 1000) = 0 then (1, (m_rooms gu), (m_store gu), (m_mostHeating gu), (m_mostCooling gu), (m_began gu), (m_walls gu), (m_wallRoom gu), (m_wallOther gu), (m_leads gu), (m_windows gu), (m_windowRoom gu), (m_windowSide gu), (m_windowArea gu), (m_windowLimit gu), (m_outside gu), (m_sun gu), (m_persons gu), (m_set gu), (m_cool gu), (m_low gu), (m_high gu)) else (if (rM_isTooMuch gu gv ((m_wallRoom gu) wall.toNatClampNeg) (lead - ((m_leads gu) wall.toNatClampNeg))) = 0 then (if (rM_isTooMuch gu gv ((m_wallOther gu) wall.toNatClampNeg) (lead - ((m_leads gu) wall.toNatClampNeg))) = 0 then (0, (m_rooms gu), (m_store gu), (m_mostHeating gu), (m_mostCooling gu), (m_began gu), (m_walls gu), (m_wallRoom gu), (m_wallOther gu), (upd (m_leads gu) wall.toNatClampNeg lead), (m_windows gu), (m_windowRoom gu), (m_windowSide gu), (m_windowArea gu), (m_windowLimit gu), (m_outside gu), (m_sun gu), (m_persons gu), (m_set gu), (m_cool gu), (m_low gu), (m_high gu)) else (2, (m_rooms gu), (m_store gu), (m_mostHeating gu), (m_mostCooling gu), (m_began gu), (m_walls gu), (m_wallRoom gu), (m_wallOther gu), (m_leads gu), (m_windows gu), (m_windowRoom gu), (m_windowSide gu), (m_windowArea gu), (m_windowLimit gu), (m_outside gu), (m_sun gu), (m_persons gu), (m_set gu), (m_cool gu), (m_low gu), (m_high gu))) else (2, (m_rooms gu), (m_store gu), (m_mostHeating gu), (m_mostCooling gu), (m_began gu), (m_walls gu), (m_wallRoom gu), (m_wallOther gu), (m_leads gu), (m_windows gu), (m_windowRoom gu), (m_windowSide gu), (m_windowArea gu), (m_windowLimit gu), (m_outside gu), (m_sun gu), (m_persons gu), (m_set gu), (m_cool gu), (m_low gu), (m_high gu))))
set_option maxRecDepth 100000 in
set_option maxHeartbeats 4000000 in
theorem cM_leads (l : Launch) (D : va_G) (k : Nat → ClassId) (am : Nat → Nat) (gu : MU) (gv : MV) (wall : Int32) (lead : Int32) (hI : mInv gu) : kMi l yM_leads (kwm yM_leads bM_leads 5 (some .int)) ({ frames := 1, cells := 0, slots := 0, locals := 25 }) D kcl (kty k) (wM k am gu gv) (wM k am (sguM_leads gu gv wall lead) gv) [.ref (am 0), .int wall, .int lead] (rM_leads gu gv wall lead) := by
  refine k_entry_i (lv0 := [(0, .ref (am 0)), (1, .int wall), (2, .int lead)]) rfl (by decide +kernel) (Nat.le_of_ble_eq_true rfl) rfl ?_
  intro p e s m args below meth c0 C hr hlocks
  refine kw_iload_n C 1 dM_leads_0 rfl rfl ?_
  refine kw_iconst (v := 0) C dM_leads_1 (by decide) ?_
  refine kw_aload_n C 0 dM_leads_2 rfl rfl ?_
  refine kw_get (v := .int (m_walls gu)) C 0 rfl rfl ku_M 11 (by decide) kt_567 rfl dM_leads_3 ?_
  refine kw_iconst (v := 1) C dM_leads_6 (by decide) ?_
  refine kw_isub C dM_leads_7 ?_
  refine kw_callSi (st := []) C (cM_in l D k wall 0 ((m_walls gu) - 1)) (va_cwS 3 C.1.2.2.2.2 (kgO kt_676 kt_677 kt_5 kt_678) rfl rfl rfl kdM_in ⟨Nat.le_of_ble_eq_true rfl, Nat.le_of_ble_eq_true rfl⟩) [] rfl rfl rfl rfl (Nat.le_of_ble_eq_true rfl) dM_leads_8 ⟨Nat.zero_le _, Nat.zero_le _⟩ rfl (wM k am gu gv) rfl ?_
  refine kw_if_eq (tgt := 29) C dM_leads_11 (by decide) (fun c_1 => ?_) (fun c_1 => ?_)
  · skip
    refine kw_iconst (v := 0) C dM_leads_29 (by decide) ?_
    refine kw_istore_n (lv' := [(3, .int 0), (0, .ref (am 0)), (1, .int wall), (2, .int lead)]) C dM_leads_30 rfl (by decide) rfl ?_
    refine kw_aload_n C 1 dM_leads_31 rfl rfl ?_
    refine kw_iload_n C 0 dM_leads_32 rfl rfl ?_
    refine kw_if_ne (tgt := 40) C dM_leads_33 (by decide) (fun c_2 => ?_) (fun c_2 => ?_)
    · skip
      exact absurd (by decide) c_2
    · skip
      refine kw_iconst (v := 1) C dM_leads_36 (by decide) ?_
      refine kw_goto (tgt := 87) C dM_leads_37 (by decide) ?_
      refine kw_put C 0 rfl rfl ku_M tM_ok nM 0 (by decide) kt_556 rfl (ty := .int) (by decide +kernel) rfl rfl (Nat.le_of_ble_eq_true rfl) dM_leads_87 (wM_gu k am 1 (m_rooms gu) (m_store gu) (m_mostHeating gu) (m_mostCooling gu) (m_began gu) (m_walls gu) (m_wallRoom gu) (m_wallOther gu) (m_leads gu) (m_windows gu) (m_windowRoom gu) (m_windowSide gu) (m_windowArea gu) (m_windowLimit gu) (m_outside gu) (m_sun gu) (m_persons gu) (m_set gu) (m_cool gu) (m_low gu) (m_high gu) gv) rfl ?_
      refine kw_aload_n C 1 dM_leads_90 rfl rfl ?_
      refine kw_get (v := .int 1) C 0 rfl rfl ku_M 0 (by decide) kt_556 rfl dM_leads_91 ?_
      refine kw_if_le (tgt := 99) C dM_leads_94 (by decide) (fun c_3 => ?_) (fun c_3 => ?_)
      · skip
        exact absurd c_3 (by decide)
      · skip
        refine kw_iconst (v := 0) C dM_leads_97 (by decide) ?_
        refine kw_eq rfl rfl (mk_wM_gu.trans (congrArg (fun z90 => wM k am z90 gv) (show (1, (m_rooms gu), (m_store gu), (m_mostHeating gu), (m_mostCooling gu), (m_began gu), (m_walls gu), (m_wallRoom gu), (m_wallOther gu), (m_leads gu), (m_windows gu), (m_windowRoom gu), (m_windowSide gu), (m_windowArea gu), (m_windowLimit gu), (m_outside gu), (m_sun gu), (m_persons gu), (m_set gu), (m_cool gu), (m_low gu), (m_high gu)) = sguM_leads gu gv wall lead from by unfold sguM_leads; rw [if_pos c_1]))) ?_
        exact kw_iret C hr hlocks (by unfold rM_leads; rw [if_pos c_1]) dM_leads_98
  · skip
    refine kw_iload_n C 2 dM_leads_14 rfl rfl ?_
    refine kw_iconst (v := 0) C dM_leads_15 (by decide) ?_
    refine kw_sipush (v := 1000) C dM_leads_16 (by decide) ?_
    refine kw_callSi (st := []) C (cM_in l D k lead 0 1000) (va_cwS 3 C.1.2.2.2.2 (kgO kt_676 kt_677 kt_5 kt_678) rfl rfl rfl kdM_in ⟨Nat.le_of_ble_eq_true rfl, Nat.le_of_ble_eq_true rfl⟩) [] rfl rfl rfl rfl (Nat.le_of_ble_eq_true rfl) dM_leads_19 ⟨Nat.zero_le _, Nat.zero_le _⟩ rfl (wM k am gu gv) rfl ?_
    refine kw_if_eq (tgt := 29) C dM_leads_22 (by decide) (fun c_4 => ?_) (fun c_4 => ?_)
    · skip
      refine kw_iconst (v := 0) C dM_leads_29 (by decide) ?_
      refine kw_istore_n (lv' := [(3, .int 0), (0, .ref (am 0)), (1, .int wall), (2, .int lead)]) C dM_leads_30 rfl (by decide) rfl ?_
      refine kw_aload_n C 1 dM_leads_31 rfl rfl ?_
      refine kw_iload_n C 0 dM_leads_32 rfl rfl ?_
      refine kw_if_ne (tgt := 40) C dM_leads_33 (by decide) (fun c_5 => ?_) (fun c_5 => ?_)
      · skip
        exact absurd (by decide) c_5
      · skip
        refine kw_iconst (v := 1) C dM_leads_36 (by decide) ?_
        refine kw_goto (tgt := 87) C dM_leads_37 (by decide) ?_
        refine kw_put C 0 rfl rfl ku_M tM_ok nM 0 (by decide) kt_556 rfl (ty := .int) (by decide +kernel) rfl rfl (Nat.le_of_ble_eq_true rfl) dM_leads_87 (wM_gu k am 1 (m_rooms gu) (m_store gu) (m_mostHeating gu) (m_mostCooling gu) (m_began gu) (m_walls gu) (m_wallRoom gu) (m_wallOther gu) (m_leads gu) (m_windows gu) (m_windowRoom gu) (m_windowSide gu) (m_windowArea gu) (m_windowLimit gu) (m_outside gu) (m_sun gu) (m_persons gu) (m_set gu) (m_cool gu) (m_low gu) (m_high gu) gv) rfl ?_
        refine kw_aload_n C 1 dM_leads_90 rfl rfl ?_
        refine kw_get (v := .int 1) C 0 rfl rfl ku_M 0 (by decide) kt_556 rfl dM_leads_91 ?_
        refine kw_if_le (tgt := 99) C dM_leads_94 (by decide) (fun c_6 => ?_) (fun c_6 => ?_)
        · skip
          exact absurd c_6 (by decide)
        · skip
          refine kw_iconst (v := 0) C dM_leads_97 (by decide) ?_
          refine kw_eq rfl rfl (mk_wM_gu.trans (congrArg (fun z90 => wM k am z90 gv) (show (1, (m_rooms gu), (m_store gu), (m_mostHeating gu), (m_mostCooling gu), (m_began gu), (m_walls gu), (m_wallRoom gu), (m_wallOther gu), (m_leads gu), (m_windows gu), (m_windowRoom gu), (m_windowSide gu), (m_windowArea gu), (m_windowLimit gu), (m_outside gu), (m_sun gu), (m_persons gu), (m_set gu), (m_cool gu), (m_low gu), (m_high gu)) = sguM_leads gu gv wall lead from by unfold sguM_leads; rw [if_neg c_1, if_pos c_4]))) ?_
          exact kw_iret C hr hlocks (by unfold rM_leads; rw [if_neg c_1, if_pos c_4]) dM_leads_98
    · skip
      refine kw_iconst (v := 1) C dM_leads_25 (by decide) ?_
      refine kw_goto (tgt := 30) C dM_leads_26 (by decide) ?_
      refine kw_istore_n (lv' := [(3, .int 1), (0, .ref (am 0)), (1, .int wall), (2, .int lead)]) C dM_leads_30 rfl (by decide) rfl ?_
      refine kw_aload_n C 1 dM_leads_31 rfl rfl ?_
      refine kw_iload_n C 0 dM_leads_32 rfl rfl ?_
      refine kw_if_ne (tgt := 40) C dM_leads_33 (by decide) (fun c_7 => ?_) (fun c_7 => ?_)
      · skip
        refine kw_aload_n C 1 dM_leads_40 rfl rfl ?_
        refine kw_aload_n C 1 dM_leads_41 rfl rfl ?_
        refine kw_get (v := .ref (am 9)) C 0 rfl rfl ku_M 12 (by decide) kt_568 rfl dM_leads_42 ?_
        refine kw_iload_n C 2 dM_leads_45 rfl rfl ?_
        refine kw_iald C 9 0 rfl rfl (kix_of (kin_le (kleadsM hI c_1) hI.2.1.2)) dM_leads_46 ?_
        refine kw_iload_n C 3 dM_leads_47 rfl rfl ?_
        refine kw_aload_n C 1 dM_leads_48 rfl rfl ?_
        refine kw_get (v := .ref (am 11)) C 0 rfl rfl ku_M 14 (by decide) kt_570 rfl dM_leads_49 ?_
        refine kw_iload_n C 2 dM_leads_52 rfl rfl ?_
        refine kw_iald C 11 0 rfl rfl (kix_of (kin_le (kleadsM hI c_1) hI.2.1.2)) dM_leads_53 ?_
        refine kw_isub C dM_leads_54 ?_
        refine kw_callAi (w1 := (wM k am gu gv)) (st := [.ref (am 0)]) C (cM_isTooMuch l D k am gu gv ((m_wallRoom gu) wall.toNatClampNeg) (lead - ((m_leads gu) wall.toNatClampNeg)) hI (Or.inr (hI.2.2.2.1 _ (kin_lt (kleadsM hI c_1))))) (cwV 2 C.1.2.2.2.2 (kgV kt_690 kt_692 ks_M_isTooMuch kt_5 kt_693) rfl rfl rfl kdM_isTooMuch ⟨Nat.le_of_ble_eq_true rfl, Nat.le_of_ble_eq_true rfl⟩) 0 3 rfl rfl rfl rfl rfl (Nat.le_of_ble_eq_true rfl) dM_leads_55 ⟨Nat.zero_le _, Nat.zero_le _⟩ (ad_wM.trans ad_wM.symm) ?_
        refine kw_if_ne (tgt := 82) C dM_leads_58 (by decide) (fun c_8 => ?_) (fun c_8 => ?_)
        · skip
          refine kw_iconst (v := 2) C dM_leads_82 (by decide) ?_
          refine kw_goto (tgt := 87) C dM_leads_83 (by decide) ?_
          refine kw_put C 0 rfl rfl ku_M tM_ok nM 0 (by decide) kt_556 rfl (ty := .int) (by decide +kernel) rfl rfl (Nat.le_of_ble_eq_true rfl) dM_leads_87 (wM_gu k am 2 (m_rooms gu) (m_store gu) (m_mostHeating gu) (m_mostCooling gu) (m_began gu) (m_walls gu) (m_wallRoom gu) (m_wallOther gu) (m_leads gu) (m_windows gu) (m_windowRoom gu) (m_windowSide gu) (m_windowArea gu) (m_windowLimit gu) (m_outside gu) (m_sun gu) (m_persons gu) (m_set gu) (m_cool gu) (m_low gu) (m_high gu) gv) rfl ?_
          refine kw_aload_n C 1 dM_leads_90 rfl rfl ?_
          refine kw_get (v := .int 2) C 0 rfl rfl ku_M 0 (by decide) kt_556 rfl dM_leads_91 ?_
          refine kw_if_le (tgt := 99) C dM_leads_94 (by decide) (fun c_9 => ?_) (fun c_9 => ?_)
          · skip
            exact absurd c_9 (by decide)
          · skip
            refine kw_iconst (v := 0) C dM_leads_97 (by decide) ?_
            refine kw_eq rfl rfl (mk_wM_gu.trans (congrArg (fun z90 => wM k am z90 gv) (show (2, (m_rooms gu), (m_store gu), (m_mostHeating gu), (m_mostCooling gu), (m_began gu), (m_walls gu), (m_wallRoom gu), (m_wallOther gu), (m_leads gu), (m_windows gu), (m_windowRoom gu), (m_windowSide gu), (m_windowArea gu), (m_windowLimit gu), (m_outside gu), (m_sun gu), (m_persons gu), (m_set gu), (m_cool gu), (m_low gu), (m_high gu)) = sguM_leads gu gv wall lead from by unfold sguM_leads; rw [if_neg c_1, if_neg c_4, if_neg c_8]))) ?_
            exact kw_iret C hr hlocks (by unfold rM_leads; rw [if_neg c_1, if_neg c_4, if_neg c_8]) dM_leads_98
        · skip
          refine kw_aload_n C 1 dM_leads_61 rfl rfl ?_
          refine kw_aload_n C 1 dM_leads_62 rfl rfl ?_
          refine kw_get (v := .ref (am 10)) C 0 rfl rfl ku_M 13 (by decide) kt_569 rfl dM_leads_63 ?_
          refine kw_iload_n C 2 dM_leads_66 rfl rfl ?_
          refine kw_iald C 10 0 rfl rfl (kix_of (kin_le (kleadsM hI c_1) hI.2.1.2)) dM_leads_67 ?_
          refine kw_iload_n C 3 dM_leads_68 rfl rfl ?_
          refine kw_aload_n C 1 dM_leads_69 rfl rfl ?_
          refine kw_get (v := .ref (am 11)) C 0 rfl rfl ku_M 14 (by decide) kt_570 rfl dM_leads_70 ?_
          refine kw_iload_n C 2 dM_leads_73 rfl rfl ?_
          refine kw_iald C 11 0 rfl rfl (kix_of (kin_le (kleadsM hI c_1) hI.2.1.2)) dM_leads_74 ?_
          refine kw_isub C dM_leads_75 ?_
          refine kw_callAi (w1 := (wM k am gu gv)) (st := [.ref (am 0)]) C (cM_isTooMuch l D k am gu gv ((m_wallOther gu) wall.toNatClampNeg) (lead - ((m_leads gu) wall.toNatClampNeg)) hI (koth (hI.2.2.2.2.1 _ (kin_lt (kleadsM hI c_1))))) (cwV 2 C.1.2.2.2.2 (kgV kt_690 kt_692 ks_M_isTooMuch kt_5 kt_693) rfl rfl rfl kdM_isTooMuch ⟨Nat.le_of_ble_eq_true rfl, Nat.le_of_ble_eq_true rfl⟩) 0 3 rfl rfl rfl rfl rfl (Nat.le_of_ble_eq_true rfl) dM_leads_76 ⟨Nat.zero_le _, Nat.zero_le _⟩ (ad_wM.trans ad_wM.symm) ?_
          refine kw_if_eq (tgt := 86) C dM_leads_79 (by decide) (fun c_10 => ?_) (fun c_10 => ?_)
          · skip
            refine kw_iconst (v := 0) C dM_leads_86 (by decide) ?_
            refine kw_put C 0 rfl rfl ku_M tM_ok nM 0 (by decide) kt_556 rfl (ty := .int) (by decide +kernel) rfl rfl (Nat.le_of_ble_eq_true rfl) dM_leads_87 (wM_gu k am 0 (m_rooms gu) (m_store gu) (m_mostHeating gu) (m_mostCooling gu) (m_began gu) (m_walls gu) (m_wallRoom gu) (m_wallOther gu) (m_leads gu) (m_windows gu) (m_windowRoom gu) (m_windowSide gu) (m_windowArea gu) (m_windowLimit gu) (m_outside gu) (m_sun gu) (m_persons gu) (m_set gu) (m_cool gu) (m_low gu) (m_high gu) gv) rfl ?_
            refine kw_aload_n C 1 dM_leads_90 rfl rfl ?_
            refine kw_get (v := .int 0) C 0 rfl rfl ku_M 0 (by decide) kt_556 rfl dM_leads_91 ?_
            refine kw_if_le (tgt := 99) C dM_leads_94 (by decide) (fun c_11 => ?_) (fun c_11 => ?_)
            · skip
              refine kw_aload_n C 1 dM_leads_99 rfl rfl ?_
              refine kw_get (v := .ref (am 11)) C 0 rfl rfl ku_M 14 (by decide) kt_570 rfl dM_leads_100 ?_
              refine kw_iload_n C 2 dM_leads_103 rfl rfl ?_
              refine kw_iald C 11 0 rfl rfl (kix_of (kin_le (kleadsM hI c_1) hI.2.1.2)) dM_leads_104 ?_
              refine kw_istore (lv' := [(4, .int ((m_leads gu) wall.toNatClampNeg)), (3, .int 1), (0, .ref (am 0)), (1, .int wall), (2, .int lead)]) C dM_leads_105 (by decide) rfl ?_
              refine kw_aload_n C 2 dM_leads_107 rfl rfl ?_
              refine kw_get (v := .ref (am 11)) C 0 rfl rfl ku_M 14 (by decide) kt_570 rfl dM_leads_108 ?_
              refine kw_iload_n C 3 dM_leads_111 rfl rfl ?_
              refine kw_iload_n C 4 dM_leads_112 rfl rfl ?_
              refine kw_iast C 11 0 rfl rfl (kix_of (kin_le (kleadsM hI c_1) hI.2.1.2)) dM_leads_113 (wM_gu k am 0 (m_rooms gu) (m_store gu) (m_mostHeating gu) (m_mostCooling gu) (m_began gu) (m_walls gu) (m_wallRoom gu) (m_wallOther gu) (upd (m_leads gu) wall.toNatClampNeg lead) (m_windows gu) (m_windowRoom gu) (m_windowSide gu) (m_windowArea gu) (m_windowLimit gu) (m_outside gu) (m_sun gu) (m_persons gu) (m_set gu) (m_cool gu) (m_low gu) (m_high gu) gv) rfl ?_
              refine kw_iload C 0 dM_leads_114 rfl ?_
              refine kw_eq rfl rfl (mk_wM_gu.trans (congrArg (fun z90 => wM k am z90 gv) (show (0, (m_rooms gu), (m_store gu), (m_mostHeating gu), (m_mostCooling gu), (m_began gu), (m_walls gu), (m_wallRoom gu), (m_wallOther gu), (upd (m_leads gu) wall.toNatClampNeg lead), (m_windows gu), (m_windowRoom gu), (m_windowSide gu), (m_windowArea gu), (m_windowLimit gu), (m_outside gu), (m_sun gu), (m_persons gu), (m_set gu), (m_cool gu), (m_low gu), (m_high gu)) = sguM_leads gu gv wall lead from by unfold sguM_leads; rw [if_neg c_1, if_neg c_4, if_pos c_8, if_pos c_10]))) ?_
              exact kw_iret C hr hlocks (by unfold rM_leads; rw [if_neg c_1, if_neg c_4, if_pos c_8, if_pos c_10]) dM_leads_116
            · skip
              exact absurd (by decide) c_11
          · skip
            refine kw_iconst (v := 2) C dM_leads_82 (by decide) ?_
            refine kw_goto (tgt := 87) C dM_leads_83 (by decide) ?_
            refine kw_put C 0 rfl rfl ku_M tM_ok nM 0 (by decide) kt_556 rfl (ty := .int) (by decide +kernel) rfl rfl (Nat.le_of_ble_eq_true rfl) dM_leads_87 (wM_gu k am 2 (m_rooms gu) (m_store gu) (m_mostHeating gu) (m_mostCooling gu) (m_began gu) (m_walls gu) (m_wallRoom gu) (m_wallOther gu) (m_leads gu) (m_windows gu) (m_windowRoom gu) (m_windowSide gu) (m_windowArea gu) (m_windowLimit gu) (m_outside gu) (m_sun gu) (m_persons gu) (m_set gu) (m_cool gu) (m_low gu) (m_high gu) gv) rfl ?_
            refine kw_aload_n C 1 dM_leads_90 rfl rfl ?_
            refine kw_get (v := .int 2) C 0 rfl rfl ku_M 0 (by decide) kt_556 rfl dM_leads_91 ?_
            refine kw_if_le (tgt := 99) C dM_leads_94 (by decide) (fun c_12 => ?_) (fun c_12 => ?_)
            · skip
              exact absurd c_12 (by decide)
            · skip
              refine kw_iconst (v := 0) C dM_leads_97 (by decide) ?_
              refine kw_eq rfl rfl (mk_wM_gu.trans (congrArg (fun z90 => wM k am z90 gv) (show (2, (m_rooms gu), (m_store gu), (m_mostHeating gu), (m_mostCooling gu), (m_began gu), (m_walls gu), (m_wallRoom gu), (m_wallOther gu), (m_leads gu), (m_windows gu), (m_windowRoom gu), (m_windowSide gu), (m_windowArea gu), (m_windowLimit gu), (m_outside gu), (m_sun gu), (m_persons gu), (m_set gu), (m_cool gu), (m_low gu), (m_high gu)) = sguM_leads gu gv wall lead from by unfold sguM_leads; rw [if_neg c_1, if_neg c_4, if_pos c_8, if_neg c_10]))) ?_
              exact kw_iret C hr hlocks (by unfold rM_leads; rw [if_neg c_1, if_neg c_4, if_pos c_8, if_neg c_10]) dM_leads_98
      · skip
        exact absurd c_7 (by decide)
