def rM_window (gu : MU) (gv : MV) (r : Int32) (side : Int32) (area : Int32) (limit : Int32) : Int32 := if (rM_isRoom gu gv r) = 0 then 0 else (if (rM_in side 0 3) = 0 then 0 else (if (rM_in area 0 100) = 0 then 0 else (if (rM_isWarmth limit) = 0 then 0 else (if (m_windows gu) = 12 then 0 else ((m_windows gu) + 1) - 1))))
noncomputable def sguM_window (gu : MU) (gv : MV) (r : Int32) (side : Int32) (area : Int32) (limit : Int32) : MU := if (rM_isRoom gu gv r) = 0 then (1, (m_rooms gu), (m_store gu), (m_mostHeating gu), (m_mostCooling gu), (m_began gu), (m_walls gu), (m_wallRoom gu), (m_wallOther gu), (m_leads gu), (m_windows gu), (m_windowRoom gu), (m_windowSide gu), (m_windowArea gu), (m_windowLimit gu), (m_outside gu), (m_sun gu), (m_persons gu), (m_set gu), (m_cool gu), (m_low gu), (m_high gu)) else (if (rM_in side 0 3) = 0 then (1, (m_rooms gu), (m_store gu), (m_mostHeating gu), (m_mostCooling gu), (m_began gu), (m_walls gu), (m_wallRoom gu), (m_wallOther gu), (m_leads gu), (m_windows gu), (m_windowRoom gu), (m_windowSide gu), (m_windowArea gu), (m_windowLimit gu), (m_outside gu), (m_sun gu), (m_persons gu), (m_set gu), (m_cool gu), (m_low gu), (m_high gu)) else (if (rM_in area 0 100) = 0 then (1, (m_rooms gu), (m_store gu), (m_mostHeating gu), (m_mostCooling gu), (m_began gu), (m_walls gu), (m_wallRoom gu), (m_wallOther gu), (m_leads gu), (m_windows gu), (m_windowRoom gu), (m_windowSide gu), (m_windowArea gu), (m_windowLimit gu), (m_outside gu), (m_sun gu), (m_persons gu), (m_set gu), (m_cool gu), (m_low gu), (m_high gu)) else (if (rM_isWarmth limit) = 0 then (1, (m_rooms gu), (m_store gu), (m_mostHeating gu), (m_mostCooling gu), (m_began gu), (m_walls gu), (m_wallRoom gu), (m_wallOther gu), (m_leads gu), (m_windows gu), (m_windowRoom gu), (m_windowSide gu), (m_windowArea gu), (m_windowLimit gu), (m_outside gu), (m_sun gu), (m_persons gu), (m_set gu), (m_cool gu), (m_low gu), (m_high gu)) else (if (m_windows gu) = 12 then (2, (m_rooms gu), (m_store gu), (m_mostHeating gu), (m_mostCooling gu), (m_began gu), (m_walls gu), (m_wallRoom gu), (m_wallOther gu), (m_leads gu), (m_windows gu), (m_windowRoom gu), (m_windowSide gu), (m_windowArea gu), (m_windowLimit gu), (m_outside gu), (m_sun gu), (m_persons gu), (m_set gu), (m_cool gu), (m_low gu), (m_high gu)) else (0, (m_rooms gu), (m_store gu), (m_mostHeating gu), (m_mostCooling gu), (m_began gu), (m_walls gu), (m_wallRoom gu), (m_wallOther gu), (m_leads gu), ((m_windows gu) + 1), (upd (m_windowRoom gu) ((m_windows gu).toNatClampNeg) r), (upd (m_windowSide gu) ((m_windows gu).toNatClampNeg) side), (upd (m_windowArea gu) ((m_windows gu).toNatClampNeg) area), (upd (m_windowLimit gu) ((m_windows gu).toNatClampNeg) limit), (m_outside gu), (m_sun gu), (m_persons gu), (m_set gu), (m_cool gu), (m_low gu), (m_high gu))))))
set_option maxRecDepth 100000 in
set_option maxHeartbeats 4000000 in
theorem cM_window (l : Launch) (D : va_G) (k : Nat → ClassId) (am : Nat → Nat) (gu : MU) (gv : MV) (r : Int32) (side : Int32) (area : Int32) (limit : Int32) (hI : mInv gu) : kMi l yM_window (kwm yM_window bM_window 6 (some .int)) ({ frames := 2, cells := 0, slots := 0, locals := 43 }) D kcl (kty k) (wM k am gu gv) (wM k am (sguM_window gu gv r side area limit) gv) [.ref (am 0), .int r, .int side, .int area, .int limit] (rM_window gu gv r side area limit) := by
  refine k_entry_i (lv0 := [(0, .ref (am 0)), (1, .int r), (2, .int side), (3, .int area), (4, .int limit)]) rfl (by decide +kernel) (Nat.le_of_ble_eq_true rfl) rfl ?_
  intro p e s m args below meth c0 C hr hlocks
  refine kw_aload_n C 0 dM_window_0 rfl rfl ?_
  refine kw_iload_n C 1 dM_window_1 rfl rfl ?_
  refine kw_callAi (w1 := (wM k am gu gv)) (st := []) C (cM_isRoom l D k am gu gv r) (cwV 1 C.1.2.2.2.2 (kgV kt_686 kt_688 ks_M_isRoom kt_5 kt_689) rfl rfl rfl kdM_isRoom ⟨Nat.le_of_ble_eq_true rfl, Nat.le_of_ble_eq_true rfl⟩) 0 3 rfl rfl rfl rfl rfl (Nat.le_of_ble_eq_true rfl) dM_window_2 ⟨Nat.zero_le _, Nat.zero_le _⟩ (ad_wM.trans ad_wM.symm) ?_
  refine kw_if_eq (tgt := 39) C dM_window_5 (by decide) (fun c_1 => ?_) (fun c_1 => ?_)
  · skip
    refine kw_iconst (v := 0) C dM_window_39 (by decide) ?_
    refine kw_istore (lv' := [(5, .int 0), (0, .ref (am 0)), (1, .int r), (2, .int side), (3, .int area), (4, .int limit)]) C dM_window_40 (by decide) rfl ?_
    refine kw_aload_n C 1 dM_window_42 rfl rfl ?_
    refine kw_iload C 0 dM_window_43 rfl ?_
    refine kw_if_ne (tgt := 52) C dM_window_45 (by decide) (fun c_2 => ?_) (fun c_2 => ?_)
    · skip
      exact absurd (by decide) c_2
    · skip
      refine kw_iconst (v := 1) C dM_window_48 (by decide) ?_
      refine kw_goto (tgt := 66) C dM_window_49 (by decide) ?_
      refine kw_put C 0 rfl rfl ku_M tM_ok nM 0 (by decide) kt_556 rfl (ty := .int) (by decide +kernel) rfl rfl (Nat.le_of_ble_eq_true rfl) dM_window_66 (wM_gu k am 1 (m_rooms gu) (m_store gu) (m_mostHeating gu) (m_mostCooling gu) (m_began gu) (m_walls gu) (m_wallRoom gu) (m_wallOther gu) (m_leads gu) (m_windows gu) (m_windowRoom gu) (m_windowSide gu) (m_windowArea gu) (m_windowLimit gu) (m_outside gu) (m_sun gu) (m_persons gu) (m_set gu) (m_cool gu) (m_low gu) (m_high gu) gv) rfl ?_
      refine kw_aload_n C 1 dM_window_69 rfl rfl ?_
      refine kw_get (v := .int 1) C 0 rfl rfl ku_M 0 (by decide) kt_556 rfl dM_window_70 ?_
      refine kw_if_le (tgt := 78) C dM_window_73 (by decide) (fun c_3 => ?_) (fun c_3 => ?_)
      · skip
        exact absurd c_3 (by decide)
      · skip
        refine kw_iconst (v := 0) C dM_window_76 (by decide) ?_
        refine kw_eq rfl rfl (mk_wM_gu.trans (congrArg (fun z90 => wM k am z90 gv) (show (1, (m_rooms gu), (m_store gu), (m_mostHeating gu), (m_mostCooling gu), (m_began gu), (m_walls gu), (m_wallRoom gu), (m_wallOther gu), (m_leads gu), (m_windows gu), (m_windowRoom gu), (m_windowSide gu), (m_windowArea gu), (m_windowLimit gu), (m_outside gu), (m_sun gu), (m_persons gu), (m_set gu), (m_cool gu), (m_low gu), (m_high gu)) = sguM_window gu gv r side area limit from by unfold sguM_window; rw [if_pos c_1]))) ?_
        exact kw_iret C hr hlocks (by unfold rM_window; rw [if_pos c_1]) dM_window_77
  · skip
    refine kw_iload_n C 2 dM_window_8 rfl rfl ?_
    refine kw_iconst (v := 0) C dM_window_9 (by decide) ?_
    refine kw_iconst (v := 3) C dM_window_10 (by decide) ?_
    refine kw_callSi (st := []) C (cM_in l D k side 0 3) (va_cwS 3 C.1.2.2.2.2 (kgO kt_676 kt_677 kt_5 kt_678) rfl rfl rfl kdM_in ⟨Nat.le_of_ble_eq_true rfl, Nat.le_of_ble_eq_true rfl⟩) [] rfl rfl rfl rfl (Nat.le_of_ble_eq_true rfl) dM_window_11 ⟨Nat.zero_le _, Nat.zero_le _⟩ rfl (wM k am gu gv) rfl ?_
    refine kw_if_eq (tgt := 39) C dM_window_14 (by decide) (fun c_4 => ?_) (fun c_4 => ?_)
    · skip
      refine kw_iconst (v := 0) C dM_window_39 (by decide) ?_
      refine kw_istore (lv' := [(5, .int 0), (0, .ref (am 0)), (1, .int r), (2, .int side), (3, .int area), (4, .int limit)]) C dM_window_40 (by decide) rfl ?_
      refine kw_aload_n C 1 dM_window_42 rfl rfl ?_
      refine kw_iload C 0 dM_window_43 rfl ?_
      refine kw_if_ne (tgt := 52) C dM_window_45 (by decide) (fun c_5 => ?_) (fun c_5 => ?_)
      · skip
        exact absurd (by decide) c_5
      · skip
        refine kw_iconst (v := 1) C dM_window_48 (by decide) ?_
        refine kw_goto (tgt := 66) C dM_window_49 (by decide) ?_
        refine kw_put C 0 rfl rfl ku_M tM_ok nM 0 (by decide) kt_556 rfl (ty := .int) (by decide +kernel) rfl rfl (Nat.le_of_ble_eq_true rfl) dM_window_66 (wM_gu k am 1 (m_rooms gu) (m_store gu) (m_mostHeating gu) (m_mostCooling gu) (m_began gu) (m_walls gu) (m_wallRoom gu) (m_wallOther gu) (m_leads gu) (m_windows gu) (m_windowRoom gu) (m_windowSide gu) (m_windowArea gu) (m_windowLimit gu) (m_outside gu) (m_sun gu) (m_persons gu) (m_set gu) (m_cool gu) (m_low gu) (m_high gu) gv) rfl ?_
        refine kw_aload_n C 1 dM_window_69 rfl rfl ?_
        refine kw_get (v := .int 1) C 0 rfl rfl ku_M 0 (by decide) kt_556 rfl dM_window_70 ?_
        refine kw_if_le (tgt := 78) C dM_window_73 (by decide) (fun c_6 => ?_) (fun c_6 => ?_)
        · skip
          exact absurd c_6 (by decide)
        · skip
          refine kw_iconst (v := 0) C dM_window_76 (by decide) ?_
          refine kw_eq rfl rfl (mk_wM_gu.trans (congrArg (fun z90 => wM k am z90 gv) (show (1, (m_rooms gu), (m_store gu), (m_mostHeating gu), (m_mostCooling gu), (m_began gu), (m_walls gu), (m_wallRoom gu), (m_wallOther gu), (m_leads gu), (m_windows gu), (m_windowRoom gu), (m_windowSide gu), (m_windowArea gu), (m_windowLimit gu), (m_outside gu), (m_sun gu), (m_persons gu), (m_set gu), (m_cool gu), (m_low gu), (m_high gu)) = sguM_window gu gv r side area limit from by unfold sguM_window; rw [if_neg c_1, if_pos c_4]))) ?_
          exact kw_iret C hr hlocks (by unfold rM_window; rw [if_neg c_1, if_pos c_4]) dM_window_77
    · skip
      refine kw_iload_n C 3 dM_window_17 rfl rfl ?_
      refine kw_iconst (v := 0) C dM_window_18 (by decide) ?_
      refine kw_bipush (v := 100) C dM_window_19 (by decide) ?_
      refine kw_callSi (st := []) C (cM_in l D k area 0 100) (va_cwS 3 C.1.2.2.2.2 (kgO kt_676 kt_677 kt_5 kt_678) rfl rfl rfl kdM_in ⟨Nat.le_of_ble_eq_true rfl, Nat.le_of_ble_eq_true rfl⟩) [] rfl rfl rfl rfl (Nat.le_of_ble_eq_true rfl) dM_window_21 ⟨Nat.zero_le _, Nat.zero_le _⟩ rfl (wM k am gu gv) rfl ?_
      refine kw_if_eq (tgt := 39) C dM_window_24 (by decide) (fun c_7 => ?_) (fun c_7 => ?_)
      · skip
        refine kw_iconst (v := 0) C dM_window_39 (by decide) ?_
        refine kw_istore (lv' := [(5, .int 0), (0, .ref (am 0)), (1, .int r), (2, .int side), (3, .int area), (4, .int limit)]) C dM_window_40 (by decide) rfl ?_
        refine kw_aload_n C 1 dM_window_42 rfl rfl ?_
        refine kw_iload C 0 dM_window_43 rfl ?_
        refine kw_if_ne (tgt := 52) C dM_window_45 (by decide) (fun c_8 => ?_) (fun c_8 => ?_)
        · skip
          exact absurd (by decide) c_8
        · skip
          refine kw_iconst (v := 1) C dM_window_48 (by decide) ?_
          refine kw_goto (tgt := 66) C dM_window_49 (by decide) ?_
          refine kw_put C 0 rfl rfl ku_M tM_ok nM 0 (by decide) kt_556 rfl (ty := .int) (by decide +kernel) rfl rfl (Nat.le_of_ble_eq_true rfl) dM_window_66 (wM_gu k am 1 (m_rooms gu) (m_store gu) (m_mostHeating gu) (m_mostCooling gu) (m_began gu) (m_walls gu) (m_wallRoom gu) (m_wallOther gu) (m_leads gu) (m_windows gu) (m_windowRoom gu) (m_windowSide gu) (m_windowArea gu) (m_windowLimit gu) (m_outside gu) (m_sun gu) (m_persons gu) (m_set gu) (m_cool gu) (m_low gu) (m_high gu) gv) rfl ?_
          refine kw_aload_n C 1 dM_window_69 rfl rfl ?_
          refine kw_get (v := .int 1) C 0 rfl rfl ku_M 0 (by decide) kt_556 rfl dM_window_70 ?_
          refine kw_if_le (tgt := 78) C dM_window_73 (by decide) (fun c_9 => ?_) (fun c_9 => ?_)
          · skip
            exact absurd c_9 (by decide)
          · skip
            refine kw_iconst (v := 0) C dM_window_76 (by decide) ?_
            refine kw_eq rfl rfl (mk_wM_gu.trans (congrArg (fun z90 => wM k am z90 gv) (show (1, (m_rooms gu), (m_store gu), (m_mostHeating gu), (m_mostCooling gu), (m_began gu), (m_walls gu), (m_wallRoom gu), (m_wallOther gu), (m_leads gu), (m_windows gu), (m_windowRoom gu), (m_windowSide gu), (m_windowArea gu), (m_windowLimit gu), (m_outside gu), (m_sun gu), (m_persons gu), (m_set gu), (m_cool gu), (m_low gu), (m_high gu)) = sguM_window gu gv r side area limit from by unfold sguM_window; rw [if_neg c_1, if_neg c_4, if_pos c_7]))) ?_
            exact kw_iret C hr hlocks (by unfold rM_window; rw [if_neg c_1, if_neg c_4, if_pos c_7]) dM_window_77
      · skip
        refine kw_iload C 4 dM_window_27 rfl ?_
        refine kw_callSi (st := []) C (cM_isWarmth l D k limit) (va_cwS 1 C.1.2.2.2.2 (kgO kt_679 kt_680 kt_5 kt_681) rfl rfl rfl kdM_isWarmth ⟨Nat.le_of_ble_eq_true rfl, Nat.le_of_ble_eq_true rfl⟩) [] rfl rfl rfl rfl (Nat.le_of_ble_eq_true rfl) dM_window_29 ⟨Nat.zero_le _, Nat.zero_le _⟩ rfl (wM k am gu gv) rfl ?_
        refine kw_if_eq (tgt := 39) C dM_window_32 (by decide) (fun c_10 => ?_) (fun c_10 => ?_)
        · skip
          refine kw_iconst (v := 0) C dM_window_39 (by decide) ?_
          refine kw_istore (lv' := [(5, .int 0), (0, .ref (am 0)), (1, .int r), (2, .int side), (3, .int area), (4, .int limit)]) C dM_window_40 (by decide) rfl ?_
          refine kw_aload_n C 1 dM_window_42 rfl rfl ?_
          refine kw_iload C 0 dM_window_43 rfl ?_
          refine kw_if_ne (tgt := 52) C dM_window_45 (by decide) (fun c_11 => ?_) (fun c_11 => ?_)
          · skip
            exact absurd (by decide) c_11
          · skip
            refine kw_iconst (v := 1) C dM_window_48 (by decide) ?_
            refine kw_goto (tgt := 66) C dM_window_49 (by decide) ?_
            refine kw_put C 0 rfl rfl ku_M tM_ok nM 0 (by decide) kt_556 rfl (ty := .int) (by decide +kernel) rfl rfl (Nat.le_of_ble_eq_true rfl) dM_window_66 (wM_gu k am 1 (m_rooms gu) (m_store gu) (m_mostHeating gu) (m_mostCooling gu) (m_began gu) (m_walls gu) (m_wallRoom gu) (m_wallOther gu) (m_leads gu) (m_windows gu) (m_windowRoom gu) (m_windowSide gu) (m_windowArea gu) (m_windowLimit gu) (m_outside gu) (m_sun gu) (m_persons gu) (m_set gu) (m_cool gu) (m_low gu) (m_high gu) gv) rfl ?_
            refine kw_aload_n C 1 dM_window_69 rfl rfl ?_
            refine kw_get (v := .int 1) C 0 rfl rfl ku_M 0 (by decide) kt_556 rfl dM_window_70 ?_
            refine kw_if_le (tgt := 78) C dM_window_73 (by decide) (fun c_12 => ?_) (fun c_12 => ?_)
            · skip
              exact absurd c_12 (by decide)
            · skip
              refine kw_iconst (v := 0) C dM_window_76 (by decide) ?_
              refine kw_eq rfl rfl (mk_wM_gu.trans (congrArg (fun z90 => wM k am z90 gv) (show (1, (m_rooms gu), (m_store gu), (m_mostHeating gu), (m_mostCooling gu), (m_began gu), (m_walls gu), (m_wallRoom gu), (m_wallOther gu), (m_leads gu), (m_windows gu), (m_windowRoom gu), (m_windowSide gu), (m_windowArea gu), (m_windowLimit gu), (m_outside gu), (m_sun gu), (m_persons gu), (m_set gu), (m_cool gu), (m_low gu), (m_high gu)) = sguM_window gu gv r side area limit from by unfold sguM_window; rw [if_neg c_1, if_neg c_4, if_neg c_7, if_pos c_10]))) ?_
              exact kw_iret C hr hlocks (by unfold rM_window; rw [if_neg c_1, if_neg c_4, if_neg c_7, if_pos c_10]) dM_window_77
        · skip
          refine kw_iconst (v := 1) C dM_window_35 (by decide) ?_
          refine kw_goto (tgt := 40) C dM_window_36 (by decide) ?_
          refine kw_istore (lv' := [(5, .int 1), (0, .ref (am 0)), (1, .int r), (2, .int side), (3, .int area), (4, .int limit)]) C dM_window_40 (by decide) rfl ?_
          refine kw_aload_n C 1 dM_window_42 rfl rfl ?_
          refine kw_iload C 0 dM_window_43 rfl ?_
          refine kw_if_ne (tgt := 52) C dM_window_45 (by decide) (fun c_13 => ?_) (fun c_13 => ?_)
          · skip
            refine kw_aload_n C 1 dM_window_52 rfl rfl ?_
            refine kw_get (v := .int (m_windows gu)) C 0 rfl rfl ku_M 15 (by decide) kt_571 rfl dM_window_53 ?_
            refine kw_bipush (v := 12) C dM_window_56 (by decide) ?_
            refine kw_icmp_ne (tgt := 65) C dM_window_58 (by decide) (fun c_14 => ?_) (fun c_14 => ?_)
            · skip
              refine kw_iconst (v := 0) C dM_window_65 (by decide) ?_
              refine kw_put C 0 rfl rfl ku_M tM_ok nM 0 (by decide) kt_556 rfl (ty := .int) (by decide +kernel) rfl rfl (Nat.le_of_ble_eq_true rfl) dM_window_66 (wM_gu k am 0 (m_rooms gu) (m_store gu) (m_mostHeating gu) (m_mostCooling gu) (m_began gu) (m_walls gu) (m_wallRoom gu) (m_wallOther gu) (m_leads gu) (m_windows gu) (m_windowRoom gu) (m_windowSide gu) (m_windowArea gu) (m_windowLimit gu) (m_outside gu) (m_sun gu) (m_persons gu) (m_set gu) (m_cool gu) (m_low gu) (m_high gu) gv) rfl ?_
              refine kw_aload_n C 1 dM_window_69 rfl rfl ?_
              refine kw_get (v := .int 0) C 0 rfl rfl ku_M 0 (by decide) kt_556 rfl dM_window_70 ?_
              refine kw_if_le (tgt := 78) C dM_window_73 (by decide) (fun c_15 => ?_) (fun c_15 => ?_)
              · skip
                refine kw_aload_n C 1 dM_window_78 rfl rfl ?_
                refine kw_get (v := .ref (am 12)) C 0 rfl rfl ku_M 16 (by decide) kt_572 rfl dM_window_79 ?_
                refine kw_aload_n C 1 dM_window_82 rfl rfl ?_
                refine kw_get (v := .int (m_windows gu)) C 0 rfl rfl ku_M 15 (by decide) kt_571 rfl dM_window_83 ?_
                refine kw_iload_n C 2 dM_window_86 rfl rfl ?_
                refine kw_iast C 12 0 rfl rfl (kix_of (kfull hI.2.2.1.1 hI.2.2.1.2 c_14)) dM_window_87 (wM_gu k am 0 (m_rooms gu) (m_store gu) (m_mostHeating gu) (m_mostCooling gu) (m_began gu) (m_walls gu) (m_wallRoom gu) (m_wallOther gu) (m_leads gu) (m_windows gu) (upd (m_windowRoom gu) ((m_windows gu).toNatClampNeg) r) (m_windowSide gu) (m_windowArea gu) (m_windowLimit gu) (m_outside gu) (m_sun gu) (m_persons gu) (m_set gu) (m_cool gu) (m_low gu) (m_high gu) gv) rfl ?_
                refine kw_aload_n C 1 dM_window_88 rfl rfl ?_
                refine kw_get (v := .ref (am 13)) C 0 rfl rfl ku_M 17 (by decide) kt_573 rfl dM_window_89 ?_
                refine kw_aload_n C 1 dM_window_92 rfl rfl ?_
                refine kw_get (v := .int (m_windows gu)) C 0 rfl rfl ku_M 15 (by decide) kt_571 rfl dM_window_93 ?_
                refine kw_iload_n C 3 dM_window_96 rfl rfl ?_
                refine kw_iast C 13 0 rfl rfl (kix_of (kfull hI.2.2.1.1 hI.2.2.1.2 c_14)) dM_window_97 (wM_gu k am 0 (m_rooms gu) (m_store gu) (m_mostHeating gu) (m_mostCooling gu) (m_began gu) (m_walls gu) (m_wallRoom gu) (m_wallOther gu) (m_leads gu) (m_windows gu) (upd (m_windowRoom gu) ((m_windows gu).toNatClampNeg) r) (upd (m_windowSide gu) ((m_windows gu).toNatClampNeg) side) (m_windowArea gu) (m_windowLimit gu) (m_outside gu) (m_sun gu) (m_persons gu) (m_set gu) (m_cool gu) (m_low gu) (m_high gu) gv) rfl ?_
                refine kw_aload_n C 1 dM_window_98 rfl rfl ?_
                refine kw_get (v := .ref (am 14)) C 0 rfl rfl ku_M 18 (by decide) kt_574 rfl dM_window_99 ?_
                refine kw_aload_n C 1 dM_window_102 rfl rfl ?_
                refine kw_get (v := .int (m_windows gu)) C 0 rfl rfl ku_M 15 (by decide) kt_571 rfl dM_window_103 ?_
                refine kw_iload_n C 4 dM_window_106 rfl rfl ?_
                refine kw_iast C 14 0 rfl rfl (kix_of (kfull hI.2.2.1.1 hI.2.2.1.2 c_14)) dM_window_107 (wM_gu k am 0 (m_rooms gu) (m_store gu) (m_mostHeating gu) (m_mostCooling gu) (m_began gu) (m_walls gu) (m_wallRoom gu) (m_wallOther gu) (m_leads gu) (m_windows gu) (upd (m_windowRoom gu) ((m_windows gu).toNatClampNeg) r) (upd (m_windowSide gu) ((m_windows gu).toNatClampNeg) side) (upd (m_windowArea gu) ((m_windows gu).toNatClampNeg) area) (m_windowLimit gu) (m_outside gu) (m_sun gu) (m_persons gu) (m_set gu) (m_cool gu) (m_low gu) (m_high gu) gv) rfl ?_
                refine kw_aload_n C 1 dM_window_108 rfl rfl ?_
                refine kw_get (v := .ref (am 15)) C 0 rfl rfl ku_M 19 (by decide) kt_575 rfl dM_window_109 ?_
                refine kw_aload_n C 1 dM_window_112 rfl rfl ?_
                refine kw_get (v := .int (m_windows gu)) C 0 rfl rfl ku_M 15 (by decide) kt_571 rfl dM_window_113 ?_
                refine kw_iload C 5 dM_window_116 rfl ?_
                refine kw_iast C 15 0 rfl rfl (kix_of (kfull hI.2.2.1.1 hI.2.2.1.2 c_14)) dM_window_118 (wM_gu k am 0 (m_rooms gu) (m_store gu) (m_mostHeating gu) (m_mostCooling gu) (m_began gu) (m_walls gu) (m_wallRoom gu) (m_wallOther gu) (m_leads gu) (m_windows gu) (upd (m_windowRoom gu) ((m_windows gu).toNatClampNeg) r) (upd (m_windowSide gu) ((m_windows gu).toNatClampNeg) side) (upd (m_windowArea gu) ((m_windows gu).toNatClampNeg) area) (upd (m_windowLimit gu) ((m_windows gu).toNatClampNeg) limit) (m_outside gu) (m_sun gu) (m_persons gu) (m_set gu) (m_cool gu) (m_low gu) (m_high gu) gv) rfl ?_
                refine kw_aload_n C 1 dM_window_119 rfl rfl ?_
                refine kw_dup C dM_window_120 rfl ?_
                refine kw_get (v := .int (m_windows gu)) C 0 rfl rfl ku_M 15 (by decide) kt_571 rfl dM_window_121 ?_
                refine kw_iconst (v := 1) C dM_window_124 (by decide) ?_
                refine kw_iadd C dM_window_125 ?_
                refine kw_put C 0 rfl rfl ku_M tM_ok nM 15 (by decide) kt_571 rfl (ty := .int) (by decide +kernel) rfl rfl (Nat.le_of_ble_eq_true rfl) dM_window_126 (wM_gu k am 0 (m_rooms gu) (m_store gu) (m_mostHeating gu) (m_mostCooling gu) (m_began gu) (m_walls gu) (m_wallRoom gu) (m_wallOther gu) (m_leads gu) ((m_windows gu) + 1) (upd (m_windowRoom gu) ((m_windows gu).toNatClampNeg) r) (upd (m_windowSide gu) ((m_windows gu).toNatClampNeg) side) (upd (m_windowArea gu) ((m_windows gu).toNatClampNeg) area) (upd (m_windowLimit gu) ((m_windows gu).toNatClampNeg) limit) (m_outside gu) (m_sun gu) (m_persons gu) (m_set gu) (m_cool gu) (m_low gu) (m_high gu) gv) rfl ?_
                refine kw_aload_n C 1 dM_window_129 rfl rfl ?_
                refine kw_get (v := .int ((m_windows gu) + 1)) C 0 rfl rfl ku_M 15 (by decide) kt_571 rfl dM_window_130 ?_
                refine kw_iconst (v := 1) C dM_window_133 (by decide) ?_
                refine kw_isub C dM_window_134 ?_
                refine kw_eq rfl rfl (mk_wM_gu.trans (congrArg (fun z90 => wM k am z90 gv) (show (0, (m_rooms gu), (m_store gu), (m_mostHeating gu), (m_mostCooling gu), (m_began gu), (m_walls gu), (m_wallRoom gu), (m_wallOther gu), (m_leads gu), ((m_windows gu) + 1), (upd (m_windowRoom gu) ((m_windows gu).toNatClampNeg) r), (upd (m_windowSide gu) ((m_windows gu).toNatClampNeg) side), (upd (m_windowArea gu) ((m_windows gu).toNatClampNeg) area), (upd (m_windowLimit gu) ((m_windows gu).toNatClampNeg) limit), (m_outside gu), (m_sun gu), (m_persons gu), (m_set gu), (m_cool gu), (m_low gu), (m_high gu)) = sguM_window gu gv r side area limit from by unfold sguM_window; rw [if_neg c_1, if_neg c_4, if_neg c_7, if_neg c_10, if_neg c_14]))) ?_
                exact kw_iret C hr hlocks (by unfold rM_window; rw [if_neg c_1, if_neg c_4, if_neg c_7, if_neg c_10, if_neg c_14]) dM_window_135
              · skip
                exact absurd (by decide) c_15
            · skip
              refine kw_iconst (v := 2) C dM_window_61 (by decide) ?_
              refine kw_goto (tgt := 66) C dM_window_62 (by decide) ?_
              refine kw_put C 0 rfl rfl ku_M tM_ok nM 0 (by decide) kt_556 rfl (ty := .int) (by decide +kernel) rfl rfl (Nat.le_of_ble_eq_true rfl) dM_window_66 (wM_gu k am 2 (m_rooms gu) (m_store gu) (m_mostHeating gu) (m_mostCooling gu) (m_began gu) (m_walls gu) (m_wallRoom gu) (m_wallOther gu) (m_leads gu) (m_windows gu) (m_windowRoom gu) (m_windowSide gu) (m_windowArea gu) (m_windowLimit gu) (m_outside gu) (m_sun gu) (m_persons gu) (m_set gu) (m_cool gu) (m_low gu) (m_high gu) gv) rfl ?_
              refine kw_aload_n C 1 dM_window_69 rfl rfl ?_
              refine kw_get (v := .int 2) C 0 rfl rfl ku_M 0 (by decide) kt_556 rfl dM_window_70 ?_
              refine kw_if_le (tgt := 78) C dM_window_73 (by decide) (fun c_16 => ?_) (fun c_16 => ?_)
              · skip
                exact absurd c_16 (by decide)
              · skip
                refine kw_iconst (v := 0) C dM_window_76 (by decide) ?_
                refine kw_eq rfl rfl (mk_wM_gu.trans (congrArg (fun z90 => wM k am z90 gv) (show (2, (m_rooms gu), (m_store gu), (m_mostHeating gu), (m_mostCooling gu), (m_began gu), (m_walls gu), (m_wallRoom gu), (m_wallOther gu), (m_leads gu), (m_windows gu), (m_windowRoom gu), (m_windowSide gu), (m_windowArea gu), (m_windowLimit gu), (m_outside gu), (m_sun gu), (m_persons gu), (m_set gu), (m_cool gu), (m_low gu), (m_high gu)) = sguM_window gu gv r side area limit from by unfold sguM_window; rw [if_neg c_1, if_neg c_4, if_neg c_7, if_neg c_10, if_pos c_14]))) ?_
                exact kw_iret C hr hlocks (by unfold rM_window; rw [if_neg c_1, if_neg c_4, if_neg c_7, if_neg c_10, if_pos c_14]) dM_window_77
          · skip
            exact absurd c_13 (by decide)
