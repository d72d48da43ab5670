noncomputable def rM_told (gu : MU) (gv : MV) (r : Int32) (what : Int32) : Int64 := if (rM_isRoom gu gv r) = 0 then 0 else (if (rM_in what 0 5) = 0 then 0 else (if what = 0 then (rM_warmthOf (0, (m_rooms gu), (m_store gu), (m_mostHeating gu), (m_mostCooling gu), (m_began gu), (m_walls gu), (m_wallRoom gu), (m_wallOther gu), (m_leads gu), (m_windows gu), (m_windowRoom gu), (m_windowSide gu), (m_windowArea gu), (m_windowLimit gu), (m_outside gu), (m_sun gu), (m_persons gu), (m_set gu), (m_cool gu), (m_low gu), (m_high gu)) gv r) else (if what = 1 then (m_heat gv) r.toNatClampNeg else (if what = 2 then ((m_uneasy gv) r.toNatClampNeg).toInt64 else (if what = 3 then (m_gave gv) r.toNatClampNeg else (if what = 4 then (m_taken gv) r.toNatClampNeg else (m_greatest gv) r.toNatClampNeg))))))
noncomputable def sguM_told (gu : MU) (gv : MV) (r : Int32) (what : Int32) : MU := if (rM_isRoom gu gv r) = 0 then (1, (m_rooms gu), (m_store gu), (m_mostHeating gu), (m_mostCooling gu), (m_began gu), (m_walls gu), (m_wallRoom gu), (m_wallOther gu), (m_leads gu), (m_windows gu), (m_windowRoom gu), (m_windowSide gu), (m_windowArea gu), (m_windowLimit gu), (m_outside gu), (m_sun gu), (m_persons gu), (m_set gu), (m_cool gu), (m_low gu), (m_high gu)) else (if (rM_in what 0 5) = 0 then (1, (m_rooms gu), (m_store gu), (m_mostHeating gu), (m_mostCooling gu), (m_began gu), (m_walls gu), (m_wallRoom gu), (m_wallOther gu), (m_leads gu), (m_windows gu), (m_windowRoom gu), (m_windowSide gu), (m_windowArea gu), (m_windowLimit gu), (m_outside gu), (m_sun gu), (m_persons gu), (m_set gu), (m_cool gu), (m_low gu), (m_high gu)) else (if what = 0 then (0, (m_rooms gu), (m_store gu), (m_mostHeating gu), (m_mostCooling gu), (m_began gu), (m_walls gu), (m_wallRoom gu), (m_wallOther gu), (m_leads gu), (m_windows gu), (m_windowRoom gu), (m_windowSide gu), (m_windowArea gu), (m_windowLimit gu), (m_outside gu), (m_sun gu), (m_persons gu), (m_set gu), (m_cool gu), (m_low gu), (m_high gu)) else (if what = 1 then (0, (m_rooms gu), (m_store gu), (m_mostHeating gu), (m_mostCooling gu), (m_began gu), (m_walls gu), (m_wallRoom gu), (m_wallOther gu), (m_leads gu), (m_windows gu), (m_windowRoom gu), (m_windowSide gu), (m_windowArea gu), (m_windowLimit gu), (m_outside gu), (m_sun gu), (m_persons gu), (m_set gu), (m_cool gu), (m_low gu), (m_high gu)) else (if what = 2 then (0, (m_rooms gu), (m_store gu), (m_mostHeating gu), (m_mostCooling gu), (m_began gu), (m_walls gu), (m_wallRoom gu), (m_wallOther gu), (m_leads gu), (m_windows gu), (m_windowRoom gu), (m_windowSide gu), (m_windowArea gu), (m_windowLimit gu), (m_outside gu), (m_sun gu), (m_persons gu), (m_set gu), (m_cool gu), (m_low gu), (m_high gu)) else (if what = 3 then (0, (m_rooms gu), (m_store gu), (m_mostHeating gu), (m_mostCooling gu), (m_began gu), (m_walls gu), (m_wallRoom gu), (m_wallOther gu), (m_leads gu), (m_windows gu), (m_windowRoom gu), (m_windowSide gu), (m_windowArea gu), (m_windowLimit gu), (m_outside gu), (m_sun gu), (m_persons gu), (m_set gu), (m_cool gu), (m_low gu), (m_high gu)) else (if what = 4 then (0, (m_rooms gu), (m_store gu), (m_mostHeating gu), (m_mostCooling gu), (m_began gu), (m_walls gu), (m_wallRoom gu), (m_wallOther gu), (m_leads gu), (m_windows gu), (m_windowRoom gu), (m_windowSide gu), (m_windowArea gu), (m_windowLimit gu), (m_outside gu), (m_sun gu), (m_persons gu), (m_set gu), (m_cool gu), (m_low gu), (m_high gu)) else (0, (m_rooms gu), (m_store gu), (m_mostHeating gu), (m_mostCooling gu), (m_began gu), (m_walls gu), (m_wallRoom gu), (m_wallOther gu), (m_leads gu), (m_windows gu), (m_windowRoom gu), (m_windowSide gu), (m_windowArea gu), (m_windowLimit gu), (m_outside gu), (m_sun gu), (m_persons gu), (m_set gu), (m_cool gu), (m_low gu), (m_high gu))))))))
set_option maxRecDepth 100000 in
set_option maxHeartbeats 4000000 in
theorem cM_told (l : Launch) (D : va_G) (k : Nat → ClassId) (am : Nat → Nat) (gu : MU) (gv : MV) (r : Int32) (what : Int32) (hI : mInv gu) : kMl l yM_told (kwm yM_told bM_told 3 (some .long)) ({ frames := 2, cells := 0, slots := 0, locals := 45 }) D kcl (kty k) (wM k am gu gv) (wM k am (sguM_told gu gv r what) gv) [.ref (am 0), .int r, .int what] (rM_told gu gv r what) := by
  refine k_entry_l (lv0 := [(0, .ref (am 0)), (1, .int r), (2, .int what)]) rfl (by decide +kernel) (Nat.le_of_ble_eq_true rfl) rfl ?_
  intro p e s m args below meth c0 C hr hlocks
  refine kw_aload_n C 0 dM_told_0 rfl rfl ?_
  refine kw_aload_n C 0 dM_told_1 rfl rfl ?_
  refine kw_iload_n C 1 dM_told_2 rfl rfl ?_
  refine kw_callAi (w1 := (wM k am gu gv)) (st := [.ref (am 0)]) C (cM_isRoom l D k am gu gv r) (cwV 1 C.1.2.2.2.2 (kgV kt_686 kt_688 ks_M_isRoom kt_5 kt_689) rfl rfl rfl kdM_isRoom ⟨Nat.le_of_ble_eq_true rfl, Nat.le_of_ble_eq_true rfl⟩) 0 3 rfl rfl rfl rfl rfl (Nat.le_of_ble_eq_true rfl) dM_told_3 ⟨Nat.zero_le _, Nat.zero_le _⟩ (ad_wM.trans ad_wM.symm) ?_
  refine kw_if_eq (tgt := 22) C dM_told_6 (by decide) (fun c_1 => ?_) (fun c_1 => ?_)
  · skip
    refine kw_iconst (v := 1) C dM_told_22 (by decide) ?_
    refine kw_put C 0 rfl rfl ku_M tM_ok nM 0 (by decide) kt_556 rfl (ty := .int) (by decide +kernel) rfl rfl (Nat.le_of_ble_eq_true rfl) dM_told_23 (wM_gu k am 1 (m_rooms gu) (m_store gu) (m_mostHeating gu) (m_mostCooling gu) (m_began gu) (m_walls gu) (m_wallRoom gu) (m_wallOther gu) (m_leads gu) (m_windows gu) (m_windowRoom gu) (m_windowSide gu) (m_windowArea gu) (m_windowLimit gu) (m_outside gu) (m_sun gu) (m_persons gu) (m_set gu) (m_cool gu) (m_low gu) (m_high gu) gv) rfl ?_
    refine kw_aload_n C 0 dM_told_26 rfl rfl ?_
    refine kw_get (v := .int 1) C 0 rfl rfl ku_M 0 (by decide) kt_556 rfl dM_told_27 ?_
    refine kw_if_le (tgt := 35) C dM_told_30 (by decide) (fun c_2 => ?_) (fun c_2 => ?_)
    · skip
      exact absurd c_2 (by decide)
    · skip
      refine kw_lconst (v := 0) C dM_told_33 (by decide) ?_
      refine kw_eq rfl rfl (mk_wM_gu.trans (congrArg (fun z90 => wM k am z90 gv) (show (1, (m_rooms gu), (m_store gu), (m_mostHeating gu), (m_mostCooling gu), (m_began gu), (m_walls gu), (m_wallRoom gu), (m_wallOther gu), (m_leads gu), (m_windows gu), (m_windowRoom gu), (m_windowSide gu), (m_windowArea gu), (m_windowLimit gu), (m_outside gu), (m_sun gu), (m_persons gu), (m_set gu), (m_cool gu), (m_low gu), (m_high gu)) = sguM_told gu gv r what from by unfold sguM_told; rw [if_pos c_1]))) ?_
      exact kw_lret C hr hlocks (by unfold rM_told; rw [if_pos c_1]) dM_told_34
  · skip
    refine kw_iload_n C 2 dM_told_9 rfl rfl ?_
    refine kw_iconst (v := 0) C dM_told_10 (by decide) ?_
    refine kw_iconst (v := 5) C dM_told_11 (by decide) ?_
    refine kw_callSi (st := [.ref (am 0)]) C (cM_in l D k what 0 5) (va_cwS 3 C.1.2.2.2.2 (kgO kt_676 kt_677 kt_5 kt_678) rfl rfl rfl kdM_in ⟨Nat.le_of_ble_eq_true rfl, Nat.le_of_ble_eq_true rfl⟩) [] rfl rfl rfl rfl (Nat.le_of_ble_eq_true rfl) dM_told_12 ⟨Nat.zero_le _, Nat.zero_le _⟩ rfl (wM k am gu gv) rfl ?_
    refine kw_if_eq (tgt := 22) C dM_told_15 (by decide) (fun c_3 => ?_) (fun c_3 => ?_)
    · skip
      refine kw_iconst (v := 1) C dM_told_22 (by decide) ?_
      refine kw_put C 0 rfl rfl ku_M tM_ok nM 0 (by decide) kt_556 rfl (ty := .int) (by decide +kernel) rfl rfl (Nat.le_of_ble_eq_true rfl) dM_told_23 (wM_gu k am 1 (m_rooms gu) (m_store gu) (m_mostHeating gu) (m_mostCooling gu) (m_began gu) (m_walls gu) (m_wallRoom gu) (m_wallOther gu) (m_leads gu) (m_windows gu) (m_windowRoom gu) (m_windowSide gu) (m_windowArea gu) (m_windowLimit gu) (m_outside gu) (m_sun gu) (m_persons gu) (m_set gu) (m_cool gu) (m_low gu) (m_high gu) gv) rfl ?_
      refine kw_aload_n C 0 dM_told_26 rfl rfl ?_
      refine kw_get (v := .int 1) C 0 rfl rfl ku_M 0 (by decide) kt_556 rfl dM_told_27 ?_
      refine kw_if_le (tgt := 35) C dM_told_30 (by decide) (fun c_4 => ?_) (fun c_4 => ?_)
      · skip
        exact absurd c_4 (by decide)
      · skip
        refine kw_lconst (v := 0) C dM_told_33 (by decide) ?_
        refine kw_eq rfl rfl (mk_wM_gu.trans (congrArg (fun z90 => wM k am z90 gv) (show (1, (m_rooms gu), (m_store gu), (m_mostHeating gu), (m_mostCooling gu), (m_began gu), (m_walls gu), (m_wallRoom gu), (m_wallOther gu), (m_leads gu), (m_windows gu), (m_windowRoom gu), (m_windowSide gu), (m_windowArea gu), (m_windowLimit gu), (m_outside gu), (m_sun gu), (m_persons gu), (m_set gu), (m_cool gu), (m_low gu), (m_high gu)) = sguM_told gu gv r what from by unfold sguM_told; rw [if_neg c_1, if_pos c_3]))) ?_
        exact kw_lret C hr hlocks (by unfold rM_told; rw [if_neg c_1, if_pos c_3]) dM_told_34
    · skip
      refine kw_iconst (v := 0) C dM_told_18 (by decide) ?_
      refine kw_goto (tgt := 23) C dM_told_19 (by decide) ?_
      refine kw_put C 0 rfl rfl ku_M tM_ok nM 0 (by decide) kt_556 rfl (ty := .int) (by decide +kernel) rfl rfl (Nat.le_of_ble_eq_true rfl) dM_told_23 (wM_gu k am 0 (m_rooms gu) (m_store gu) (m_mostHeating gu) (m_mostCooling gu) (m_began gu) (m_walls gu) (m_wallRoom gu) (m_wallOther gu) (m_leads gu) (m_windows gu) (m_windowRoom gu) (m_windowSide gu) (m_windowArea gu) (m_windowLimit gu) (m_outside gu) (m_sun gu) (m_persons gu) (m_set gu) (m_cool gu) (m_low gu) (m_high gu) gv) rfl ?_
      refine kw_aload_n C 0 dM_told_26 rfl rfl ?_
      refine kw_get (v := .int 0) C 0 rfl rfl ku_M 0 (by decide) kt_556 rfl dM_told_27 ?_
      refine kw_if_le (tgt := 35) C dM_told_30 (by decide) (fun c_5 => ?_) (fun c_5 => ?_)
      · skip
        refine kw_iload_n C 2 dM_told_35 rfl rfl ?_
        refine kw_by (what = 0) (fun c_6 => ?_) (fun c_6 => ?_)
        · skip
          refine kw_tableIn (off := 36) (tgt := 72) C dM_told_36 (by rw [c_6]; decide) (by rw [c_6]; decide) (by rw [c_6]; rfl) (by decide) ?_
          refine kw_aload_n C 0 dM_told_72 rfl rfl ?_
          refine kw_iload_n C 1 dM_told_73 rfl rfl ?_
          refine kw_callAl (w1 := (wM_gu k am 0 (m_rooms gu) (m_store gu) (m_mostHeating gu) (m_mostCooling gu) (m_began gu) (m_walls gu) (m_wallRoom gu) (m_wallOther gu) (m_leads gu) (m_windows gu) (m_windowRoom gu) (m_windowSide gu) (m_windowArea gu) (m_windowLimit gu) (m_outside gu) (m_sun gu) (m_persons gu) (m_set gu) (m_cool gu) (m_low gu) (m_high gu) gv)) (st := []) C (cM_warmthOf l D k am (0, (m_rooms gu), (m_store gu), (m_mostHeating gu), (m_mostCooling gu), (m_began gu), (m_walls gu), (m_wallRoom gu), (m_wallOther gu), (m_leads gu), (m_windows gu), (m_windowRoom gu), (m_windowSide gu), (m_windowArea gu), (m_windowLimit gu), (m_outside gu), (m_sun gu), (m_persons gu), (m_set gu), (m_cool gu), (m_low gu), (m_high gu)) gv r hI (kroomM (gv := gv) hI c_1)) (cwV 1 C.1.2.2.2.2 (kgV kt_737 kt_739 ks_M_warmthOf kt_5 kt_740) rfl rfl rfl kdM_warmthOf ⟨Nat.le_of_ble_eq_true rfl, Nat.le_of_ble_eq_true rfl⟩) 0 3 rfl rfl rfl rfl rfl (Nat.le_of_ble_eq_true rfl) dM_told_74 ⟨Nat.zero_le _, Nat.zero_le _⟩ (ad_wM_gu.trans ad_wM_gu.symm) ?_
          refine kw_eq rfl rfl (mk_wM_gu.trans (congrArg (fun z90 => wM k am z90 gv) (show (0, (m_rooms gu), (m_store gu), (m_mostHeating gu), (m_mostCooling gu), (m_began gu), (m_walls gu), (m_wallRoom gu), (m_wallOther gu), (m_leads gu), (m_windows gu), (m_windowRoom gu), (m_windowSide gu), (m_windowArea gu), (m_windowLimit gu), (m_outside gu), (m_sun gu), (m_persons gu), (m_set gu), (m_cool gu), (m_low gu), (m_high gu)) = sguM_told gu gv r what from by unfold sguM_told; rw [if_neg c_1, if_neg c_3, if_pos c_6]))) ?_
          exact kw_lret C hr hlocks (by unfold rM_told; rw [if_neg c_1, if_neg c_3, if_pos c_6]) dM_told_77
        · skip
          refine kw_by (what = 1) (fun c_7 => ?_) (fun c_7 => ?_)
          · skip
            refine kw_tableIn (off := 42) (tgt := 78) C dM_told_36 (by rw [c_7]; decide) (by rw [c_7]; decide) (by rw [c_7]; rfl) (by decide) ?_
            refine kw_aload_n C 0 dM_told_78 rfl rfl ?_
            refine kw_get (v := .ref (am 2)) C 0 rfl rfl ku_M 3 (by decide) kt_559 rfl dM_told_79 ?_
            refine kw_iload_n C 1 dM_told_82 rfl rfl ?_
            refine kw_lald C 2 1 rfl rfl (kix_of (kin_le (kroomM hI c_1) (by have := hI.1.2; omega))) dM_told_83 ?_
            refine kw_eq rfl rfl (mk_wM_gu.trans (congrArg (fun z90 => wM k am z90 gv) (show (0, (m_rooms gu), (m_store gu), (m_mostHeating gu), (m_mostCooling gu), (m_began gu), (m_walls gu), (m_wallRoom gu), (m_wallOther gu), (m_leads gu), (m_windows gu), (m_windowRoom gu), (m_windowSide gu), (m_windowArea gu), (m_windowLimit gu), (m_outside gu), (m_sun gu), (m_persons gu), (m_set gu), (m_cool gu), (m_low gu), (m_high gu)) = sguM_told gu gv r what from by unfold sguM_told; rw [if_neg c_1, if_neg c_3, if_neg c_6, if_pos c_7]))) ?_
            exact kw_lret C hr hlocks (by unfold rM_told; rw [if_neg c_1, if_neg c_3, if_neg c_6, if_pos c_7]) dM_told_84
          · skip
            refine kw_by (what = 2) (fun c_8 => ?_) (fun c_8 => ?_)
            · skip
              refine kw_tableIn (off := 49) (tgt := 85) C dM_told_36 (by rw [c_8]; decide) (by rw [c_8]; decide) (by rw [c_8]; rfl) (by decide) ?_
              refine kw_aload_n C 0 dM_told_85 rfl rfl ?_
              refine kw_get (v := .ref (am 3)) C 0 rfl rfl ku_M 4 (by decide) kt_560 rfl dM_told_86 ?_
              refine kw_iload_n C 1 dM_told_89 rfl rfl ?_
              refine kw_iald C 3 0 rfl rfl (kix_of (kin_le (kroomM hI c_1) (by have := hI.1.2; omega))) dM_told_90 ?_
              refine kw_i2l C dM_told_91 ?_
              refine kw_eq rfl rfl (mk_wM_gu.trans (congrArg (fun z90 => wM k am z90 gv) (show (0, (m_rooms gu), (m_store gu), (m_mostHeating gu), (m_mostCooling gu), (m_began gu), (m_walls gu), (m_wallRoom gu), (m_wallOther gu), (m_leads gu), (m_windows gu), (m_windowRoom gu), (m_windowSide gu), (m_windowArea gu), (m_windowLimit gu), (m_outside gu), (m_sun gu), (m_persons gu), (m_set gu), (m_cool gu), (m_low gu), (m_high gu)) = sguM_told gu gv r what from by unfold sguM_told; rw [if_neg c_1, if_neg c_3, if_neg c_6, if_neg c_7, if_pos c_8]))) ?_
              exact kw_lret C hr hlocks (by unfold rM_told; rw [if_neg c_1, if_neg c_3, if_neg c_6, if_neg c_7, if_pos c_8]) dM_told_92
            · skip
              refine kw_by (what = 3) (fun c_9 => ?_) (fun c_9 => ?_)
              · skip
                refine kw_tableIn (off := 57) (tgt := 93) C dM_told_36 (by rw [c_9]; decide) (by rw [c_9]; decide) (by rw [c_9]; rfl) (by decide) ?_
                refine kw_aload_n C 0 dM_told_93 rfl rfl ?_
                refine kw_get (v := .ref (am 4)) C 0 rfl rfl ku_M 5 (by decide) kt_561 rfl dM_told_94 ?_
                refine kw_iload_n C 1 dM_told_97 rfl rfl ?_
                refine kw_lald C 4 1 rfl rfl (kix_of (kin_le (kroomM hI c_1) (by have := hI.1.2; omega))) dM_told_98 ?_
                refine kw_eq rfl rfl (mk_wM_gu.trans (congrArg (fun z90 => wM k am z90 gv) (show (0, (m_rooms gu), (m_store gu), (m_mostHeating gu), (m_mostCooling gu), (m_began gu), (m_walls gu), (m_wallRoom gu), (m_wallOther gu), (m_leads gu), (m_windows gu), (m_windowRoom gu), (m_windowSide gu), (m_windowArea gu), (m_windowLimit gu), (m_outside gu), (m_sun gu), (m_persons gu), (m_set gu), (m_cool gu), (m_low gu), (m_high gu)) = sguM_told gu gv r what from by unfold sguM_told; rw [if_neg c_1, if_neg c_3, if_neg c_6, if_neg c_7, if_neg c_8, if_pos c_9]))) ?_
                exact kw_lret C hr hlocks (by unfold rM_told; rw [if_neg c_1, if_neg c_3, if_neg c_6, if_neg c_7, if_neg c_8, if_pos c_9]) dM_told_99
              · skip
                refine kw_by (what = 4) (fun c_10 => ?_) (fun c_10 => ?_)
                · skip
                  refine kw_tableIn (off := 64) (tgt := 100) C dM_told_36 (by rw [c_10]; decide) (by rw [c_10]; decide) (by rw [c_10]; rfl) (by decide) ?_
                  refine kw_aload_n C 0 dM_told_100 rfl rfl ?_
                  refine kw_get (v := .ref (am 5)) C 0 rfl rfl ku_M 6 (by decide) kt_562 rfl dM_told_101 ?_
                  refine kw_iload_n C 1 dM_told_104 rfl rfl ?_
                  refine kw_lald C 5 1 rfl rfl (kix_of (kin_le (kroomM hI c_1) (by have := hI.1.2; omega))) dM_told_105 ?_
                  refine kw_eq rfl rfl (mk_wM_gu.trans (congrArg (fun z90 => wM k am z90 gv) (show (0, (m_rooms gu), (m_store gu), (m_mostHeating gu), (m_mostCooling gu), (m_began gu), (m_walls gu), (m_wallRoom gu), (m_wallOther gu), (m_leads gu), (m_windows gu), (m_windowRoom gu), (m_windowSide gu), (m_windowArea gu), (m_windowLimit gu), (m_outside gu), (m_sun gu), (m_persons gu), (m_set gu), (m_cool gu), (m_low gu), (m_high gu)) = sguM_told gu gv r what from by unfold sguM_told; rw [if_neg c_1, if_neg c_3, if_neg c_6, if_neg c_7, if_neg c_8, if_neg c_9, if_pos c_10]))) ?_
                  exact kw_lret C hr hlocks (by unfold rM_told; rw [if_neg c_1, if_neg c_3, if_neg c_6, if_neg c_7, if_neg c_8, if_neg c_9, if_pos c_10]) dM_told_106
                · skip
                  refine kw_tableOut (tgt := 107) C dM_told_36 (by have := kne (n := 0) c_6; have := kne (n := 1) c_7; have := kne (n := 2) c_8; have := kne (n := 3) c_9; have := kne (n := 4) c_10; omega) (by decide) ?_
                  refine kw_aload_n C 0 dM_told_107 rfl rfl ?_
                  refine kw_get (v := .ref (am 6)) C 0 rfl rfl ku_M 7 (by decide) kt_563 rfl dM_told_108 ?_
                  refine kw_iload_n C 1 dM_told_111 rfl rfl ?_
                  refine kw_lald C 6 1 rfl rfl (kix_of (kin_le (kroomM hI c_1) (by have := hI.1.2; omega))) dM_told_112 ?_
                  refine kw_eq rfl rfl (mk_wM_gu.trans (congrArg (fun z90 => wM k am z90 gv) (show (0, (m_rooms gu), (m_store gu), (m_mostHeating gu), (m_mostCooling gu), (m_began gu), (m_walls gu), (m_wallRoom gu), (m_wallOther gu), (m_leads gu), (m_windows gu), (m_windowRoom gu), (m_windowSide gu), (m_windowArea gu), (m_windowLimit gu), (m_outside gu), (m_sun gu), (m_persons gu), (m_set gu), (m_cool gu), (m_low gu), (m_high gu)) = sguM_told gu gv r what from by unfold sguM_told; rw [if_neg c_1, if_neg c_3, if_neg c_6, if_neg c_7, if_neg c_8, if_neg c_9, if_neg c_10]))) ?_
                  exact kw_lret C hr hlocks (by unfold rM_told; rw [if_neg c_1, if_neg c_3, if_neg c_6, if_neg c_7, if_neg c_8, if_neg c_9, if_neg c_10]) dM_told_113
      · skip
        exact absurd (by decide) c_5
