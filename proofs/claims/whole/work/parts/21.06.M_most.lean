def rM_most (gu : MU) (gv : MV) (r : Int32) (what : Int32) (v : Int32) : Int32 := if (rM_isRoom gu gv r) = 0 then 0 else (if (rM_in what 0 1) = 0 then 0 else (if (rM_in v 0 1000000) = 0 then 0 else (if what = 0 then (if what = 1 then (m_mostHeating gu) r.toNatClampNeg else (m_mostHeating gu) r.toNatClampNeg) else (if what = 1 then (m_mostCooling gu) r.toNatClampNeg else (m_mostCooling gu) r.toNatClampNeg))))
noncomputable def sguM_most (gu : MU) (gv : MV) (r : Int32) (what : Int32) (v : Int32) : MU := if (rM_isRoom gu gv r) = 0 then (1, (m_rooms gu), (m_store gu), (m_mostHeating gu), (m_mostCooling gu), (m_began gu), (m_walls gu), (m_wallRoom gu), (m_wallOther gu), (m_leads gu), (m_windows gu), (m_windowRoom gu), (m_windowSide gu), (m_windowArea gu), (m_windowLimit gu), (m_outside gu), (m_sun gu), (m_persons gu), (m_set gu), (m_cool gu), (m_low gu), (m_high gu)) else (if (rM_in what 0 1) = 0 then (1, (m_rooms gu), (m_store gu), (m_mostHeating gu), (m_mostCooling gu), (m_began gu), (m_walls gu), (m_wallRoom gu), (m_wallOther gu), (m_leads gu), (m_windows gu), (m_windowRoom gu), (m_windowSide gu), (m_windowArea gu), (m_windowLimit gu), (m_outside gu), (m_sun gu), (m_persons gu), (m_set gu), (m_cool gu), (m_low gu), (m_high gu)) else (if (rM_in v 0 1000000) = 0 then (1, (m_rooms gu), (m_store gu), (m_mostHeating gu), (m_mostCooling gu), (m_began gu), (m_walls gu), (m_wallRoom gu), (m_wallOther gu), (m_leads gu), (m_windows gu), (m_windowRoom gu), (m_windowSide gu), (m_windowArea gu), (m_windowLimit gu), (m_outside gu), (m_sun gu), (m_persons gu), (m_set gu), (m_cool gu), (m_low gu), (m_high gu)) else (if what = 0 then (if what = 1 then (0, (m_rooms gu), (m_store gu), (upd (m_mostHeating gu) r.toNatClampNeg v), (upd (m_mostCooling gu) r.toNatClampNeg v), (m_began gu), (m_walls gu), (m_wallRoom gu), (m_wallOther gu), (m_leads gu), (m_windows gu), (m_windowRoom gu), (m_windowSide gu), (m_windowArea gu), (m_windowLimit gu), (m_outside gu), (m_sun gu), (m_persons gu), (m_set gu), (m_cool gu), (m_low gu), (m_high gu)) else (0, (m_rooms gu), (m_store gu), (upd (m_mostHeating gu) r.toNatClampNeg v), (upd (m_mostCooling gu) r.toNatClampNeg ((m_mostCooling gu) r.toNatClampNeg)), (m_began gu), (m_walls gu), (m_wallRoom gu), (m_wallOther gu), (m_leads gu), (m_windows gu), (m_windowRoom gu), (m_windowSide gu), (m_windowArea gu), (m_windowLimit gu), (m_outside gu), (m_sun gu), (m_persons gu), (m_set gu), (m_cool gu), (m_low gu), (m_high gu))) else (if what = 1 then (0, (m_rooms gu), (m_store gu), (upd (m_mostHeating gu) r.toNatClampNeg ((m_mostHeating gu) r.toNatClampNeg)), (upd (m_mostCooling gu) r.toNatClampNeg v), (m_began gu), (m_walls gu), (m_wallRoom gu), (m_wallOther gu), (m_leads gu), (m_windows gu), (m_windowRoom gu), (m_windowSide gu), (m_windowArea gu), (m_windowLimit gu), (m_outside gu), (m_sun gu), (m_persons gu), (m_set gu), (m_cool gu), (m_low gu), (m_high gu)) else (0, (m_rooms gu), (m_store gu), (upd (m_mostHeating gu) r.toNatClampNeg ((m_mostHeating gu) r.toNatClampNeg)), (upd (m_mostCooling gu) r.toNatClampNeg ((m_mostCooling gu) r.toNatClampNeg)), (m_began gu), (m_walls gu), (m_wallRoom gu), (m_wallOther gu), (m_leads gu), (m_windows gu), (m_windowRoom gu), (m_windowSide gu), (m_windowArea gu), (m_windowLimit gu), (m_outside gu), (m_sun gu), (m_persons gu), (m_set gu), (m_cool gu), (m_low gu), (m_high gu))))))
set_option maxRecDepth 100000 in
set_option maxHeartbeats 4000000 in
theorem cM_most (l : Launch) (D : va_G) (k : Nat → ClassId) (am : Nat → Nat) (gu : MU) (gv : MV) (r : Int32) (what : Int32) (v : Int32) (hI : mInv gu) : kMi l yM_most (kwm yM_most bM_most 5 (some .int)) ({ frames := 2, cells := 0, slots := 0, locals := 43 }) D kcl (kty k) (wM k am gu gv) (wM k am (sguM_most gu gv r what v) gv) [.ref (am 0), .int r, .int what, .int v] (rM_most gu gv r what v) := by
  refine k_entry_i (lv0 := [(0, .ref (am 0)), (1, .int r), (2, .int what), (3, .int v)]) rfl (by decide +kernel) (Nat.le_of_ble_eq_true rfl) rfl ?_
  intro p e s m args below meth c0 C hr hlocks
  refine kw_aload_n C 0 dM_most_0 rfl rfl ?_
  refine kw_aload_n C 0 dM_most_1 rfl rfl ?_
  refine kw_iload_n C 1 dM_most_2 rfl rfl ?_
  refine kw_callAi (w1 := (wM k am gu gv)) (st := [.ref (am 0)]) C (cM_isRoom l D k am gu gv r) (cwV 1 C.1.2.2.2.2 (kgV kt_686 kt_688 ks_M_isRoom kt_5 kt_689) rfl rfl rfl kdM_isRoom ⟨Nat.le_of_ble_eq_true rfl, Nat.le_of_ble_eq_true rfl⟩) 0 3 rfl rfl rfl rfl rfl (Nat.le_of_ble_eq_true rfl) dM_most_3 ⟨Nat.zero_le _, Nat.zero_le _⟩ (ad_wM.trans ad_wM.symm) ?_
  refine kw_if_eq (tgt := 32) C dM_most_6 (by decide) (fun c_1 => ?_) (fun c_1 => ?_)
  · skip
    refine kw_iconst (v := 1) C dM_most_32 (by decide) ?_
    refine kw_put C 0 rfl rfl ku_M tM_ok nM 0 (by decide) kt_556 rfl (ty := .int) (by decide +kernel) rfl rfl (Nat.le_of_ble_eq_true rfl) dM_most_33 (wM_gu k am 1 (m_rooms gu) (m_store gu) (m_mostHeating gu) (m_mostCooling gu) (m_began gu) (m_walls gu) (m_wallRoom gu) (m_wallOther gu) (m_leads gu) (m_windows gu) (m_windowRoom gu) (m_windowSide gu) (m_windowArea gu) (m_windowLimit gu) (m_outside gu) (m_sun gu) (m_persons gu) (m_set gu) (m_cool gu) (m_low gu) (m_high gu) gv) rfl ?_
    refine kw_aload_n C 0 dM_most_36 rfl rfl ?_
    refine kw_get (v := .int 1) C 0 rfl rfl ku_M 0 (by decide) kt_556 rfl dM_most_37 ?_
    refine kw_if_le (tgt := 45) C dM_most_40 (by decide) (fun c_2 => ?_) (fun c_2 => ?_)
    · skip
      exact absurd c_2 (by decide)
    · skip
      refine kw_iconst (v := 0) C dM_most_43 (by decide) ?_
      refine kw_eq rfl rfl (mk_wM_gu.trans (congrArg (fun z90 => wM k am z90 gv) (show (1, (m_rooms gu), (m_store gu), (m_mostHeating gu), (m_mostCooling gu), (m_began gu), (m_walls gu), (m_wallRoom gu), (m_wallOther gu), (m_leads gu), (m_windows gu), (m_windowRoom gu), (m_windowSide gu), (m_windowArea gu), (m_windowLimit gu), (m_outside gu), (m_sun gu), (m_persons gu), (m_set gu), (m_cool gu), (m_low gu), (m_high gu)) = sguM_most gu gv r what v from by unfold sguM_most; rw [if_pos c_1]))) ?_
      exact kw_iret C hr hlocks (by unfold rM_most; rw [if_pos c_1]) dM_most_44
  · skip
    refine kw_iload_n C 2 dM_most_9 rfl rfl ?_
    refine kw_iconst (v := 0) C dM_most_10 (by decide) ?_
    refine kw_iconst (v := 1) C dM_most_11 (by decide) ?_
    refine kw_callSi (st := [.ref (am 0)]) C (cM_in l D k what 0 1) (va_cwS 3 C.1.2.2.2.2 (kgO kt_676 kt_677 kt_5 kt_678) rfl rfl rfl kdM_in ⟨Nat.le_of_ble_eq_true rfl, Nat.le_of_ble_eq_true rfl⟩) [] rfl rfl rfl rfl (Nat.le_of_ble_eq_true rfl) dM_most_12 ⟨Nat.zero_le _, Nat.zero_le _⟩ rfl (wM k am gu gv) rfl ?_
    refine kw_if_eq (tgt := 32) C dM_most_15 (by decide) (fun c_3 => ?_) (fun c_3 => ?_)
    · skip
      refine kw_iconst (v := 1) C dM_most_32 (by decide) ?_
      refine kw_put C 0 rfl rfl ku_M tM_ok nM 0 (by decide) kt_556 rfl (ty := .int) (by decide +kernel) rfl rfl (Nat.le_of_ble_eq_true rfl) dM_most_33 (wM_gu k am 1 (m_rooms gu) (m_store gu) (m_mostHeating gu) (m_mostCooling gu) (m_began gu) (m_walls gu) (m_wallRoom gu) (m_wallOther gu) (m_leads gu) (m_windows gu) (m_windowRoom gu) (m_windowSide gu) (m_windowArea gu) (m_windowLimit gu) (m_outside gu) (m_sun gu) (m_persons gu) (m_set gu) (m_cool gu) (m_low gu) (m_high gu) gv) rfl ?_
      refine kw_aload_n C 0 dM_most_36 rfl rfl ?_
      refine kw_get (v := .int 1) C 0 rfl rfl ku_M 0 (by decide) kt_556 rfl dM_most_37 ?_
      refine kw_if_le (tgt := 45) C dM_most_40 (by decide) (fun c_4 => ?_) (fun c_4 => ?_)
      · skip
        exact absurd c_4 (by decide)
      · skip
        refine kw_iconst (v := 0) C dM_most_43 (by decide) ?_
        refine kw_eq rfl rfl (mk_wM_gu.trans (congrArg (fun z90 => wM k am z90 gv) (show (1, (m_rooms gu), (m_store gu), (m_mostHeating gu), (m_mostCooling gu), (m_began gu), (m_walls gu), (m_wallRoom gu), (m_wallOther gu), (m_leads gu), (m_windows gu), (m_windowRoom gu), (m_windowSide gu), (m_windowArea gu), (m_windowLimit gu), (m_outside gu), (m_sun gu), (m_persons gu), (m_set gu), (m_cool gu), (m_low gu), (m_high gu)) = sguM_most gu gv r what v from by unfold sguM_most; rw [if_neg c_1, if_pos c_3]))) ?_
        exact kw_iret C hr hlocks (by unfold rM_most; rw [if_neg c_1, if_pos c_3]) dM_most_44
    · skip
      refine kw_iload_n C 3 dM_most_18 rfl rfl ?_
      refine kw_iconst (v := 0) C dM_most_19 (by decide) ?_
      refine kw_ldc (v := 1000000) C kt_719 dM_most_20 ?_
      refine kw_callSi (st := [.ref (am 0)]) C (cM_in l D k v 0 1000000) (va_cwS 3 C.1.2.2.2.2 (kgO kt_676 kt_677 kt_5 kt_678) rfl rfl rfl kdM_in ⟨Nat.le_of_ble_eq_true rfl, Nat.le_of_ble_eq_true rfl⟩) [] rfl rfl rfl rfl (Nat.le_of_ble_eq_true rfl) dM_most_22 ⟨Nat.zero_le _, Nat.zero_le _⟩ rfl (wM k am gu gv) rfl ?_
      refine kw_if_eq (tgt := 32) C dM_most_25 (by decide) (fun c_5 => ?_) (fun c_5 => ?_)
      · skip
        refine kw_iconst (v := 1) C dM_most_32 (by decide) ?_
        refine kw_put C 0 rfl rfl ku_M tM_ok nM 0 (by decide) kt_556 rfl (ty := .int) (by decide +kernel) rfl rfl (Nat.le_of_ble_eq_true rfl) dM_most_33 (wM_gu k am 1 (m_rooms gu) (m_store gu) (m_mostHeating gu) (m_mostCooling gu) (m_began gu) (m_walls gu) (m_wallRoom gu) (m_wallOther gu) (m_leads gu) (m_windows gu) (m_windowRoom gu) (m_windowSide gu) (m_windowArea gu) (m_windowLimit gu) (m_outside gu) (m_sun gu) (m_persons gu) (m_set gu) (m_cool gu) (m_low gu) (m_high gu) gv) rfl ?_
        refine kw_aload_n C 0 dM_most_36 rfl rfl ?_
        refine kw_get (v := .int 1) C 0 rfl rfl ku_M 0 (by decide) kt_556 rfl dM_most_37 ?_
        refine kw_if_le (tgt := 45) C dM_most_40 (by decide) (fun c_6 => ?_) (fun c_6 => ?_)
        · skip
          exact absurd c_6 (by decide)
        · skip
          refine kw_iconst (v := 0) C dM_most_43 (by decide) ?_
          refine kw_eq rfl rfl (mk_wM_gu.trans (congrArg (fun z90 => wM k am z90 gv) (show (1, (m_rooms gu), (m_store gu), (m_mostHeating gu), (m_mostCooling gu), (m_began gu), (m_walls gu), (m_wallRoom gu), (m_wallOther gu), (m_leads gu), (m_windows gu), (m_windowRoom gu), (m_windowSide gu), (m_windowArea gu), (m_windowLimit gu), (m_outside gu), (m_sun gu), (m_persons gu), (m_set gu), (m_cool gu), (m_low gu), (m_high gu)) = sguM_most gu gv r what v from by unfold sguM_most; rw [if_neg c_1, if_neg c_3, if_pos c_5]))) ?_
          exact kw_iret C hr hlocks (by unfold rM_most; rw [if_neg c_1, if_neg c_3, if_pos c_5]) dM_most_44
      · skip
        refine kw_iconst (v := 0) C dM_most_28 (by decide) ?_
        refine kw_goto (tgt := 33) C dM_most_29 (by decide) ?_
        refine kw_put C 0 rfl rfl ku_M tM_ok nM 0 (by decide) kt_556 rfl (ty := .int) (by decide +kernel) rfl rfl (Nat.le_of_ble_eq_true rfl) dM_most_33 (wM_gu k am 0 (m_rooms gu) (m_store gu) (m_mostHeating gu) (m_mostCooling gu) (m_began gu) (m_walls gu) (m_wallRoom gu) (m_wallOther gu) (m_leads gu) (m_windows gu) (m_windowRoom gu) (m_windowSide gu) (m_windowArea gu) (m_windowLimit gu) (m_outside gu) (m_sun gu) (m_persons gu) (m_set gu) (m_cool gu) (m_low gu) (m_high gu) gv) rfl ?_
        refine kw_aload_n C 0 dM_most_36 rfl rfl ?_
        refine kw_get (v := .int 0) C 0 rfl rfl ku_M 0 (by decide) kt_556 rfl dM_most_37 ?_
        refine kw_if_le (tgt := 45) C dM_most_40 (by decide) (fun c_7 => ?_) (fun c_7 => ?_)
        · skip
          refine kw_iload_n C 2 dM_most_45 rfl rfl ?_
          refine kw_if_ne (tgt := 58) C dM_most_46 (by decide) (fun c_8 => ?_) (fun c_8 => ?_)
          · skip
            refine kw_aload_n C 0 dM_most_58 rfl rfl ?_
            refine kw_get (v := .ref (am 8)) C 0 rfl rfl ku_M 9 (by decide) kt_565 rfl dM_most_59 ?_
            refine kw_iload_n C 1 dM_most_62 rfl rfl ?_
            refine kw_iald C 8 0 rfl rfl (kix_of (kin_le (kroomM hI c_1) (by have := hI.1.2; omega))) dM_most_63 ?_
            refine kw_istore (lv' := [(4, .int ((m_mostCooling gu) r.toNatClampNeg)), (0, .ref (am 0)), (1, .int r), (2, .int what), (3, .int v)]) C dM_most_64 (by decide) rfl ?_
            refine kw_aload_n C 1 dM_most_66 rfl rfl ?_
            refine kw_get (v := .ref (am 7)) C 0 rfl rfl ku_M 8 (by decide) kt_564 rfl dM_most_67 ?_
            refine kw_iload_n C 2 dM_most_70 rfl rfl ?_
            refine kw_iload_n C 3 dM_most_71 rfl rfl ?_
            refine kw_if_ne (tgt := 79) C dM_most_72 (by decide) (fun c_9 => ?_) (fun c_9 => ?_)
            · skip
              refine kw_aload_n C 1 dM_most_79 rfl rfl ?_
              refine kw_get (v := .ref (am 7)) C 0 rfl rfl ku_M 8 (by decide) kt_564 rfl dM_most_80 ?_
              refine kw_iload_n C 2 dM_most_83 rfl rfl ?_
              refine kw_iald C 7 0 rfl rfl (kix_of (kin_le (kroomM hI c_1) (by have := hI.1.2; omega))) dM_most_84 ?_
              refine kw_iast C 7 0 rfl rfl (kix_of (kin_le (kroomM hI c_1) (by have := hI.1.2; omega))) dM_most_85 (wM_gu k am 0 (m_rooms gu) (m_store gu) (upd (m_mostHeating gu) r.toNatClampNeg ((m_mostHeating gu) r.toNatClampNeg)) (m_mostCooling gu) (m_began gu) (m_walls gu) (m_wallRoom gu) (m_wallOther gu) (m_leads gu) (m_windows gu) (m_windowRoom gu) (m_windowSide gu) (m_windowArea gu) (m_windowLimit gu) (m_outside gu) (m_sun gu) (m_persons gu) (m_set gu) (m_cool gu) (m_low gu) (m_high gu) gv) rfl ?_
              refine kw_aload_n C 1 dM_most_86 rfl rfl ?_
              refine kw_get (v := .ref (am 8)) C 0 rfl rfl ku_M 9 (by decide) kt_565 rfl dM_most_87 ?_
              refine kw_iload_n C 2 dM_most_90 rfl rfl ?_
              refine kw_iload_n C 3 dM_most_91 rfl rfl ?_
              refine kw_iconst (v := 1) C dM_most_92 (by decide) ?_
              refine kw_icmp_ne (tgt := 100) C dM_most_93 (by decide) (fun c_10 => ?_) (fun c_10 => ?_)
              · skip
                refine kw_aload_n C 1 dM_most_100 rfl rfl ?_
                refine kw_get (v := .ref (am 8)) C 0 rfl rfl ku_M 9 (by decide) kt_565 rfl dM_most_101 ?_
                refine kw_iload_n C 2 dM_most_104 rfl rfl ?_
                refine kw_iald C 8 0 rfl rfl (kix_of (kin_le (kroomM hI c_1) (by have := hI.1.2; omega))) dM_most_105 ?_
                refine kw_iast C 8 0 rfl rfl (kix_of (kin_le (kroomM hI c_1) (by have := hI.1.2; omega))) dM_most_106 (wM_gu k am 0 (m_rooms gu) (m_store gu) (upd (m_mostHeating gu) r.toNatClampNeg ((m_mostHeating gu) r.toNatClampNeg)) (upd (m_mostCooling gu) r.toNatClampNeg ((m_mostCooling gu) r.toNatClampNeg)) (m_began gu) (m_walls gu) (m_wallRoom gu) (m_wallOther gu) (m_leads gu) (m_windows gu) (m_windowRoom gu) (m_windowSide gu) (m_windowArea gu) (m_windowLimit gu) (m_outside gu) (m_sun gu) (m_persons gu) (m_set gu) (m_cool gu) (m_low gu) (m_high gu) gv) rfl ?_
                refine kw_iload C 0 dM_most_107 rfl ?_
                refine kw_eq rfl rfl (mk_wM_gu.trans (congrArg (fun z90 => wM k am z90 gv) (show (0, (m_rooms gu), (m_store gu), (upd (m_mostHeating gu) r.toNatClampNeg ((m_mostHeating gu) r.toNatClampNeg)), (upd (m_mostCooling gu) r.toNatClampNeg ((m_mostCooling gu) r.toNatClampNeg)), (m_began gu), (m_walls gu), (m_wallRoom gu), (m_wallOther gu), (m_leads gu), (m_windows gu), (m_windowRoom gu), (m_windowSide gu), (m_windowArea gu), (m_windowLimit gu), (m_outside gu), (m_sun gu), (m_persons gu), (m_set gu), (m_cool gu), (m_low gu), (m_high gu)) = sguM_most gu gv r what v from by unfold sguM_most; rw [if_neg c_1, if_neg c_3, if_neg c_5, if_neg c_8, if_neg c_10]))) ?_
                exact kw_iret C hr hlocks (by unfold rM_most; rw [if_neg c_1, if_neg c_3, if_neg c_5, if_neg c_8, if_neg c_10]) dM_most_109
              · skip
                refine kw_iload_n C 4 dM_most_96 rfl rfl ?_
                refine kw_goto (tgt := 106) C dM_most_97 (by decide) ?_
                refine kw_iast C 8 0 rfl rfl (kix_of (kin_le (kroomM hI c_1) (by have := hI.1.2; omega))) dM_most_106 (wM_gu k am 0 (m_rooms gu) (m_store gu) (upd (m_mostHeating gu) r.toNatClampNeg ((m_mostHeating gu) r.toNatClampNeg)) (upd (m_mostCooling gu) r.toNatClampNeg v) (m_began gu) (m_walls gu) (m_wallRoom gu) (m_wallOther gu) (m_leads gu) (m_windows gu) (m_windowRoom gu) (m_windowSide gu) (m_windowArea gu) (m_windowLimit gu) (m_outside gu) (m_sun gu) (m_persons gu) (m_set gu) (m_cool gu) (m_low gu) (m_high gu) gv) rfl ?_
                refine kw_iload C 0 dM_most_107 rfl ?_
                refine kw_eq rfl rfl (mk_wM_gu.trans (congrArg (fun z90 => wM k am z90 gv) (show (0, (m_rooms gu), (m_store gu), (upd (m_mostHeating gu) r.toNatClampNeg ((m_mostHeating gu) r.toNatClampNeg)), (upd (m_mostCooling gu) r.toNatClampNeg v), (m_began gu), (m_walls gu), (m_wallRoom gu), (m_wallOther gu), (m_leads gu), (m_windows gu), (m_windowRoom gu), (m_windowSide gu), (m_windowArea gu), (m_windowLimit gu), (m_outside gu), (m_sun gu), (m_persons gu), (m_set gu), (m_cool gu), (m_low gu), (m_high gu)) = sguM_most gu gv r what v from by unfold sguM_most; rw [if_neg c_1, if_neg c_3, if_neg c_5, if_neg c_8, if_pos c_10]))) ?_
                exact kw_iret C hr hlocks (by unfold rM_most; rw [if_neg c_1, if_neg c_3, if_neg c_5, if_neg c_8, if_pos c_10]) dM_most_109
            · skip
              exact absurd c_9 c_8
          · skip
            refine kw_aload_n C 0 dM_most_49 rfl rfl ?_
            refine kw_get (v := .ref (am 7)) C 0 rfl rfl ku_M 8 (by decide) kt_564 rfl dM_most_50 ?_
            refine kw_iload_n C 1 dM_most_53 rfl rfl ?_
            refine kw_iald C 7 0 rfl rfl (kix_of (kin_le (kroomM hI c_1) (by have := hI.1.2; omega))) dM_most_54 ?_
            refine kw_goto (tgt := 64) C dM_most_55 (by decide) ?_
            refine kw_istore (lv' := [(4, .int ((m_mostHeating gu) r.toNatClampNeg)), (0, .ref (am 0)), (1, .int r), (2, .int what), (3, .int v)]) C dM_most_64 (by decide) rfl ?_
            refine kw_aload_n C 1 dM_most_66 rfl rfl ?_
            refine kw_get (v := .ref (am 7)) C 0 rfl rfl ku_M 8 (by decide) kt_564 rfl dM_most_67 ?_
            refine kw_iload_n C 2 dM_most_70 rfl rfl ?_
            refine kw_iload_n C 3 dM_most_71 rfl rfl ?_
            refine kw_if_ne (tgt := 79) C dM_most_72 (by decide) (fun c_11 => ?_) (fun c_11 => ?_)
            · skip
              exact absurd c_8 c_11
            · skip
              refine kw_iload_n C 4 dM_most_75 rfl rfl ?_
              refine kw_goto (tgt := 85) C dM_most_76 (by decide) ?_
              refine kw_iast C 7 0 rfl rfl (kix_of (kin_le (kroomM hI c_1) (by have := hI.1.2; omega))) dM_most_85 (wM_gu k am 0 (m_rooms gu) (m_store gu) (upd (m_mostHeating gu) r.toNatClampNeg v) (m_mostCooling gu) (m_began gu) (m_walls gu) (m_wallRoom gu) (m_wallOther gu) (m_leads gu) (m_windows gu) (m_windowRoom gu) (m_windowSide gu) (m_windowArea gu) (m_windowLimit gu) (m_outside gu) (m_sun gu) (m_persons gu) (m_set gu) (m_cool gu) (m_low gu) (m_high gu) gv) rfl ?_
              refine kw_aload_n C 1 dM_most_86 rfl rfl ?_
              refine kw_get (v := .ref (am 8)) C 0 rfl rfl ku_M 9 (by decide) kt_565 rfl dM_most_87 ?_
              refine kw_iload_n C 2 dM_most_90 rfl rfl ?_
              refine kw_iload_n C 3 dM_most_91 rfl rfl ?_
              refine kw_iconst (v := 1) C dM_most_92 (by decide) ?_
              refine kw_icmp_ne (tgt := 100) C dM_most_93 (by decide) (fun c_12 => ?_) (fun c_12 => ?_)
              · skip
                refine kw_aload_n C 1 dM_most_100 rfl rfl ?_
                refine kw_get (v := .ref (am 8)) C 0 rfl rfl ku_M 9 (by decide) kt_565 rfl dM_most_101 ?_
                refine kw_iload_n C 2 dM_most_104 rfl rfl ?_
                refine kw_iald C 8 0 rfl rfl (kix_of (kin_le (kroomM hI c_1) (by have := hI.1.2; omega))) dM_most_105 ?_
                refine kw_iast C 8 0 rfl rfl (kix_of (kin_le (kroomM hI c_1) (by have := hI.1.2; omega))) dM_most_106 (wM_gu k am 0 (m_rooms gu) (m_store gu) (upd (m_mostHeating gu) r.toNatClampNeg v) (upd (m_mostCooling gu) r.toNatClampNeg ((m_mostCooling gu) r.toNatClampNeg)) (m_began gu) (m_walls gu) (m_wallRoom gu) (m_wallOther gu) (m_leads gu) (m_windows gu) (m_windowRoom gu) (m_windowSide gu) (m_windowArea gu) (m_windowLimit gu) (m_outside gu) (m_sun gu) (m_persons gu) (m_set gu) (m_cool gu) (m_low gu) (m_high gu) gv) rfl ?_
                refine kw_iload C 0 dM_most_107 rfl ?_
                refine kw_eq rfl rfl (mk_wM_gu.trans (congrArg (fun z90 => wM k am z90 gv) (show (0, (m_rooms gu), (m_store gu), (upd (m_mostHeating gu) r.toNatClampNeg v), (upd (m_mostCooling gu) r.toNatClampNeg ((m_mostCooling gu) r.toNatClampNeg)), (m_began gu), (m_walls gu), (m_wallRoom gu), (m_wallOther gu), (m_leads gu), (m_windows gu), (m_windowRoom gu), (m_windowSide gu), (m_windowArea gu), (m_windowLimit gu), (m_outside gu), (m_sun gu), (m_persons gu), (m_set gu), (m_cool gu), (m_low gu), (m_high gu)) = sguM_most gu gv r what v from by unfold sguM_most; rw [if_neg c_1, if_neg c_3, if_neg c_5, if_pos c_8, if_neg c_12]))) ?_
                exact kw_iret C hr hlocks (by unfold rM_most; rw [if_neg c_1, if_neg c_3, if_neg c_5, if_pos c_8, if_neg c_12]) dM_most_109
              · skip
                refine kw_iload_n C 4 dM_most_96 rfl rfl ?_
                refine kw_goto (tgt := 106) C dM_most_97 (by decide) ?_
                refine kw_iast C 8 0 rfl rfl (kix_of (kin_le (kroomM hI c_1) (by have := hI.1.2; omega))) dM_most_106 (wM_gu k am 0 (m_rooms gu) (m_store gu) (upd (m_mostHeating gu) r.toNatClampNeg v) (upd (m_mostCooling gu) r.toNatClampNeg v) (m_began gu) (m_walls gu) (m_wallRoom gu) (m_wallOther gu) (m_leads gu) (m_windows gu) (m_windowRoom gu) (m_windowSide gu) (m_windowArea gu) (m_windowLimit gu) (m_outside gu) (m_sun gu) (m_persons gu) (m_set gu) (m_cool gu) (m_low gu) (m_high gu) gv) rfl ?_
                refine kw_iload C 0 dM_most_107 rfl ?_
                refine kw_eq rfl rfl (mk_wM_gu.trans (congrArg (fun z90 => wM k am z90 gv) (show (0, (m_rooms gu), (m_store gu), (upd (m_mostHeating gu) r.toNatClampNeg v), (upd (m_mostCooling gu) r.toNatClampNeg v), (m_began gu), (m_walls gu), (m_wallRoom gu), (m_wallOther gu), (m_leads gu), (m_windows gu), (m_windowRoom gu), (m_windowSide gu), (m_windowArea gu), (m_windowLimit gu), (m_outside gu), (m_sun gu), (m_persons gu), (m_set gu), (m_cool gu), (m_low gu), (m_high gu)) = sguM_most gu gv r what v from by unfold sguM_most; rw [if_neg c_1, if_neg c_3, if_neg c_5, if_pos c_8, if_pos c_12]))) ?_
                exact kw_iret C hr hlocks (by unfold rM_most; rw [if_neg c_1, if_neg c_3, if_neg c_5, if_pos c_8, if_pos c_12]) dM_most_109
        · skip
          exact absurd (by decide) c_7
