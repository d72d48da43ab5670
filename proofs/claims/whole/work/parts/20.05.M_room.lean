def rM_room (gu : MU) (gv : MV) (s_ : Int32) (w_ : Int32) : Int32 := if (rM_in s_ 1 10000) = 0 then 0 else (if (rM_isWarmth w_) = 0 then 0 else (if (m_rooms gu) = 8 then 0 else ((m_rooms gu) + 1) - 1))
noncomputable def sguM_room (gu : MU) (gv : MV) (s_ : Int32) (w_ : Int32) : MU := if (rM_in s_ 1 10000) = 0 then (1, (m_rooms gu), (m_store gu), (m_mostHeating gu), (m_mostCooling gu), (m_began gu), (m_walls gu), (m_wallRoom gu), (m_wallOther gu), (m_leads gu), (m_windows gu), (m_windowRoom gu), (m_windowSide gu), (m_windowArea gu), (m_windowLimit gu), (m_outside gu), (m_sun gu), (m_persons gu), (m_set gu), (m_cool gu), (m_low gu), (m_high gu)) else (if (rM_isWarmth w_) = 0 then (1, (m_rooms gu), (m_store gu), (m_mostHeating gu), (m_mostCooling gu), (m_began gu), (m_walls gu), (m_wallRoom gu), (m_wallOther gu), (m_leads gu), (m_windows gu), (m_windowRoom gu), (m_windowSide gu), (m_windowArea gu), (m_windowLimit gu), (m_outside gu), (m_sun gu), (m_persons gu), (m_set gu), (m_cool gu), (m_low gu), (m_high gu)) else (if (m_rooms gu) = 8 then (2, (m_rooms gu), (m_store gu), (m_mostHeating gu), (m_mostCooling gu), (m_began gu), (m_walls gu), (m_wallRoom gu), (m_wallOther gu), (m_leads gu), (m_windows gu), (m_windowRoom gu), (m_windowSide gu), (m_windowArea gu), (m_windowLimit gu), (m_outside gu), (m_sun gu), (m_persons gu), (m_set gu), (m_cool gu), (m_low gu), (m_high gu)) else (0, ((m_rooms gu) + 1), (upd (m_store gu) ((m_rooms gu).toNatClampNeg) s_), (m_mostHeating gu), (m_mostCooling gu), ((m_began gu) + ((vp_updL (m_heat gv) ((m_rooms gu).toNatClampNeg) (s_.toInt64 * w_.toInt64)) ((m_rooms gu).toNatClampNeg))), (m_walls gu), (m_wallRoom gu), (m_wallOther gu), (m_leads gu), (m_windows gu), (m_windowRoom gu), (m_windowSide gu), (m_windowArea gu), (m_windowLimit gu), (m_outside gu), (m_sun gu), (m_persons gu), (m_set gu), (m_cool gu), (m_low gu), (m_high gu))))
noncomputable def sgvM_room (gu : MU) (gv : MV) (s_ : Int32) (w_ : Int32) : MV := if (rM_in s_ 1 10000) = 0 then gv else (if (rM_isWarmth w_) = 0 then gv else (if (m_rooms gu) = 8 then gv else ((vp_updL (m_heat gv) ((m_rooms gu).toNatClampNeg) (s_.toInt64 * w_.toInt64)), (m_uneasy gv), (m_gave gv), (m_taken gv), (m_greatest gv), (m_now gv), (m_bySun gv), (m_byPersons gv), (m_out gv), (m_warmth gv), (m_triedRoom gv), (m_triedWarmth gv), (m_triedFrom gv), (m_wasLow gv), (m_kept gv))))
set_option maxRecDepth 100000 in
set_option maxHeartbeats 4000000 in
theorem cM_room (l : Launch) (D : va_G) (k : Nat → ClassId) (am : Nat → Nat) (gu : MU) (gv : MV) (s_ : Int32) (w_ : Int32) (hI : mInv gu) : kMi l yM_room (kwm yM_room bM_room 3 (some .int)) ({ frames := 2, cells := 0, slots := 0, locals := 42 }) D kcl (kty k) (wM k am gu gv) (wM k am (sguM_room gu gv s_ w_) (sgvM_room gu gv s_ w_)) [.ref (am 0), .int s_, .int w_] (rM_room gu gv s_ w_) := by
  refine k_entry_i (lv0 := [(0, .ref (am 0)), (1, .int s_), (2, .int w_)]) rfl (by decide +kernel) (Nat.le_of_ble_eq_true rfl) rfl ?_
  intro p e s m args below meth c0 C hr hlocks
  refine kw_aload_n C 0 dM_room_0 rfl rfl ?_
  refine kw_iload_n C 1 dM_room_1 rfl rfl ?_
  refine kw_iconst (v := 1) C dM_room_2 (by decide) ?_
  refine kw_sipush (v := 10000) C dM_room_3 (by decide) ?_
  refine kw_callSi (st := [.ref (am 0)]) C (cM_in l D k s_ 1 10000) (va_cwS 3 C.1.2.2.2.2 (kgO kt_676 kt_677 kt_5 kt_678) rfl rfl rfl kdM_in ⟨Nat.le_of_ble_eq_true rfl, Nat.le_of_ble_eq_true rfl⟩) [] rfl rfl rfl rfl (Nat.le_of_ble_eq_true rfl) dM_room_6 ⟨Nat.zero_le _, Nat.zero_le _⟩ rfl (wM k am gu gv) rfl ?_
  refine kw_if_eq (tgt := 19) C dM_room_9 (by decide) (fun c_1 => ?_) (fun c_1 => ?_)
  · skip
    refine kw_iconst (v := 1) C dM_room_19 (by decide) ?_
    refine kw_goto (tgt := 37) C dM_room_20 (by decide) ?_
    refine kw_put C 0 rfl rfl ku_M tM_ok nM 0 (by decide) kt_556 rfl (ty := .int) (by decide +kernel) rfl rfl (Nat.le_of_ble_eq_true rfl) dM_room_37 (wM_gu k am 1 (m_rooms gu) (m_store gu) (m_mostHeating gu) (m_mostCooling gu) (m_began gu) (m_walls gu) (m_wallRoom gu) (m_wallOther gu) (m_leads gu) (m_windows gu) (m_windowRoom gu) (m_windowSide gu) (m_windowArea gu) (m_windowLimit gu) (m_outside gu) (m_sun gu) (m_persons gu) (m_set gu) (m_cool gu) (m_low gu) (m_high gu) gv) rfl ?_
    refine kw_aload_n C 0 dM_room_40 rfl rfl ?_
    refine kw_get (v := .int 1) C 0 rfl rfl ku_M 0 (by decide) kt_556 rfl dM_room_41 ?_
    refine kw_if_le (tgt := 49) C dM_room_44 (by decide) (fun c_2 => ?_) (fun c_2 => ?_)
    · skip
      exact absurd c_2 (by decide)
    · skip
      refine kw_iconst (v := 0) C dM_room_47 (by decide) ?_
      refine kw_eq rfl rfl (mk_wM_gu.trans (kc2 (f := fun z90 z91 => wM k am z90 z91) (show (1, (m_rooms gu), (m_store gu), (m_mostHeating gu), (m_mostCooling gu), (m_began gu), (m_walls gu), (m_wallRoom gu), (m_wallOther gu), (m_leads gu), (m_windows gu), (m_windowRoom gu), (m_windowSide gu), (m_windowArea gu), (m_windowLimit gu), (m_outside gu), (m_sun gu), (m_persons gu), (m_set gu), (m_cool gu), (m_low gu), (m_high gu)) = sguM_room gu gv s_ w_ from by unfold sguM_room; rw [if_pos c_1]) (show gv = sgvM_room gu gv s_ w_ from by unfold sgvM_room; rw [if_pos c_1]))) ?_
      exact kw_iret C hr hlocks (by unfold rM_room; rw [if_pos c_1]) dM_room_48
  · skip
    refine kw_iload_n C 2 dM_room_12 rfl rfl ?_
    refine kw_callSi (st := [.ref (am 0)]) C (cM_isWarmth l D k w_) (va_cwS 1 C.1.2.2.2.2 (kgO kt_679 kt_680 kt_5 kt_681) rfl rfl rfl kdM_isWarmth ⟨Nat.le_of_ble_eq_true rfl, Nat.le_of_ble_eq_true rfl⟩) [] rfl rfl rfl rfl (Nat.le_of_ble_eq_true rfl) dM_room_13 ⟨Nat.zero_le _, Nat.zero_le _⟩ rfl (wM k am gu gv) rfl ?_
    refine kw_if_ne (tgt := 23) C dM_room_16 (by decide) (fun c_3 => ?_) (fun c_3 => ?_)
    · skip
      refine kw_aload_n C 0 dM_room_23 rfl rfl ?_
      refine kw_get (v := .int (m_rooms gu)) C 0 rfl rfl ku_M 1 (by decide) kt_557 rfl dM_room_24 ?_
      refine kw_bipush (v := 8) C dM_room_27 (by decide) ?_
      refine kw_icmp_ne (tgt := 36) C dM_room_29 (by decide) (fun c_4 => ?_) (fun c_4 => ?_)
      · skip
        refine kw_iconst (v := 0) C dM_room_36 (by decide) ?_
        refine kw_put C 0 rfl rfl ku_M tM_ok nM 0 (by decide) kt_556 rfl (ty := .int) (by decide +kernel) rfl rfl (Nat.le_of_ble_eq_true rfl) dM_room_37 (wM_gu k am 0 (m_rooms gu) (m_store gu) (m_mostHeating gu) (m_mostCooling gu) (m_began gu) (m_walls gu) (m_wallRoom gu) (m_wallOther gu) (m_leads gu) (m_windows gu) (m_windowRoom gu) (m_windowSide gu) (m_windowArea gu) (m_windowLimit gu) (m_outside gu) (m_sun gu) (m_persons gu) (m_set gu) (m_cool gu) (m_low gu) (m_high gu) gv) rfl ?_
        refine kw_aload_n C 0 dM_room_40 rfl rfl ?_
        refine kw_get (v := .int 0) C 0 rfl rfl ku_M 0 (by decide) kt_556 rfl dM_room_41 ?_
        refine kw_if_le (tgt := 49) C dM_room_44 (by decide) (fun c_5 => ?_) (fun c_5 => ?_)
        · skip
          refine kw_aload_n C 0 dM_room_49 rfl rfl ?_
          refine kw_get (v := .ref (am 1)) C 0 rfl rfl ku_M 2 (by decide) kt_558 rfl dM_room_50 ?_
          refine kw_aload_n C 0 dM_room_53 rfl rfl ?_
          refine kw_get (v := .int (m_rooms gu)) C 0 rfl rfl ku_M 1 (by decide) kt_557 rfl dM_room_54 ?_
          refine kw_iload_n C 1 dM_room_57 rfl rfl ?_
          refine kw_iast C 1 0 rfl rfl (kix_of (kfull hI.1.1 hI.1.2 c_4)) dM_room_58 (wM_gu k am 0 (m_rooms gu) (upd (m_store gu) ((m_rooms gu).toNatClampNeg) s_) (m_mostHeating gu) (m_mostCooling gu) (m_began gu) (m_walls gu) (m_wallRoom gu) (m_wallOther gu) (m_leads gu) (m_windows gu) (m_windowRoom gu) (m_windowSide gu) (m_windowArea gu) (m_windowLimit gu) (m_outside gu) (m_sun gu) (m_persons gu) (m_set gu) (m_cool gu) (m_low gu) (m_high gu) gv) rfl ?_
          refine kw_aload_n C 0 dM_room_59 rfl rfl ?_
          refine kw_get (v := .ref (am 2)) C 0 rfl rfl ku_M 3 (by decide) kt_559 rfl dM_room_60 ?_
          refine kw_aload_n C 0 dM_room_63 rfl rfl ?_
          refine kw_get (v := .int (m_rooms gu)) C 0 rfl rfl ku_M 1 (by decide) kt_557 rfl dM_room_64 ?_
          refine kw_iload_n C 1 dM_room_67 rfl rfl ?_
          refine kw_i2l C dM_room_68 ?_
          refine kw_iload_n C 2 dM_room_69 rfl rfl ?_
          refine kw_i2l C dM_room_70 ?_
          refine kw_lmul C dM_room_71 ?_
          refine kw_last C 2 1 rfl rfl (kix_of (kfull hI.1.1 hI.1.2 c_4)) dM_room_72 (wM_gu_gv k am 0 (m_rooms gu) (upd (m_store gu) ((m_rooms gu).toNatClampNeg) s_) (m_mostHeating gu) (m_mostCooling gu) (m_began gu) (m_walls gu) (m_wallRoom gu) (m_wallOther gu) (m_leads gu) (m_windows gu) (m_windowRoom gu) (m_windowSide gu) (m_windowArea gu) (m_windowLimit gu) (m_outside gu) (m_sun gu) (m_persons gu) (m_set gu) (m_cool gu) (m_low gu) (m_high gu) (vp_updL (m_heat gv) ((m_rooms gu).toNatClampNeg) (s_.toInt64 * w_.toInt64)) (m_uneasy gv) (m_gave gv) (m_taken gv) (m_greatest gv) (m_now gv) (m_bySun gv) (m_byPersons gv) (m_out gv) (m_warmth gv) (m_triedRoom gv) (m_triedWarmth gv) (m_triedFrom gv) (m_wasLow gv) (m_kept gv)) rfl ?_
          refine kw_aload_n C 0 dM_room_73 rfl rfl ?_
          refine kw_dup C dM_room_74 rfl ?_
          refine kw_get (v := .long (m_began gu)) C 0 rfl rfl ku_M 10 (by decide) kt_566 rfl dM_room_75 ?_
          refine kw_aload_n C 0 dM_room_78 rfl rfl ?_
          refine kw_get (v := .ref (am 2)) C 0 rfl rfl ku_M 3 (by decide) kt_559 rfl dM_room_79 ?_
          refine kw_aload_n C 0 dM_room_82 rfl rfl ?_
          refine kw_get (v := .int (m_rooms gu)) C 0 rfl rfl ku_M 1 (by decide) kt_557 rfl dM_room_83 ?_
          refine kw_lald C 2 1 rfl rfl (kix_of (kfull hI.1.1 hI.1.2 c_4)) dM_room_86 ?_
          refine kw_ladd C dM_room_87 ?_
          refine kw_put C 0 rfl rfl ku_M tM_ok nM 10 (by decide) kt_566 rfl (ty := .long) (by decide +kernel) rfl rfl (Nat.le_of_ble_eq_true rfl) dM_room_88 (wM_gu_gv k am 0 (m_rooms gu) (upd (m_store gu) ((m_rooms gu).toNatClampNeg) s_) (m_mostHeating gu) (m_mostCooling gu) ((m_began gu) + ((vp_updL (m_heat gv) ((m_rooms gu).toNatClampNeg) (s_.toInt64 * w_.toInt64)) ((m_rooms gu).toNatClampNeg))) (m_walls gu) (m_wallRoom gu) (m_wallOther gu) (m_leads gu) (m_windows gu) (m_windowRoom gu) (m_windowSide gu) (m_windowArea gu) (m_windowLimit gu) (m_outside gu) (m_sun gu) (m_persons gu) (m_set gu) (m_cool gu) (m_low gu) (m_high gu) (vp_updL (m_heat gv) ((m_rooms gu).toNatClampNeg) (s_.toInt64 * w_.toInt64)) (m_uneasy gv) (m_gave gv) (m_taken gv) (m_greatest gv) (m_now gv) (m_bySun gv) (m_byPersons gv) (m_out gv) (m_warmth gv) (m_triedRoom gv) (m_triedWarmth gv) (m_triedFrom gv) (m_wasLow gv) (m_kept gv)) rfl ?_
          refine kw_aload_n C 0 dM_room_91 rfl rfl ?_
          refine kw_dup C dM_room_92 rfl ?_
          refine kw_get (v := .int (m_rooms gu)) C 0 rfl rfl ku_M 1 (by decide) kt_557 rfl dM_room_93 ?_
          refine kw_iconst (v := 1) C dM_room_96 (by decide) ?_
          refine kw_iadd C dM_room_97 ?_
          refine kw_put C 0 rfl rfl ku_M tM_ok nM 1 (by decide) kt_557 rfl (ty := .int) (by decide +kernel) rfl rfl (Nat.le_of_ble_eq_true rfl) dM_room_98 (wM_gu_gv k am 0 ((m_rooms gu) + 1) (upd (m_store gu) ((m_rooms gu).toNatClampNeg) s_) (m_mostHeating gu) (m_mostCooling gu) ((m_began gu) + ((vp_updL (m_heat gv) ((m_rooms gu).toNatClampNeg) (s_.toInt64 * w_.toInt64)) ((m_rooms gu).toNatClampNeg))) (m_walls gu) (m_wallRoom gu) (m_wallOther gu) (m_leads gu) (m_windows gu) (m_windowRoom gu) (m_windowSide gu) (m_windowArea gu) (m_windowLimit gu) (m_outside gu) (m_sun gu) (m_persons gu) (m_set gu) (m_cool gu) (m_low gu) (m_high gu) (vp_updL (m_heat gv) ((m_rooms gu).toNatClampNeg) (s_.toInt64 * w_.toInt64)) (m_uneasy gv) (m_gave gv) (m_taken gv) (m_greatest gv) (m_now gv) (m_bySun gv) (m_byPersons gv) (m_out gv) (m_warmth gv) (m_triedRoom gv) (m_triedWarmth gv) (m_triedFrom gv) (m_wasLow gv) (m_kept gv)) rfl ?_
          refine kw_aload_n C 0 dM_room_101 rfl rfl ?_
          refine kw_get (v := .int ((m_rooms gu) + 1)) C 0 rfl rfl ku_M 1 (by decide) kt_557 rfl dM_room_102 ?_
          refine kw_iconst (v := 1) C dM_room_105 (by decide) ?_
          refine kw_isub C dM_room_106 ?_
          refine kw_eq rfl rfl (mk_wM_gu_gv.trans (kc2 (f := fun z90 z91 => wM k am z90 z91) (show (0, ((m_rooms gu) + 1), (upd (m_store gu) ((m_rooms gu).toNatClampNeg) s_), (m_mostHeating gu), (m_mostCooling gu), ((m_began gu) + ((vp_updL (m_heat gv) ((m_rooms gu).toNatClampNeg) (s_.toInt64 * w_.toInt64)) ((m_rooms gu).toNatClampNeg))), (m_walls gu), (m_wallRoom gu), (m_wallOther gu), (m_leads gu), (m_windows gu), (m_windowRoom gu), (m_windowSide gu), (m_windowArea gu), (m_windowLimit gu), (m_outside gu), (m_sun gu), (m_persons gu), (m_set gu), (m_cool gu), (m_low gu), (m_high gu)) = sguM_room gu gv s_ w_ from by unfold sguM_room; rw [if_neg c_1, if_neg c_3, if_neg c_4]) (show ((vp_updL (m_heat gv) ((m_rooms gu).toNatClampNeg) (s_.toInt64 * w_.toInt64)), (m_uneasy gv), (m_gave gv), (m_taken gv), (m_greatest gv), (m_now gv), (m_bySun gv), (m_byPersons gv), (m_out gv), (m_warmth gv), (m_triedRoom gv), (m_triedWarmth gv), (m_triedFrom gv), (m_wasLow gv), (m_kept gv)) = sgvM_room gu gv s_ w_ from by unfold sgvM_room; rw [if_neg c_1, if_neg c_3, if_neg c_4]))) ?_
          exact kw_iret C hr hlocks (by unfold rM_room; rw [if_neg c_1, if_neg c_3, if_neg c_4]) dM_room_107
        · skip
          exact absurd (by decide) c_5
      · skip
        refine kw_iconst (v := 2) C dM_room_32 (by decide) ?_
        refine kw_goto (tgt := 37) C dM_room_33 (by decide) ?_
        refine kw_put C 0 rfl rfl ku_M tM_ok nM 0 (by decide) kt_556 rfl (ty := .int) (by decide +kernel) rfl rfl (Nat.le_of_ble_eq_true rfl) dM_room_37 (wM_gu k am 2 (m_rooms gu) (m_store gu) (m_mostHeating gu) (m_mostCooling gu) (m_began gu) (m_walls gu) (m_wallRoom gu) (m_wallOther gu) (m_leads gu) (m_windows gu) (m_windowRoom gu) (m_windowSide gu) (m_windowArea gu) (m_windowLimit gu) (m_outside gu) (m_sun gu) (m_persons gu) (m_set gu) (m_cool gu) (m_low gu) (m_high gu) gv) rfl ?_
        refine kw_aload_n C 0 dM_room_40 rfl rfl ?_
        refine kw_get (v := .int 2) C 0 rfl rfl ku_M 0 (by decide) kt_556 rfl dM_room_41 ?_
        refine kw_if_le (tgt := 49) C dM_room_44 (by decide) (fun c_6 => ?_) (fun c_6 => ?_)
        · skip
          exact absurd c_6 (by decide)
        · skip
          refine kw_iconst (v := 0) C dM_room_47 (by decide) ?_
          refine kw_eq rfl rfl (mk_wM_gu.trans (kc2 (f := fun z90 z91 => wM k am z90 z91) (show (2, (m_rooms gu), (m_store gu), (m_mostHeating gu), (m_mostCooling gu), (m_began gu), (m_walls gu), (m_wallRoom gu), (m_wallOther gu), (m_leads gu), (m_windows gu), (m_windowRoom gu), (m_windowSide gu), (m_windowArea gu), (m_windowLimit gu), (m_outside gu), (m_sun gu), (m_persons gu), (m_set gu), (m_cool gu), (m_low gu), (m_high gu)) = sguM_room gu gv s_ w_ from by unfold sguM_room; rw [if_neg c_1, if_neg c_3, if_pos c_4]) (show gv = sgvM_room gu gv s_ w_ from by unfold sgvM_room; rw [if_neg c_1, if_neg c_3, if_pos c_4]))) ?_
          exact kw_iret C hr hlocks (by unfold rM_room; rw [if_neg c_1, if_neg c_3, if_pos c_4]) dM_room_48
    · skip
      refine kw_iconst (v := 1) C dM_room_19 (by decide) ?_
      refine kw_goto (tgt := 37) C dM_room_20 (by decide) ?_
      refine kw_put C 0 rfl rfl ku_M tM_ok nM 0 (by decide) kt_556 rfl (ty := .int) (by decide +kernel) rfl rfl (Nat.le_of_ble_eq_true rfl) dM_room_37 (wM_gu k am 1 (m_rooms gu) (m_store gu) (m_mostHeating gu) (m_mostCooling gu) (m_began gu) (m_walls gu) (m_wallRoom gu) (m_wallOther gu) (m_leads gu) (m_windows gu) (m_windowRoom gu) (m_windowSide gu) (m_windowArea gu) (m_windowLimit gu) (m_outside gu) (m_sun gu) (m_persons gu) (m_set gu) (m_cool gu) (m_low gu) (m_high gu) gv) rfl ?_
      refine kw_aload_n C 0 dM_room_40 rfl rfl ?_
      refine kw_get (v := .int 1) C 0 rfl rfl ku_M 0 (by decide) kt_556 rfl dM_room_41 ?_
      refine kw_if_le (tgt := 49) C dM_room_44 (by decide) (fun c_7 => ?_) (fun c_7 => ?_)
      · skip
        exact absurd c_7 (by decide)
      · skip
        refine kw_iconst (v := 0) C dM_room_47 (by decide) ?_
        refine kw_eq rfl rfl (mk_wM_gu.trans (kc2 (f := fun z90 z91 => wM k am z90 z91) (show (1, (m_rooms gu), (m_store gu), (m_mostHeating gu), (m_mostCooling gu), (m_began gu), (m_walls gu), (m_wallRoom gu), (m_wallOther gu), (m_leads gu), (m_windows gu), (m_windowRoom gu), (m_windowSide gu), (m_windowArea gu), (m_windowLimit gu), (m_outside gu), (m_sun gu), (m_persons gu), (m_set gu), (m_cool gu), (m_low gu), (m_high gu)) = sguM_room gu gv s_ w_ from by unfold sguM_room; rw [if_neg c_1, if_pos c_3]) (show gv = sgvM_room gu gv s_ w_ from by unfold sgvM_room; rw [if_neg c_1, if_pos c_3]))) ?_
        exact kw_iret C hr hlocks (by unfold rM_room; rw [if_neg c_1, if_pos c_3]) dM_room_48
