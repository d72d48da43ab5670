def rM_sun (gu : MU) (gv : MV) (side : Int32) (h_ : Int32) (v : Int32) : Int32 := if (rM_in side 0 3) = 0 then 0 else (if (rM_in h_ 0 23) = 0 then 0 else (if (rM_in v 0 1000) = 0 then 0 else (m_sun gu) ((24 * side + h_).toNatClampNeg)))
noncomputable def sguM_sun (gu : MU) (gv : MV) (side : Int32) (h_ : Int32) (v : Int32) : MU := if (rM_in side 0 3) = 0 then (1, (m_rooms gu), (m_store gu), (m_mostHeating gu), (m_mostCooling gu), (m_began gu), (m_walls gu), (m_wallRoom gu), (m_wallOther gu), (m_leads gu), (m_windows gu), (m_windowRoom gu), (m_windowSide gu), (m_windowArea gu), (m_windowLimit gu), (m_outside gu), (m_sun gu), (m_persons gu), (m_set gu), (m_cool gu), (m_low gu), (m_high gu)) else (if (rM_in h_ 0 23) = 0 then (1, (m_rooms gu), (m_store gu), (m_mostHeating gu), (m_mostCooling gu), (m_began gu), (m_walls gu), (m_wallRoom gu), (m_wallOther gu), (m_leads gu), (m_windows gu), (m_windowRoom gu), (m_windowSide gu), (m_windowArea gu), (m_windowLimit gu), (m_outside gu), (m_sun gu), (m_persons gu), (m_set gu), (m_cool gu), (m_low gu), (m_high gu)) else (if (rM_in v 0 1000) = 0 then (1, (m_rooms gu), (m_store gu), (m_mostHeating gu), (m_mostCooling gu), (m_began gu), (m_walls gu), (m_wallRoom gu), (m_wallOther gu), (m_leads gu), (m_windows gu), (m_windowRoom gu), (m_windowSide gu), (m_windowArea gu), (m_windowLimit gu), (m_outside gu), (m_sun gu), (m_persons gu), (m_set gu), (m_cool gu), (m_low gu), (m_high gu)) else (0, (m_rooms gu), (m_store gu), (m_mostHeating gu), (m_mostCooling gu), (m_began gu), (m_walls gu), (m_wallRoom gu), (m_wallOther gu), (m_leads gu), (m_windows gu), (m_windowRoom gu), (m_windowSide gu), (m_windowArea gu), (m_windowLimit gu), (m_outside gu), (upd (m_sun gu) ((24 * side + h_).toNatClampNeg) v), (m_persons gu), (m_set gu), (m_cool gu), (m_low gu), (m_high gu))))
set_option maxRecDepth 100000 in
set_option maxHeartbeats 4000000 in
theorem cM_sun (l : Launch) (D : va_G) (k : Nat → ClassId) (am : Nat → Nat) (gu : MU) (gv : MV) (side : Int32) (h_ : Int32) (v : Int32) (hI : mInv gu) : kMi l yM_sun (kwm yM_sun bM_sun 5 (some .int)) ({ frames := 1, cells := 0, slots := 0, locals := 22 }) D kcl (kty k) (wM k am gu gv) (wM k am (sguM_sun gu gv side h_ v) gv) [.ref (am 0), .int side, .int h_, .int v] (rM_sun gu gv side h_ v) := by
  refine k_entry_i (lv0 := [(0, .ref (am 0)), (1, .int side), (2, .int h_), (3, .int v)]) rfl (by decide +kernel) (Nat.le_of_ble_eq_true rfl) rfl ?_
  intro p e s m args below meth c0 C hr hlocks
  refine kw_aload_n C 0 dM_sun_0 rfl rfl ?_
  refine kw_iload_n C 1 dM_sun_1 rfl rfl ?_
  refine kw_iconst (v := 0) C dM_sun_2 (by decide) ?_
  refine kw_iconst (v := 3) C dM_sun_3 (by decide) ?_
  refine kw_callSi (st := [.ref (am 0)]) C (cM_in l D k side 0 3) (va_cwS 3 C.1.2.2.2.2 (kgO kt_676 kt_677 kt_5 kt_678) rfl rfl rfl kdM_in ⟨Nat.le_of_ble_eq_true rfl, Nat.le_of_ble_eq_true rfl⟩) [] rfl rfl rfl rfl (Nat.le_of_ble_eq_true rfl) dM_sun_4 ⟨Nat.zero_le _, Nat.zero_le _⟩ rfl (wM k am gu gv) rfl ?_
  refine kw_if_eq (tgt := 35) C dM_sun_7 (by decide) (fun c_1 => ?_) (fun c_1 => ?_)
  · skip
    refine kw_iconst (v := 1) C dM_sun_35 (by decide) ?_
    refine kw_put C 0 rfl rfl ku_M tM_ok nM 0 (by decide) kt_556 rfl (ty := .int) (by decide +kernel) rfl rfl (Nat.le_of_ble_eq_true rfl) dM_sun_36 (wM_gu k am 1 (m_rooms gu) (m_store gu) (m_mostHeating gu) (m_mostCooling gu) (m_began gu) (m_walls gu) (m_wallRoom gu) (m_wallOther gu) (m_leads gu) (m_windows gu) (m_windowRoom gu) (m_windowSide gu) (m_windowArea gu) (m_windowLimit gu) (m_outside gu) (m_sun gu) (m_persons gu) (m_set gu) (m_cool gu) (m_low gu) (m_high gu) gv) rfl ?_
    refine kw_aload_n C 0 dM_sun_39 rfl rfl ?_
    refine kw_get (v := .int 1) C 0 rfl rfl ku_M 0 (by decide) kt_556 rfl dM_sun_40 ?_
    refine kw_if_le (tgt := 48) C dM_sun_43 (by decide) (fun c_2 => ?_) (fun c_2 => ?_)
    · skip
      exact absurd c_2 (by decide)
    · skip
      refine kw_iconst (v := 0) C dM_sun_46 (by decide) ?_
      refine kw_eq rfl rfl (mk_wM_gu.trans (congrArg (fun z90 => wM k am z90 gv) (show (1, (m_rooms gu), (m_store gu), (m_mostHeating gu), (m_mostCooling gu), (m_began gu), (m_walls gu), (m_wallRoom gu), (m_wallOther gu), (m_leads gu), (m_windows gu), (m_windowRoom gu), (m_windowSide gu), (m_windowArea gu), (m_windowLimit gu), (m_outside gu), (m_sun gu), (m_persons gu), (m_set gu), (m_cool gu), (m_low gu), (m_high gu)) = sguM_sun gu gv side h_ v from by unfold sguM_sun; rw [if_pos c_1]))) ?_
      exact kw_iret C hr hlocks (by unfold rM_sun; rw [if_pos c_1]) dM_sun_47
  · skip
    refine kw_iload_n C 2 dM_sun_10 rfl rfl ?_
    refine kw_iconst (v := 0) C dM_sun_11 (by decide) ?_
    refine kw_bipush (v := 23) C dM_sun_12 (by decide) ?_
    refine kw_callSi (st := [.ref (am 0)]) C (cM_in l D k h_ 0 23) (va_cwS 3 C.1.2.2.2.2 (kgO kt_676 kt_677 kt_5 kt_678) rfl rfl rfl kdM_in ⟨Nat.le_of_ble_eq_true rfl, Nat.le_of_ble_eq_true rfl⟩) [] rfl rfl rfl rfl (Nat.le_of_ble_eq_true rfl) dM_sun_14 ⟨Nat.zero_le _, Nat.zero_le _⟩ rfl (wM k am gu gv) rfl ?_
    refine kw_if_eq (tgt := 35) C dM_sun_17 (by decide) (fun c_3 => ?_) (fun c_3 => ?_)
    · skip
      refine kw_iconst (v := 1) C dM_sun_35 (by decide) ?_
      refine kw_put C 0 rfl rfl ku_M tM_ok nM 0 (by decide) kt_556 rfl (ty := .int) (by decide +kernel) rfl rfl (Nat.le_of_ble_eq_true rfl) dM_sun_36 (wM_gu k am 1 (m_rooms gu) (m_store gu) (m_mostHeating gu) (m_mostCooling gu) (m_began gu) (m_walls gu) (m_wallRoom gu) (m_wallOther gu) (m_leads gu) (m_windows gu) (m_windowRoom gu) (m_windowSide gu) (m_windowArea gu) (m_windowLimit gu) (m_outside gu) (m_sun gu) (m_persons gu) (m_set gu) (m_cool gu) (m_low gu) (m_high gu) gv) rfl ?_
      refine kw_aload_n C 0 dM_sun_39 rfl rfl ?_
      refine kw_get (v := .int 1) C 0 rfl rfl ku_M 0 (by decide) kt_556 rfl dM_sun_40 ?_
      refine kw_if_le (tgt := 48) C dM_sun_43 (by decide) (fun c_4 => ?_) (fun c_4 => ?_)
      · skip
        exact absurd c_4 (by decide)
      · skip
        refine kw_iconst (v := 0) C dM_sun_46 (by decide) ?_
        refine kw_eq rfl rfl (mk_wM_gu.trans (congrArg (fun z90 => wM k am z90 gv) (show (1, (m_rooms gu), (m_store gu), (m_mostHeating gu), (m_mostCooling gu), (m_began gu), (m_walls gu), (m_wallRoom gu), (m_wallOther gu), (m_leads gu), (m_windows gu), (m_windowRoom gu), (m_windowSide gu), (m_windowArea gu), (m_windowLimit gu), (m_outside gu), (m_sun gu), (m_persons gu), (m_set gu), (m_cool gu), (m_low gu), (m_high gu)) = sguM_sun gu gv side h_ v from by unfold sguM_sun; rw [if_neg c_1, if_pos c_3]))) ?_
        exact kw_iret C hr hlocks (by unfold rM_sun; rw [if_neg c_1, if_pos c_3]) dM_sun_47
    · skip
      refine kw_iload_n C 3 dM_sun_20 rfl rfl ?_
      refine kw_iconst (v := 0) C dM_sun_21 (by decide) ?_
      refine kw_sipush (v := 1000) C dM_sun_22 (by decide) ?_
      refine kw_callSi (st := [.ref (am 0)]) C (cM_in l D k v 0 1000) (va_cwS 3 C.1.2.2.2.2 (kgO kt_676 kt_677 kt_5 kt_678) rfl rfl rfl kdM_in ⟨Nat.le_of_ble_eq_true rfl, Nat.le_of_ble_eq_true rfl⟩) [] rfl rfl rfl rfl (Nat.le_of_ble_eq_true rfl) dM_sun_25 ⟨Nat.zero_le _, Nat.zero_le _⟩ rfl (wM k am gu gv) rfl ?_
      refine kw_if_eq (tgt := 35) C dM_sun_28 (by decide) (fun c_5 => ?_) (fun c_5 => ?_)
      · skip
        refine kw_iconst (v := 1) C dM_sun_35 (by decide) ?_
        refine kw_put C 0 rfl rfl ku_M tM_ok nM 0 (by decide) kt_556 rfl (ty := .int) (by decide +kernel) rfl rfl (Nat.le_of_ble_eq_true rfl) dM_sun_36 (wM_gu k am 1 (m_rooms gu) (m_store gu) (m_mostHeating gu) (m_mostCooling gu) (m_began gu) (m_walls gu) (m_wallRoom gu) (m_wallOther gu) (m_leads gu) (m_windows gu) (m_windowRoom gu) (m_windowSide gu) (m_windowArea gu) (m_windowLimit gu) (m_outside gu) (m_sun gu) (m_persons gu) (m_set gu) (m_cool gu) (m_low gu) (m_high gu) gv) rfl ?_
        refine kw_aload_n C 0 dM_sun_39 rfl rfl ?_
        refine kw_get (v := .int 1) C 0 rfl rfl ku_M 0 (by decide) kt_556 rfl dM_sun_40 ?_
        refine kw_if_le (tgt := 48) C dM_sun_43 (by decide) (fun c_6 => ?_) (fun c_6 => ?_)
        · skip
          exact absurd c_6 (by decide)
        · skip
          refine kw_iconst (v := 0) C dM_sun_46 (by decide) ?_
          refine kw_eq rfl rfl (mk_wM_gu.trans (congrArg (fun z90 => wM k am z90 gv) (show (1, (m_rooms gu), (m_store gu), (m_mostHeating gu), (m_mostCooling gu), (m_began gu), (m_walls gu), (m_wallRoom gu), (m_wallOther gu), (m_leads gu), (m_windows gu), (m_windowRoom gu), (m_windowSide gu), (m_windowArea gu), (m_windowLimit gu), (m_outside gu), (m_sun gu), (m_persons gu), (m_set gu), (m_cool gu), (m_low gu), (m_high gu)) = sguM_sun gu gv side h_ v from by unfold sguM_sun; rw [if_neg c_1, if_neg c_3, if_pos c_5]))) ?_
          exact kw_iret C hr hlocks (by unfold rM_sun; rw [if_neg c_1, if_neg c_3, if_pos c_5]) dM_sun_47
      · skip
        refine kw_iconst (v := 0) C dM_sun_31 (by decide) ?_
        refine kw_goto (tgt := 36) C dM_sun_32 (by decide) ?_
        refine kw_put C 0 rfl rfl ku_M tM_ok nM 0 (by decide) kt_556 rfl (ty := .int) (by decide +kernel) rfl rfl (Nat.le_of_ble_eq_true rfl) dM_sun_36 (wM_gu k am 0 (m_rooms gu) (m_store gu) (m_mostHeating gu) (m_mostCooling gu) (m_began gu) (m_walls gu) (m_wallRoom gu) (m_wallOther gu) (m_leads gu) (m_windows gu) (m_windowRoom gu) (m_windowSide gu) (m_windowArea gu) (m_windowLimit gu) (m_outside gu) (m_sun gu) (m_persons gu) (m_set gu) (m_cool gu) (m_low gu) (m_high gu) gv) rfl ?_
        refine kw_aload_n C 0 dM_sun_39 rfl rfl ?_
        refine kw_get (v := .int 0) C 0 rfl rfl ku_M 0 (by decide) kt_556 rfl dM_sun_40 ?_
        refine kw_if_le (tgt := 48) C dM_sun_43 (by decide) (fun c_7 => ?_) (fun c_7 => ?_)
        · skip
          refine kw_aload_n C 0 dM_sun_48 rfl rfl ?_
          refine kw_get (v := .ref (am 17)) C 0 rfl rfl ku_M 21 (by decide) kt_577 rfl dM_sun_49 ?_
          refine kw_bipush (v := 24) C dM_sun_52 (by decide) ?_
          refine kw_iload_n C 1 dM_sun_54 rfl rfl ?_
          refine kw_imul C dM_sun_55 ?_
          refine kw_iload_n C 2 dM_sun_56 rfl rfl ?_
          refine kw_iadd C dM_sun_57 ?_
          refine kw_iald C 17 0 rfl rfl (kix_of (ksunM (krin (N := 4) rfl (by decide) c_1) (krin (N := 24) rfl (by decide) c_3))) dM_sun_58 ?_
          refine kw_istore (lv' := [(4, .int ((m_sun gu) ((24 * side + h_).toNatClampNeg))), (0, .ref (am 0)), (1, .int side), (2, .int h_), (3, .int v)]) C dM_sun_59 (by decide) rfl ?_
          refine kw_aload_n C 1 dM_sun_61 rfl rfl ?_
          refine kw_get (v := .ref (am 17)) C 0 rfl rfl ku_M 21 (by decide) kt_577 rfl dM_sun_62 ?_
          refine kw_bipush (v := 24) C dM_sun_65 (by decide) ?_
          refine kw_iload_n C 2 dM_sun_67 rfl rfl ?_
          refine kw_imul C dM_sun_68 ?_
          refine kw_iload_n C 3 dM_sun_69 rfl rfl ?_
          refine kw_iadd C dM_sun_70 ?_
          refine kw_iload_n C 4 dM_sun_71 rfl rfl ?_
          refine kw_iast C 17 0 rfl rfl (kix_of (ksunM (krin (N := 4) rfl (by decide) c_1) (krin (N := 24) rfl (by decide) c_3))) dM_sun_72 (wM_gu k am 0 (m_rooms gu) (m_store gu) (m_mostHeating gu) (m_mostCooling gu) (m_began gu) (m_walls gu) (m_wallRoom gu) (m_wallOther gu) (m_leads gu) (m_windows gu) (m_windowRoom gu) (m_windowSide gu) (m_windowArea gu) (m_windowLimit gu) (m_outside gu) (upd (m_sun gu) ((24 * side + h_).toNatClampNeg) v) (m_persons gu) (m_set gu) (m_cool gu) (m_low gu) (m_high gu) gv) rfl ?_
          refine kw_iload C 0 dM_sun_73 rfl ?_
          refine kw_eq rfl rfl (mk_wM_gu.trans (congrArg (fun z90 => wM k am z90 gv) (show (0, (m_rooms gu), (m_store gu), (m_mostHeating gu), (m_mostCooling gu), (m_began gu), (m_walls gu), (m_wallRoom gu), (m_wallOther gu), (m_leads gu), (m_windows gu), (m_windowRoom gu), (m_windowSide gu), (m_windowArea gu), (m_windowLimit gu), (m_outside gu), (upd (m_sun gu) ((24 * side + h_).toNatClampNeg) v), (m_persons gu), (m_set gu), (m_cool gu), (m_low gu), (m_high gu)) = sguM_sun gu gv side h_ v from by unfold sguM_sun; rw [if_neg c_1, if_neg c_3, if_neg c_5]))) ?_
          exact kw_iret C hr hlocks (by unfold rM_sun; rw [if_neg c_1, if_neg c_3, if_neg c_5]) dM_sun_75
        · skip
          exact absurd (by decide) c_7
