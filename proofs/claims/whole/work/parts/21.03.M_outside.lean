def rM_outside (gu : MU) (gv : MV) (h_ : Int32) (w_ : Int32) : Int32 := if (rM_in h_ 0 23) = 0 then 0 else (if (rM_isWarmth w_) = 0 then 0 else (m_outside gu) h_.toNatClampNeg)
noncomputable def sguM_outside (gu : MU) (gv : MV) (h_ : Int32) (w_ : Int32) : MU := if (rM_in h_ 0 23) = 0 then (1, (m_rooms gu), (m_store gu), (m_mostHeating gu), (m_mostCooling gu), (m_began gu), (m_walls gu), (m_wallRoom gu), (m_wallOther gu), (m_leads gu), (m_windows gu), (m_windowRoom gu), (m_windowSide gu), (m_windowArea gu), (m_windowLimit gu), (m_outside gu), (m_sun gu), (m_persons gu), (m_set gu), (m_cool gu), (m_low gu), (m_high gu)) else (if (rM_isWarmth w_) = 0 then (1, (m_rooms gu), (m_store gu), (m_mostHeating gu), (m_mostCooling gu), (m_began gu), (m_walls gu), (m_wallRoom gu), (m_wallOther gu), (m_leads gu), (m_windows gu), (m_windowRoom gu), (m_windowSide gu), (m_windowArea gu), (m_windowLimit gu), (m_outside gu), (m_sun gu), (m_persons gu), (m_set gu), (m_cool gu), (m_low gu), (m_high gu)) else (0, (m_rooms gu), (m_store gu), (m_mostHeating gu), (m_mostCooling gu), (m_began gu), (m_walls gu), (m_wallRoom gu), (m_wallOther gu), (m_leads gu), (m_windows gu), (m_windowRoom gu), (m_windowSide gu), (m_windowArea gu), (m_windowLimit gu), (upd (m_outside gu) h_.toNatClampNeg w_), (m_sun gu), (m_persons gu), (m_set gu), (m_cool gu), (m_low gu), (m_high gu)))
set_option maxRecDepth 100000 in
set_option maxHeartbeats 4000000 in
theorem cM_outside (l : Launch) (D : va_G) (k : Nat → ClassId) (am : Nat → Nat) (gu : MU) (gv : MV) (h_ : Int32) (w_ : Int32) (hI : mInv gu) : kMi l yM_outside (kwm yM_outside bM_outside 4 (some .int)) ({ frames := 2, cells := 0, slots := 0, locals := 42 }) D kcl (kty k) (wM k am gu gv) (wM k am (sguM_outside gu gv h_ w_) gv) [.ref (am 0), .int h_, .int w_] (rM_outside gu gv h_ w_) := by
  refine k_entry_i (lv0 := [(0, .ref (am 0)), (1, .int h_), (2, .int w_)]) rfl (by decide +kernel) (Nat.le_of_ble_eq_true rfl) rfl ?_
  intro p e s m args below meth c0 C hr hlocks
  refine kw_aload_n C 0 dM_outside_0 rfl rfl ?_
  refine kw_iload_n C 1 dM_outside_1 rfl rfl ?_
  refine kw_iconst (v := 0) C dM_outside_2 (by decide) ?_
  refine kw_bipush (v := 23) C dM_outside_3 (by decide) ?_
  refine kw_callSi (st := [.ref (am 0)]) C (cM_in l D k h_ 0 23) (va_cwS 3 C.1.2.2.2.2 (kgO kt_676 kt_677 kt_5 kt_678) rfl rfl rfl kdM_in ⟨Nat.le_of_ble_eq_true rfl, Nat.le_of_ble_eq_true rfl⟩) [] rfl rfl rfl rfl (Nat.le_of_ble_eq_true rfl) dM_outside_5 ⟨Nat.zero_le _, Nat.zero_le _⟩ rfl (wM k am gu gv) rfl ?_
  refine kw_if_eq (tgt := 22) C dM_outside_8 (by decide) (fun c_1 => ?_) (fun c_1 => ?_)
  · skip
    refine kw_iconst (v := 1) C dM_outside_22 (by decide) ?_
    refine kw_put C 0 rfl rfl ku_M tM_ok nM 0 (by decide) kt_556 rfl (ty := .int) (by decide +kernel) rfl rfl (Nat.le_of_ble_eq_true rfl) dM_outside_23 (wM_gu k am 1 (m_rooms gu) (m_store gu) (m_mostHeating gu) (m_mostCooling gu) (m_began gu) (m_walls gu) (m_wallRoom gu) (m_wallOther gu) (m_leads gu) (m_windows gu) (m_windowRoom gu) (m_windowSide gu) (m_windowArea gu) (m_windowLimit gu) (m_outside gu) (m_sun gu) (m_persons gu) (m_set gu) (m_cool gu) (m_low gu) (m_high gu) gv) rfl ?_
    refine kw_aload_n C 0 dM_outside_26 rfl rfl ?_
    refine kw_get (v := .int 1) C 0 rfl rfl ku_M 0 (by decide) kt_556 rfl dM_outside_27 ?_
    refine kw_if_le (tgt := 35) C dM_outside_30 (by decide) (fun c_2 => ?_) (fun c_2 => ?_)
    · skip
      exact absurd c_2 (by decide)
    · skip
      refine kw_iconst (v := 0) C dM_outside_33 (by decide) ?_
      refine kw_eq rfl rfl (mk_wM_gu.trans (congrArg (fun z90 => wM k am z90 gv) (show (1, (m_rooms gu), (m_store gu), (m_mostHeating gu), (m_mostCooling gu), (m_began gu), (m_walls gu), (m_wallRoom gu), (m_wallOther gu), (m_leads gu), (m_windows gu), (m_windowRoom gu), (m_windowSide gu), (m_windowArea gu), (m_windowLimit gu), (m_outside gu), (m_sun gu), (m_persons gu), (m_set gu), (m_cool gu), (m_low gu), (m_high gu)) = sguM_outside gu gv h_ w_ from by unfold sguM_outside; rw [if_pos c_1]))) ?_
      exact kw_iret C hr hlocks (by unfold rM_outside; rw [if_pos c_1]) dM_outside_34
  · skip
    refine kw_iload_n C 2 dM_outside_11 rfl rfl ?_
    refine kw_callSi (st := [.ref (am 0)]) C (cM_isWarmth l D k w_) (va_cwS 1 C.1.2.2.2.2 (kgO kt_679 kt_680 kt_5 kt_681) rfl rfl rfl kdM_isWarmth ⟨Nat.le_of_ble_eq_true rfl, Nat.le_of_ble_eq_true rfl⟩) [] rfl rfl rfl rfl (Nat.le_of_ble_eq_true rfl) dM_outside_12 ⟨Nat.zero_le _, Nat.zero_le _⟩ rfl (wM k am gu gv) rfl ?_
    refine kw_if_eq (tgt := 22) C dM_outside_15 (by decide) (fun c_3 => ?_) (fun c_3 => ?_)
    · skip
      refine kw_iconst (v := 1) C dM_outside_22 (by decide) ?_
      refine kw_put C 0 rfl rfl ku_M tM_ok nM 0 (by decide) kt_556 rfl (ty := .int) (by decide +kernel) rfl rfl (Nat.le_of_ble_eq_true rfl) dM_outside_23 (wM_gu k am 1 (m_rooms gu) (m_store gu) (m_mostHeating gu) (m_mostCooling gu) (m_began gu) (m_walls gu) (m_wallRoom gu) (m_wallOther gu) (m_leads gu) (m_windows gu) (m_windowRoom gu) (m_windowSide gu) (m_windowArea gu) (m_windowLimit gu) (m_outside gu) (m_sun gu) (m_persons gu) (m_set gu) (m_cool gu) (m_low gu) (m_high gu) gv) rfl ?_
      refine kw_aload_n C 0 dM_outside_26 rfl rfl ?_
      refine kw_get (v := .int 1) C 0 rfl rfl ku_M 0 (by decide) kt_556 rfl dM_outside_27 ?_
      refine kw_if_le (tgt := 35) C dM_outside_30 (by decide) (fun c_4 => ?_) (fun c_4 => ?_)
      · skip
        exact absurd c_4 (by decide)
      · skip
        refine kw_iconst (v := 0) C dM_outside_33 (by decide) ?_
        refine kw_eq rfl rfl (mk_wM_gu.trans (congrArg (fun z90 => wM k am z90 gv) (show (1, (m_rooms gu), (m_store gu), (m_mostHeating gu), (m_mostCooling gu), (m_began gu), (m_walls gu), (m_wallRoom gu), (m_wallOther gu), (m_leads gu), (m_windows gu), (m_windowRoom gu), (m_windowSide gu), (m_windowArea gu), (m_windowLimit gu), (m_outside gu), (m_sun gu), (m_persons gu), (m_set gu), (m_cool gu), (m_low gu), (m_high gu)) = sguM_outside gu gv h_ w_ from by unfold sguM_outside; rw [if_neg c_1, if_pos c_3]))) ?_
        exact kw_iret C hr hlocks (by unfold rM_outside; rw [if_neg c_1, if_pos c_3]) dM_outside_34
    · skip
      refine kw_iconst (v := 0) C dM_outside_18 (by decide) ?_
      refine kw_goto (tgt := 23) C dM_outside_19 (by decide) ?_
      refine kw_put C 0 rfl rfl ku_M tM_ok nM 0 (by decide) kt_556 rfl (ty := .int) (by decide +kernel) rfl rfl (Nat.le_of_ble_eq_true rfl) dM_outside_23 (wM_gu k am 0 (m_rooms gu) (m_store gu) (m_mostHeating gu) (m_mostCooling gu) (m_began gu) (m_walls gu) (m_wallRoom gu) (m_wallOther gu) (m_leads gu) (m_windows gu) (m_windowRoom gu) (m_windowSide gu) (m_windowArea gu) (m_windowLimit gu) (m_outside gu) (m_sun gu) (m_persons gu) (m_set gu) (m_cool gu) (m_low gu) (m_high gu) gv) rfl ?_
      refine kw_aload_n C 0 dM_outside_26 rfl rfl ?_
      refine kw_get (v := .int 0) C 0 rfl rfl ku_M 0 (by decide) kt_556 rfl dM_outside_27 ?_
      refine kw_if_le (tgt := 35) C dM_outside_30 (by decide) (fun c_5 => ?_) (fun c_5 => ?_)
      · skip
        refine kw_aload_n C 0 dM_outside_35 rfl rfl ?_
        refine kw_get (v := .ref (am 16)) C 0 rfl rfl ku_M 20 (by decide) kt_576 rfl dM_outside_36 ?_
        refine kw_iload_n C 1 dM_outside_39 rfl rfl ?_
        refine kw_iald C 16 0 rfl rfl (kix_of (krin (N := 24) rfl (by decide) c_1)) dM_outside_40 ?_
        refine kw_istore_n (lv' := [(3, .int ((m_outside gu) h_.toNatClampNeg)), (0, .ref (am 0)), (1, .int h_), (2, .int w_)]) C dM_outside_41 rfl (by decide) rfl ?_
        refine kw_aload_n C 1 dM_outside_42 rfl rfl ?_
        refine kw_get (v := .ref (am 16)) C 0 rfl rfl ku_M 20 (by decide) kt_576 rfl dM_outside_43 ?_
        refine kw_iload_n C 2 dM_outside_46 rfl rfl ?_
        refine kw_iload_n C 3 dM_outside_47 rfl rfl ?_
        refine kw_iast C 16 0 rfl rfl (kix_of (krin (N := 24) rfl (by decide) c_1)) dM_outside_48 (wM_gu k am 0 (m_rooms gu) (m_store gu) (m_mostHeating gu) (m_mostCooling gu) (m_began gu) (m_walls gu) (m_wallRoom gu) (m_wallOther gu) (m_leads gu) (m_windows gu) (m_windowRoom gu) (m_windowSide gu) (m_windowArea gu) (m_windowLimit gu) (upd (m_outside gu) h_.toNatClampNeg w_) (m_sun gu) (m_persons gu) (m_set gu) (m_cool gu) (m_low gu) (m_high gu) gv) rfl ?_
        refine kw_iload_n C 0 dM_outside_49 rfl rfl ?_
        refine kw_eq rfl rfl (mk_wM_gu.trans (congrArg (fun z90 => wM k am z90 gv) (show (0, (m_rooms gu), (m_store gu), (m_mostHeating gu), (m_mostCooling gu), (m_began gu), (m_walls gu), (m_wallRoom gu), (m_wallOther gu), (m_leads gu), (m_windows gu), (m_windowRoom gu), (m_windowSide gu), (m_windowArea gu), (m_windowLimit gu), (upd (m_outside gu) h_.toNatClampNeg w_), (m_sun gu), (m_persons gu), (m_set gu), (m_cool gu), (m_low gu), (m_high gu)) = sguM_outside gu gv h_ w_ from by unfold sguM_outside; rw [if_neg c_1, if_neg c_3]))) ?_
        exact kw_iret C hr hlocks (by unfold rM_outside; rw [if_neg c_1, if_neg c_3]) dM_outside_50
      · skip
        exact absurd (by decide) c_5
theorem ksunM {a b : Int32} (h1 : vp_in a 4) (h2 : vp_in b 24) : vp_in (24 * a + b) 96 := by
  obtain ⟨i, hi, rfl⟩ := vp_in_of h1 (by decide)
  obtain ⟨j, hj, rfl⟩ := vp_in_of h2 (by decide)
  rw [show (24 : Int32) = nI 24 from rfl, pk_mul, nI_add]
  exact vp_in_nI (by omega) (by decide)
theorem kplanM {a b : Int32} (h1 : vp_in a 8) (h2 : vp_in b 24) : vp_in (24 * a + b) 192 := by
  obtain ⟨i, hi, rfl⟩ := vp_in_of h1 (by decide)
  obtain ⟨j, hj, rfl⟩ := vp_in_of h2 (by decide)
  rw [show (24 : Int32) = nI 24 from rfl, pk_mul, nI_add]
  exact vp_in_nI (by omega) (by decide)
