noncomputable def sguM_ease (gu : MU) (gv : MV) (l_ : Int32) (h_ : Int32) : MU := if (rM_isWarmth l_) = 0 then (1, (m_rooms gu), (m_store gu), (m_mostHeating gu), (m_mostCooling gu), (m_began gu), (m_walls gu), (m_wallRoom gu), (m_wallOther gu), (m_leads gu), (m_windows gu), (m_windowRoom gu), (m_windowSide gu), (m_windowArea gu), (m_windowLimit gu), (m_outside gu), (m_sun gu), (m_persons gu), (m_set gu), (m_cool gu), (m_low gu), (m_high gu)) else (if (rM_isWarmth h_) = 0 then (1, (m_rooms gu), (m_store gu), (m_mostHeating gu), (m_mostCooling gu), (m_began gu), (m_walls gu), (m_wallRoom gu), (m_wallOther gu), (m_leads gu), (m_windows gu), (m_windowRoom gu), (m_windowSide gu), (m_windowArea gu), (m_windowLimit gu), (m_outside gu), (m_sun gu), (m_persons gu), (m_set gu), (m_cool gu), (m_low gu), (m_high gu)) else (if h_ < l_ then (1, (m_rooms gu), (m_store gu), (m_mostHeating gu), (m_mostCooling gu), (m_began gu), (m_walls gu), (m_wallRoom gu), (m_wallOther gu), (m_leads gu), (m_windows gu), (m_windowRoom gu), (m_windowSide gu), (m_windowArea gu), (m_windowLimit gu), (m_outside gu), (m_sun gu), (m_persons gu), (m_set gu), (m_cool gu), (m_low gu), (m_high gu)) else (0, (m_rooms gu), (m_store gu), (m_mostHeating gu), (m_mostCooling gu), (m_began gu), (m_walls gu), (m_wallRoom gu), (m_wallOther gu), (m_leads gu), (m_windows gu), (m_windowRoom gu), (m_windowSide gu), (m_windowArea gu), (m_windowLimit gu), (m_outside gu), (m_sun gu), (m_persons gu), (m_set gu), (m_cool gu), l_, h_)))
set_option maxRecDepth 100000 in
set_option maxHeartbeats 4000000 in
theorem cM_ease (l : Launch) (D : va_G) (k : Nat → ClassId) (am : Nat → Nat) (gu : MU) (gv : MV) (l_ : Int32) (h_ : Int32) : kMv l yM_ease (kwm yM_ease bM_ease 3 none) ({ frames := 2, cells := 0, slots := 0, locals := 42 }) D kcl (kty k) (wM k am gu gv) (wM k am (sguM_ease gu gv l_ h_) gv) [.ref (am 0), .int l_, .int h_] := by
  refine k_entry_v (lv0 := [(0, .ref (am 0)), (1, .int l_), (2, .int h_)]) rfl (by decide +kernel) (Nat.le_of_ble_eq_true rfl) rfl ?_
  intro p e s m args below meth c0 C hr hlocks
  refine kw_aload_n C 0 dM_ease_0 rfl rfl ?_
  refine kw_iload_n C 1 dM_ease_1 rfl rfl ?_
  refine kw_callSi (st := [.ref (am 0)]) C (cM_isWarmth l D k l_) (va_cwS 1 C.1.2.2.2.2 (kgO kt_679 kt_680 kt_5 kt_681) rfl rfl rfl kdM_isWarmth ⟨Nat.le_of_ble_eq_true rfl, Nat.le_of_ble_eq_true rfl⟩) [] rfl rfl rfl rfl (Nat.le_of_ble_eq_true rfl) dM_ease_2 ⟨Nat.zero_le _, Nat.zero_le _⟩ rfl (wM k am gu gv) rfl ?_
  refine kw_if_eq (tgt := 24) C dM_ease_5 (by decide) (fun c_1 => ?_) (fun c_1 => ?_)
  · skip
    refine kw_iconst (v := 1) C dM_ease_24 (by decide) ?_
    refine kw_put C 0 rfl rfl ku_M tM_ok nM 0 (by decide) kt_556 rfl (ty := .int) (by decide +kernel) rfl rfl (Nat.le_of_ble_eq_true rfl) dM_ease_25 (wM_gu k am 1 (m_rooms gu) (m_store gu) (m_mostHeating gu) (m_mostCooling gu) (m_began gu) (m_walls gu) (m_wallRoom gu) (m_wallOther gu) (m_leads gu) (m_windows gu) (m_windowRoom gu) (m_windowSide gu) (m_windowArea gu) (m_windowLimit gu) (m_outside gu) (m_sun gu) (m_persons gu) (m_set gu) (m_cool gu) (m_low gu) (m_high gu) gv) rfl ?_
    refine kw_aload_n C 0 dM_ease_28 rfl rfl ?_
    refine kw_get (v := .int 1) C 0 rfl rfl ku_M 0 (by decide) kt_556 rfl dM_ease_29 ?_
    refine kw_if_ne (tgt := 45) C dM_ease_32 (by decide) (fun c_2 => ?_) (fun c_2 => ?_)
    · skip
      refine kw_eq rfl rfl (mk_wM_gu.trans (congrArg (fun z90 => wM k am z90 gv) (show (1, (m_rooms gu), (m_store gu), (m_mostHeating gu), (m_mostCooling gu), (m_began gu), (m_walls gu), (m_wallRoom gu), (m_wallOther gu), (m_leads gu), (m_windows gu), (m_windowRoom gu), (m_windowSide gu), (m_windowArea gu), (m_windowLimit gu), (m_outside gu), (m_sun gu), (m_persons gu), (m_set gu), (m_cool gu), (m_low gu), (m_high gu)) = sguM_ease gu gv l_ h_ from by unfold sguM_ease; rw [if_pos c_1]))) ?_
      exact kw_vret C hr hlocks dM_ease_45
    · skip
      exact absurd c_2 (by decide)
  · skip
    refine kw_iload_n C 2 dM_ease_8 rfl rfl ?_
    refine kw_callSi (st := [.ref (am 0)]) C (cM_isWarmth l D k h_) (va_cwS 1 C.1.2.2.2.2 (kgO kt_679 kt_680 kt_5 kt_681) rfl rfl rfl kdM_isWarmth ⟨Nat.le_of_ble_eq_true rfl, Nat.le_of_ble_eq_true rfl⟩) [] rfl rfl rfl rfl (Nat.le_of_ble_eq_true rfl) dM_ease_9 ⟨Nat.zero_le _, Nat.zero_le _⟩ rfl (wM k am gu gv) rfl ?_
    refine kw_if_eq (tgt := 24) C dM_ease_12 (by decide) (fun c_3 => ?_) (fun c_3 => ?_)
    · skip
      refine kw_iconst (v := 1) C dM_ease_24 (by decide) ?_
      refine kw_put C 0 rfl rfl ku_M tM_ok nM 0 (by decide) kt_556 rfl (ty := .int) (by decide +kernel) rfl rfl (Nat.le_of_ble_eq_true rfl) dM_ease_25 (wM_gu k am 1 (m_rooms gu) (m_store gu) (m_mostHeating gu) (m_mostCooling gu) (m_began gu) (m_walls gu) (m_wallRoom gu) (m_wallOther gu) (m_leads gu) (m_windows gu) (m_windowRoom gu) (m_windowSide gu) (m_windowArea gu) (m_windowLimit gu) (m_outside gu) (m_sun gu) (m_persons gu) (m_set gu) (m_cool gu) (m_low gu) (m_high gu) gv) rfl ?_
      refine kw_aload_n C 0 dM_ease_28 rfl rfl ?_
      refine kw_get (v := .int 1) C 0 rfl rfl ku_M 0 (by decide) kt_556 rfl dM_ease_29 ?_
      refine kw_if_ne (tgt := 45) C dM_ease_32 (by decide) (fun c_4 => ?_) (fun c_4 => ?_)
      · skip
        refine kw_eq rfl rfl (mk_wM_gu.trans (congrArg (fun z90 => wM k am z90 gv) (show (1, (m_rooms gu), (m_store gu), (m_mostHeating gu), (m_mostCooling gu), (m_began gu), (m_walls gu), (m_wallRoom gu), (m_wallOther gu), (m_leads gu), (m_windows gu), (m_windowRoom gu), (m_windowSide gu), (m_windowArea gu), (m_windowLimit gu), (m_outside gu), (m_sun gu), (m_persons gu), (m_set gu), (m_cool gu), (m_low gu), (m_high gu)) = sguM_ease gu gv l_ h_ from by unfold sguM_ease; rw [if_neg c_1, if_pos c_3]))) ?_
        exact kw_vret C hr hlocks dM_ease_45
      · skip
        exact absurd c_4 (by decide)
    · skip
      refine kw_iload_n C 1 dM_ease_15 rfl rfl ?_
      refine kw_iload_n C 2 dM_ease_16 rfl rfl ?_
      refine kw_icmp_gt (tgt := 24) C dM_ease_17 (by decide) (fun c_5 => ?_) (fun c_5 => ?_)
      · skip
        refine kw_iconst (v := 1) C dM_ease_24 (by decide) ?_
        refine kw_put C 0 rfl rfl ku_M tM_ok nM 0 (by decide) kt_556 rfl (ty := .int) (by decide +kernel) rfl rfl (Nat.le_of_ble_eq_true rfl) dM_ease_25 (wM_gu k am 1 (m_rooms gu) (m_store gu) (m_mostHeating gu) (m_mostCooling gu) (m_began gu) (m_walls gu) (m_wallRoom gu) (m_wallOther gu) (m_leads gu) (m_windows gu) (m_windowRoom gu) (m_windowSide gu) (m_windowArea gu) (m_windowLimit gu) (m_outside gu) (m_sun gu) (m_persons gu) (m_set gu) (m_cool gu) (m_low gu) (m_high gu) gv) rfl ?_
        refine kw_aload_n C 0 dM_ease_28 rfl rfl ?_
        refine kw_get (v := .int 1) C 0 rfl rfl ku_M 0 (by decide) kt_556 rfl dM_ease_29 ?_
        refine kw_if_ne (tgt := 45) C dM_ease_32 (by decide) (fun c_6 => ?_) (fun c_6 => ?_)
        · skip
          refine kw_eq rfl rfl (mk_wM_gu.trans (congrArg (fun z90 => wM k am z90 gv) (show (1, (m_rooms gu), (m_store gu), (m_mostHeating gu), (m_mostCooling gu), (m_began gu), (m_walls gu), (m_wallRoom gu), (m_wallOther gu), (m_leads gu), (m_windows gu), (m_windowRoom gu), (m_windowSide gu), (m_windowArea gu), (m_windowLimit gu), (m_outside gu), (m_sun gu), (m_persons gu), (m_set gu), (m_cool gu), (m_low gu), (m_high gu)) = sguM_ease gu gv l_ h_ from by unfold sguM_ease; rw [if_neg c_1, if_neg c_3, if_pos c_5]))) ?_
          exact kw_vret C hr hlocks dM_ease_45
        · skip
          exact absurd c_6 (by decide)
      · skip
        refine kw_iconst (v := 0) C dM_ease_20 (by decide) ?_
        refine kw_goto (tgt := 25) C dM_ease_21 (by decide) ?_
        refine kw_put C 0 rfl rfl ku_M tM_ok nM 0 (by decide) kt_556 rfl (ty := .int) (by decide +kernel) rfl rfl (Nat.le_of_ble_eq_true rfl) dM_ease_25 (wM_gu k am 0 (m_rooms gu) (m_store gu) (m_mostHeating gu) (m_mostCooling gu) (m_began gu) (m_walls gu) (m_wallRoom gu) (m_wallOther gu) (m_leads gu) (m_windows gu) (m_windowRoom gu) (m_windowSide gu) (m_windowArea gu) (m_windowLimit gu) (m_outside gu) (m_sun gu) (m_persons gu) (m_set gu) (m_cool gu) (m_low gu) (m_high gu) gv) rfl ?_
        refine kw_aload_n C 0 dM_ease_28 rfl rfl ?_
        refine kw_get (v := .int 0) C 0 rfl rfl ku_M 0 (by decide) kt_556 rfl dM_ease_29 ?_
        refine kw_if_ne (tgt := 45) C dM_ease_32 (by decide) (fun c_7 => ?_) (fun c_7 => ?_)
        · skip
          exact absurd (by decide) c_7
        · skip
          refine kw_aload_n C 0 dM_ease_35 rfl rfl ?_
          refine kw_iload_n C 1 dM_ease_36 rfl rfl ?_
          refine kw_put C 0 rfl rfl ku_M tM_ok nM 25 (by decide) kt_581 rfl (ty := .int) (by decide +kernel) rfl rfl (Nat.le_of_ble_eq_true rfl) dM_ease_37 (wM_gu k am 0 (m_rooms gu) (m_store gu) (m_mostHeating gu) (m_mostCooling gu) (m_began gu) (m_walls gu) (m_wallRoom gu) (m_wallOther gu) (m_leads gu) (m_windows gu) (m_windowRoom gu) (m_windowSide gu) (m_windowArea gu) (m_windowLimit gu) (m_outside gu) (m_sun gu) (m_persons gu) (m_set gu) (m_cool gu) l_ (m_high gu) gv) rfl ?_
          refine kw_aload_n C 0 dM_ease_40 rfl rfl ?_
          refine kw_iload_n C 2 dM_ease_41 rfl rfl ?_
          refine kw_put C 0 rfl rfl ku_M tM_ok nM 26 (by decide) kt_582 rfl (ty := .int) (by decide +kernel) rfl rfl (Nat.le_of_ble_eq_true rfl) dM_ease_42 (wM_gu k am 0 (m_rooms gu) (m_store gu) (m_mostHeating gu) (m_mostCooling gu) (m_began gu) (m_walls gu) (m_wallRoom gu) (m_wallOther gu) (m_leads gu) (m_windows gu) (m_windowRoom gu) (m_windowSide gu) (m_windowArea gu) (m_windowLimit gu) (m_outside gu) (m_sun gu) (m_persons gu) (m_set gu) (m_cool gu) l_ h_ gv) rfl ?_
          refine kw_eq rfl rfl (mk_wM_gu.trans (congrArg (fun z90 => wM k am z90 gv) (show (0, (m_rooms gu), (m_store gu), (m_mostHeating gu), (m_mostCooling gu), (m_began gu), (m_walls gu), (m_wallRoom gu), (m_wallOther gu), (m_leads gu), (m_windows gu), (m_windowRoom gu), (m_windowSide gu), (m_windowArea gu), (m_windowLimit gu), (m_outside gu), (m_sun gu), (m_persons gu), (m_set gu), (m_cool gu), l_, h_) = sguM_ease gu gv l_ h_ from by unfold sguM_ease; rw [if_neg c_1, if_neg c_3, if_neg c_5]))) ?_
          exact kw_vret C hr hlocks dM_ease_45
