theorem kleadsM {gu : MU} {x : Int32} (hI : mInv gu) (hc : ¬ rM_in x 0 (m_walls gu - 1) = 0) : vp_in x (mnW gu) := by
  rw [hI.2.1.1] at hc
  exact krin rfl (by have := hI.2.1.2; omega) hc
theorem koth {x : Int32} (h : x = -1 ∨ vp_in x 8) : x < 0 ∨ vp_in x 8 := h.imp (fun e => by rw [e]; decide) id
noncomputable def rM_wall (gu : MU) (gv : MV) (r : Int32) (other : Int32) (lead : Int32) : Int32 := if (rM_isRoom gu gv r) = 0 then 0 else (if other = (-1) then (if other = r then 0 else (if (rM_in lead 0 1000) = 0 then 0 else (if (m_walls gu) = 20 then 0 else (if (rM_isTooMuch gu gv r lead) = 0 then (if (rM_isTooMuch gu gv other lead) = 0 then ((m_walls gu) + 1) - 1 else 0) else 0)))) else (if (rM_isRoom gu gv other) = 0 then 0 else (if other = r then 0 else (if (rM_in lead 0 1000) = 0 then 0 else (if (m_walls gu) = 20 then 0 else (if (rM_isTooMuch gu gv r lead) = 0 then (if (rM_isTooMuch gu gv other lead) = 0 then ((m_walls gu) + 1) - 1 else 0) else 0))))))
noncomputable def sguM_wall (gu : MU) (gv : MV) (r : Int32) (other : Int32) (lead : Int32) : MU := if (rM_isRoom gu gv r) = 0 then (1, (m_rooms gu), (m_store gu), (m_mostHeating gu), (m_mostCooling gu), (m_began gu), (m_walls gu), (m_wallRoom gu), (m_wallOther gu), (m_leads gu), (m_windows gu), (m_windowRoom gu), (m_windowSide gu), (m_windowArea gu), (m_windowLimit gu), (m_outside gu), (m_sun gu), (m_persons gu), (m_set gu), (m_cool gu), (m_low gu), (m_high gu)) else (if other = (-1) then (if other = r then (1, (m_rooms gu), (m_store gu), (m_mostHeating gu), (m_mostCooling gu), (m_began gu), (m_walls gu), (m_wallRoom gu), (m_wallOther gu), (m_leads gu), (m_windows gu), (m_windowRoom gu), (m_windowSide gu), (m_windowArea gu), (m_windowLimit gu), (m_outside gu), (m_sun gu), (m_persons gu), (m_set gu), (m_cool gu), (m_low gu), (m_high gu)) else (if (rM_in lead 0 1000) = 0 then (1, (m_rooms gu), (m_store gu), (m_mostHeating gu), (m_mostCooling gu), (m_began gu), (m_walls gu), (m_wallRoom gu), (m_wallOther gu), (m_leads gu), (m_windows gu), (m_windowRoom gu), (m_windowSide gu), (m_windowArea gu), (m_windowLimit gu), (m_outside gu), (m_sun gu), (m_persons gu), (m_set gu), (m_cool gu), (m_low gu), (m_high gu)) else (if (m_walls gu) = 20 then (2, (m_rooms gu), (m_store gu), (m_mostHeating gu), (m_mostCooling gu), (m_began gu), (m_walls gu), (m_wallRoom gu), (m_wallOther gu), (m_leads gu), (m_windows gu), (m_windowRoom gu), (m_windowSide gu), (m_windowArea gu), (m_windowLimit gu), (m_outside gu), (m_sun gu), (m_persons gu), (m_set gu), (m_cool gu), (m_low gu), (m_high gu)) else (if (rM_isTooMuch gu gv r lead) = 0 then (if (rM_isTooMuch gu gv other lead) = 0 then (0, (m_rooms gu), (m_store gu), (m_mostHeating gu), (m_mostCooling gu), (m_began gu), ((m_walls gu) + 1), (upd (m_wallRoom gu) ((m_walls gu).toNatClampNeg) r), (upd (m_wallOther gu) ((m_walls gu).toNatClampNeg) other), (upd (m_leads gu) ((m_walls gu).toNatClampNeg) lead), (m_windows gu), (m_windowRoom gu), (m_windowSide gu), (m_windowArea gu), (m_windowLimit gu), (m_outside gu), (m_sun gu), (m_persons gu), (m_set gu), (m_cool gu), (m_low gu), (m_high gu)) else (2, (m_rooms gu), (m_store gu), (m_mostHeating gu), (m_mostCooling gu), (m_began gu), (m_walls gu), (m_wallRoom gu), (m_wallOther gu), (m_leads gu), (m_windows gu), (m_windowRoom gu), (m_windowSide gu), (m_windowArea gu), (m_windowLimit gu), (m_outside gu), (m_sun gu), (m_persons gu), (m_set gu), (m_cool gu), (m_low gu), (m_high gu))) else (2, (m_rooms gu), (m_store gu), (m_mostHeating gu), (m_mostCooling gu), (m_began gu), (m_walls gu), (m_wallRoom gu), (m_wallOther gu), (m_leads gu), (m_windows gu), (m_windowRoom gu), (m_windowSide gu), (m_windowArea gu), (m_windowLimit gu), (m_outside gu), (m_sun gu), (m_persons gu), (m_set gu), (m_cool gu), (m_low gu), (m_high gu)))))) else (if (rM_isRoom gu gv other) = 0 then (1, (m_rooms gu), (m_store gu), (m_mostHeating gu), (m_mostCooling gu), (m_began gu), (m_walls gu), (m_wallRoom gu), (m_wallOther gu), (m_leads gu), (m_windows gu), (m_windowRoom gu), (m_windowSide gu), (m_windowArea gu), (m_windowLimit gu), (m_outside gu), (m_sun gu), (m_persons gu), (m_set gu), (m_cool gu), (m_low gu), (m_high gu)) else (if other = r then (1, (m_rooms gu), (m_store gu), (m_mostHeating gu), (m_mostCooling gu), (m_began gu), (m_walls gu), (m_wallRoom gu), (m_wallOther gu), (m_leads gu), (m_windows gu), (m_windowRoom gu), (m_windowSide gu), (m_windowArea gu), (m_windowLimit gu), (m_outside gu), (m_sun gu), (m_persons gu), (m_set gu), (m_cool gu), (m_low gu), (m_high gu)) else (if (rM_in lead 0 1000) = 0 then (1, (m_rooms gu), (m_store gu), (m_mostHeating gu), (m_mostCooling gu), (m_began gu), (m_walls gu), (m_wallRoom gu), (m_wallOther gu), (m_leads gu), (m_windows gu), (m_windowRoom gu), (m_windowSide gu), (m_windowArea gu), (m_windowLimit gu), (m_outside gu), (m_sun gu), (m_persons gu), (m_set gu), (m_cool gu), (m_low gu), (m_high gu)) else (if (m_walls gu) = 20 then (2, (m_rooms gu), (m_store gu), (m_mostHeating gu), (m_mostCooling gu), (m_began gu), (m_walls gu), (m_wallRoom gu), (m_wallOther gu), (m_leads gu), (m_windows gu), (m_windowRoom gu), (m_windowSide gu), (m_windowArea gu), (m_windowLimit gu), (m_outside gu), (m_sun gu), (m_persons gu), (m_set gu), (m_cool gu), (m_low gu), (m_high gu)) else (if (rM_isTooMuch gu gv r lead) = 0 then (if (rM_isTooMuch gu gv other lead) = 0 then (0, (m_rooms gu), (m_store gu), (m_mostHeating gu), (m_mostCooling gu), (m_began gu), ((m_walls gu) + 1), (upd (m_wallRoom gu) ((m_walls gu).toNatClampNeg) r), (upd (m_wallOther gu) ((m_walls gu).toNatClampNeg) other), (upd (m_leads gu) ((m_walls gu).toNatClampNeg) lead), (m_windows gu), (m_windowRoom gu), (m_windowSide gu), (m_windowArea gu), (m_windowLimit gu), (m_outside gu), (m_sun gu), (m_persons gu), (m_set gu), (m_cool gu), (m_low gu), (m_high gu)) else (2, (m_rooms gu), (m_store gu), (m_mostHeating gu), (m_mostCooling gu), (m_began gu), (m_walls gu), (m_wallRoom gu), (m_wallOther gu), (m_leads gu), (m_windows gu), (m_windowRoom gu), (m_windowSide gu), (m_windowArea gu), (m_windowLimit gu), (m_outside gu), (m_sun gu), (m_persons gu), (m_set gu), (m_cool gu), (m_low gu), (m_high gu))) else (2, (m_rooms gu), (m_store gu), (m_mostHeating gu), (m_mostCooling gu), (m_began gu), (m_walls gu), (m_wallRoom gu), (m_wallOther gu), (m_leads gu), (m_windows gu), (m_windowRoom gu), (m_windowSide gu), (m_windowArea gu), (m_windowLimit gu), (m_outside gu), (m_sun gu), (m_persons gu), (m_set gu), (m_cool gu), (m_low gu), (m_high gu))))))))
set_option maxRecDepth 100000 in
set_option maxHeartbeats 4000000 in
theorem cM_wall (l : Launch) (D : va_G) (k : Nat → ClassId) (am : Nat → Nat) (gu : MU) (gv : MV) (r : Int32) (other : Int32) (lead : Int32) (hI : mInv gu) : kMi l yM_wall (kwm yM_wall bM_wall 5 (some .int)) ({ frames := 2, cells := 0, slots := 0, locals := 43 }) D kcl (kty k) (wM k am gu gv) (wM k am (sguM_wall gu gv r other lead) gv) [.ref (am 0), .int r, .int other, .int lead] (rM_wall gu gv r other lead) := by
  refine k_entry_i (lv0 := [(0, .ref (am 0)), (1, .int r), (2, .int other), (3, .int lead)]) rfl (by decide +kernel) (Nat.le_of_ble_eq_true rfl) rfl ?_
  intro p e s m args below meth c0 C hr hlocks
  refine kw_aload_n C 0 dM_wall_0 rfl rfl ?_
  refine kw_iload_n C 1 dM_wall_1 rfl rfl ?_
  refine kw_callAi (w1 := (wM k am gu gv)) (st := []) C (cM_isRoom l D k am gu gv r) (cwV 1 C.1.2.2.2.2 (kgV kt_686 kt_688 ks_M_isRoom kt_5 kt_689) rfl rfl rfl kdM_isRoom ⟨Nat.le_of_ble_eq_true rfl, Nat.le_of_ble_eq_true rfl⟩) 0 3 rfl rfl rfl rfl rfl (Nat.le_of_ble_eq_true rfl) dM_wall_2 ⟨Nat.zero_le _, Nat.zero_le _⟩ (ad_wM.trans ad_wM.symm) ?_
  refine kw_if_eq (tgt := 41) C dM_wall_5 (by decide) (fun c_1 => ?_) (fun c_1 => ?_)
  · skip
    refine kw_iconst (v := 0) C dM_wall_41 (by decide) ?_
    refine kw_istore (lv' := [(4, .int 0), (0, .ref (am 0)), (1, .int r), (2, .int other), (3, .int lead)]) C dM_wall_42 (by decide) rfl ?_
    refine kw_aload_n C 1 dM_wall_44 rfl rfl ?_
    refine kw_iload C 0 dM_wall_45 rfl ?_
    refine kw_if_ne (tgt := 54) C dM_wall_47 (by decide) (fun c_2 => ?_) (fun c_2 => ?_)
    · skip
      exact absurd (by decide) c_2
    · skip
      refine kw_iconst (v := 1) C dM_wall_50 (by decide) ?_
      refine kw_goto (tgt := 86) C dM_wall_51 (by decide) ?_
      refine kw_put C 0 rfl rfl ku_M tM_ok nM 0 (by decide) kt_556 rfl (ty := .int) (by decide +kernel) rfl rfl (Nat.le_of_ble_eq_true rfl) dM_wall_86 (wM_gu k am 1 (m_rooms gu) (m_store gu) (m_mostHeating gu) (m_mostCooling gu) (m_began gu) (m_walls gu) (m_wallRoom gu) (m_wallOther gu) (m_leads gu) (m_windows gu) (m_windowRoom gu) (m_windowSide gu) (m_windowArea gu) (m_windowLimit gu) (m_outside gu) (m_sun gu) (m_persons gu) (m_set gu) (m_cool gu) (m_low gu) (m_high gu) gv) rfl ?_
      refine kw_aload_n C 1 dM_wall_89 rfl rfl ?_
      refine kw_get (v := .int 1) C 0 rfl rfl ku_M 0 (by decide) kt_556 rfl dM_wall_90 ?_
      refine kw_if_le (tgt := 98) C dM_wall_93 (by decide) (fun c_3 => ?_) (fun c_3 => ?_)
      · skip
        exact absurd c_3 (by decide)
      · skip
        refine kw_iconst (v := 0) C dM_wall_96 (by decide) ?_
        refine kw_eq rfl rfl (mk_wM_gu.trans (congrArg (fun z90 => wM k am z90 gv) (show (1, (m_rooms gu), (m_store gu), (m_mostHeating gu), (m_mostCooling gu), (m_began gu), (m_walls gu), (m_wallRoom gu), (m_wallOther gu), (m_leads gu), (m_windows gu), (m_windowRoom gu), (m_windowSide gu), (m_windowArea gu), (m_windowLimit gu), (m_outside gu), (m_sun gu), (m_persons gu), (m_set gu), (m_cool gu), (m_low gu), (m_high gu)) = sguM_wall gu gv r other lead from by unfold sguM_wall; rw [if_pos c_1]))) ?_
        exact kw_iret C hr hlocks (by unfold rM_wall; rw [if_pos c_1]) dM_wall_97
  · skip
    refine kw_iload_n C 2 dM_wall_8 rfl rfl ?_
    refine kw_iconst (v := -1) C dM_wall_9 (by decide) ?_
    refine kw_icmp_eq (tgt := 21) C dM_wall_10 (by decide) (fun c_4 => ?_) (fun c_4 => ?_)
    · skip
      refine kw_iload_n C 2 dM_wall_21 rfl rfl ?_
      refine kw_iload_n C 1 dM_wall_22 rfl rfl ?_
      refine kw_icmp_eq (tgt := 41) C dM_wall_23 (by decide) (fun c_5 => ?_) (fun c_5 => ?_)
      · skip
        refine kw_iconst (v := 0) C dM_wall_41 (by decide) ?_
        refine kw_istore (lv' := [(4, .int 0), (0, .ref (am 0)), (1, .int r), (2, .int other), (3, .int lead)]) C dM_wall_42 (by decide) rfl ?_
        refine kw_aload_n C 1 dM_wall_44 rfl rfl ?_
        refine kw_iload C 0 dM_wall_45 rfl ?_
        refine kw_if_ne (tgt := 54) C dM_wall_47 (by decide) (fun c_6 => ?_) (fun c_6 => ?_)
        · skip
          exact absurd (by decide) c_6
        · skip
          refine kw_iconst (v := 1) C dM_wall_50 (by decide) ?_
          refine kw_goto (tgt := 86) C dM_wall_51 (by decide) ?_
          refine kw_put C 0 rfl rfl ku_M tM_ok nM 0 (by decide) kt_556 rfl (ty := .int) (by decide +kernel) rfl rfl (Nat.le_of_ble_eq_true rfl) dM_wall_86 (wM_gu k am 1 (m_rooms gu) (m_store gu) (m_mostHeating gu) (m_mostCooling gu) (m_began gu) (m_walls gu) (m_wallRoom gu) (m_wallOther gu) (m_leads gu) (m_windows gu) (m_windowRoom gu) (m_windowSide gu) (m_windowArea gu) (m_windowLimit gu) (m_outside gu) (m_sun gu) (m_persons gu) (m_set gu) (m_cool gu) (m_low gu) (m_high gu) gv) rfl ?_
          refine kw_aload_n C 1 dM_wall_89 rfl rfl ?_
          refine kw_get (v := .int 1) C 0 rfl rfl ku_M 0 (by decide) kt_556 rfl dM_wall_90 ?_
          refine kw_if_le (tgt := 98) C dM_wall_93 (by decide) (fun c_7 => ?_) (fun c_7 => ?_)
          · skip
            exact absurd c_7 (by decide)
          · skip
            refine kw_iconst (v := 0) C dM_wall_96 (by decide) ?_
            refine kw_eq rfl rfl (mk_wM_gu.trans (congrArg (fun z90 => wM k am z90 gv) (show (1, (m_rooms gu), (m_store gu), (m_mostHeating gu), (m_mostCooling gu), (m_began gu), (m_walls gu), (m_wallRoom gu), (m_wallOther gu), (m_leads gu), (m_windows gu), (m_windowRoom gu), (m_windowSide gu), (m_windowArea gu), (m_windowLimit gu), (m_outside gu), (m_sun gu), (m_persons gu), (m_set gu), (m_cool gu), (m_low gu), (m_high gu)) = sguM_wall gu gv r other lead from by unfold sguM_wall; rw [if_neg c_1, if_pos c_4, if_pos c_5]))) ?_
            exact kw_iret C hr hlocks (by unfold rM_wall; rw [if_neg c_1, if_pos c_4, if_pos c_5]) dM_wall_97
      · skip
        refine kw_iload_n C 3 dM_wall_26 rfl rfl ?_
        refine kw_iconst (v := 0) C dM_wall_27 (by decide) ?_
        refine kw_sipush (v := 1000) C dM_wall_28 (by decide) ?_
        refine kw_callSi (st := []) C (cM_in l D k lead 0 1000) (va_cwS 3 C.1.2.2.2.2 (kgO kt_676 kt_677 kt_5 kt_678) rfl rfl rfl kdM_in ⟨Nat.le_of_ble_eq_true rfl, Nat.le_of_ble_eq_true rfl⟩) [] rfl rfl rfl rfl (Nat.le_of_ble_eq_true rfl) dM_wall_31 ⟨Nat.zero_le _, Nat.zero_le _⟩ rfl (wM k am gu gv) rfl ?_
        refine kw_if_eq (tgt := 41) C dM_wall_34 (by decide) (fun c_8 => ?_) (fun c_8 => ?_)
        · skip
          refine kw_iconst (v := 0) C dM_wall_41 (by decide) ?_
          refine kw_istore (lv' := [(4, .int 0), (0, .ref (am 0)), (1, .int r), (2, .int other), (3, .int lead)]) C dM_wall_42 (by decide) rfl ?_
          refine kw_aload_n C 1 dM_wall_44 rfl rfl ?_
          refine kw_iload C 0 dM_wall_45 rfl ?_
          refine kw_if_ne (tgt := 54) C dM_wall_47 (by decide) (fun c_9 => ?_) (fun c_9 => ?_)
          · skip
            exact absurd (by decide) c_9
          · skip
            refine kw_iconst (v := 1) C dM_wall_50 (by decide) ?_
            refine kw_goto (tgt := 86) C dM_wall_51 (by decide) ?_
            refine kw_put C 0 rfl rfl ku_M tM_ok nM 0 (by decide) kt_556 rfl (ty := .int) (by decide +kernel) rfl rfl (Nat.le_of_ble_eq_true rfl) dM_wall_86 (wM_gu k am 1 (m_rooms gu) (m_store gu) (m_mostHeating gu) (m_mostCooling gu) (m_began gu) (m_walls gu) (m_wallRoom gu) (m_wallOther gu) (m_leads gu) (m_windows gu) (m_windowRoom gu) (m_windowSide gu) (m_windowArea gu) (m_windowLimit gu) (m_outside gu) (m_sun gu) (m_persons gu) (m_set gu) (m_cool gu) (m_low gu) (m_high gu) gv) rfl ?_
            refine kw_aload_n C 1 dM_wall_89 rfl rfl ?_
            refine kw_get (v := .int 1) C 0 rfl rfl ku_M 0 (by decide) kt_556 rfl dM_wall_90 ?_
            refine kw_if_le (tgt := 98) C dM_wall_93 (by decide) (fun c_10 => ?_) (fun c_10 => ?_)
            · skip
              exact absurd c_10 (by decide)
            · skip
              refine kw_iconst (v := 0) C dM_wall_96 (by decide) ?_
              refine kw_eq rfl rfl (mk_wM_gu.trans (congrArg (fun z90 => wM k am z90 gv) (show (1, (m_rooms gu), (m_store gu), (m_mostHeating gu), (m_mostCooling gu), (m_began gu), (m_walls gu), (m_wallRoom gu), (m_wallOther gu), (m_leads gu), (m_windows gu), (m_windowRoom gu), (m_windowSide gu), (m_windowArea gu), (m_windowLimit gu), (m_outside gu), (m_sun gu), (m_persons gu), (m_set gu), (m_cool gu), (m_low gu), (m_high gu)) = sguM_wall gu gv r other lead from by unfold sguM_wall; rw [if_neg c_1, if_pos c_4, if_neg c_5, if_pos c_8]))) ?_
              exact kw_iret C hr hlocks (by unfold rM_wall; rw [if_neg c_1, if_pos c_4, if_neg c_5, if_pos c_8]) dM_wall_97
        · skip
          refine kw_iconst (v := 1) C dM_wall_37 (by decide) ?_
          refine kw_goto (tgt := 42) C dM_wall_38 (by decide) ?_
          refine kw_istore (lv' := [(4, .int 1), (0, .ref (am 0)), (1, .int r), (2, .int other), (3, .int lead)]) C dM_wall_42 (by decide) rfl ?_
          refine kw_aload_n C 1 dM_wall_44 rfl rfl ?_
          refine kw_iload C 0 dM_wall_45 rfl ?_
          refine kw_if_ne (tgt := 54) C dM_wall_47 (by decide) (fun c_11 => ?_) (fun c_11 => ?_)
          · skip
            refine kw_aload_n C 1 dM_wall_54 rfl rfl ?_
            refine kw_get (v := .int (m_walls gu)) C 0 rfl rfl ku_M 11 (by decide) kt_567 rfl dM_wall_55 ?_
            refine kw_bipush (v := 20) C dM_wall_58 (by decide) ?_
            refine kw_icmp_eq (tgt := 81) C dM_wall_60 (by decide) (fun c_12 => ?_) (fun c_12 => ?_)
            · skip
              refine kw_iconst (v := 2) C dM_wall_81 (by decide) ?_
              refine kw_goto (tgt := 86) C dM_wall_82 (by decide) ?_
              refine kw_put C 0 rfl rfl ku_M tM_ok nM 0 (by decide) kt_556 rfl (ty := .int) (by decide +kernel) rfl rfl (Nat.le_of_ble_eq_true rfl) dM_wall_86 (wM_gu k am 2 (m_rooms gu) (m_store gu) (m_mostHeating gu) (m_mostCooling gu) (m_began gu) (m_walls gu) (m_wallRoom gu) (m_wallOther gu) (m_leads gu) (m_windows gu) (m_windowRoom gu) (m_windowSide gu) (m_windowArea gu) (m_windowLimit gu) (m_outside gu) (m_sun gu) (m_persons gu) (m_set gu) (m_cool gu) (m_low gu) (m_high gu) gv) rfl ?_
              refine kw_aload_n C 1 dM_wall_89 rfl rfl ?_
              refine kw_get (v := .int 2) C 0 rfl rfl ku_M 0 (by decide) kt_556 rfl dM_wall_90 ?_
              refine kw_if_le (tgt := 98) C dM_wall_93 (by decide) (fun c_13 => ?_) (fun c_13 => ?_)
              · skip
                exact absurd c_13 (by decide)
              · skip
                refine kw_iconst (v := 0) C dM_wall_96 (by decide) ?_
                refine kw_eq rfl rfl (mk_wM_gu.trans (congrArg (fun z90 => wM k am z90 gv) (show (2, (m_rooms gu), (m_store gu), (m_mostHeating gu), (m_mostCooling gu), (m_began gu), (m_walls gu), (m_wallRoom gu), (m_wallOther gu), (m_leads gu), (m_windows gu), (m_windowRoom gu), (m_windowSide gu), (m_windowArea gu), (m_windowLimit gu), (m_outside gu), (m_sun gu), (m_persons gu), (m_set gu), (m_cool gu), (m_low gu), (m_high gu)) = sguM_wall gu gv r other lead from by unfold sguM_wall; rw [if_neg c_1, if_pos c_4, if_neg c_5, if_neg c_8, if_pos c_12]))) ?_
                exact kw_iret C hr hlocks (by unfold rM_wall; rw [if_neg c_1, if_pos c_4, if_neg c_5, if_neg c_8, if_pos c_12]) dM_wall_97
            · skip
              refine kw_aload_n C 1 dM_wall_63 rfl rfl ?_
              refine kw_iload_n C 2 dM_wall_64 rfl rfl ?_
              refine kw_iload_n C 4 dM_wall_65 rfl rfl ?_
              refine kw_callAi (w1 := (wM k am gu gv)) (st := [.ref (am 0)]) C (cM_isTooMuch l D k am gu gv r lead hI (Or.inr (kin_le (kroomM hI c_1) hI.1.2))) (cwV 2 C.1.2.2.2.2 (kgV kt_690 kt_692 ks_M_isTooMuch kt_5 kt_693) rfl rfl rfl kdM_isTooMuch ⟨Nat.le_of_ble_eq_true rfl, Nat.le_of_ble_eq_true rfl⟩) 0 3 rfl rfl rfl rfl rfl (Nat.le_of_ble_eq_true rfl) dM_wall_66 ⟨Nat.zero_le _, Nat.zero_le _⟩ (ad_wM.trans ad_wM.symm) ?_
              refine kw_if_ne (tgt := 81) C dM_wall_69 (by decide) (fun c_14 => ?_) (fun c_14 => ?_)
              · skip
                refine kw_iconst (v := 2) C dM_wall_81 (by decide) ?_
                refine kw_goto (tgt := 86) C dM_wall_82 (by decide) ?_
                refine kw_put C 0 rfl rfl ku_M tM_ok nM 0 (by decide) kt_556 rfl (ty := .int) (by decide +kernel) rfl rfl (Nat.le_of_ble_eq_true rfl) dM_wall_86 (wM_gu k am 2 (m_rooms gu) (m_store gu) (m_mostHeating gu) (m_mostCooling gu) (m_began gu) (m_walls gu) (m_wallRoom gu) (m_wallOther gu) (m_leads gu) (m_windows gu) (m_windowRoom gu) (m_windowSide gu) (m_windowArea gu) (m_windowLimit gu) (m_outside gu) (m_sun gu) (m_persons gu) (m_set gu) (m_cool gu) (m_low gu) (m_high gu) gv) rfl ?_
                refine kw_aload_n C 1 dM_wall_89 rfl rfl ?_
                refine kw_get (v := .int 2) C 0 rfl rfl ku_M 0 (by decide) kt_556 rfl dM_wall_90 ?_
                refine kw_if_le (tgt := 98) C dM_wall_93 (by decide) (fun c_15 => ?_) (fun c_15 => ?_)
                · skip
                  exact absurd c_15 (by decide)
                · skip
                  refine kw_iconst (v := 0) C dM_wall_96 (by decide) ?_
                  refine kw_eq rfl rfl (mk_wM_gu.trans (congrArg (fun z90 => wM k am z90 gv) (show (2, (m_rooms gu), (m_store gu), (m_mostHeating gu), (m_mostCooling gu), (m_began gu), (m_walls gu), (m_wallRoom gu), (m_wallOther gu), (m_leads gu), (m_windows gu), (m_windowRoom gu), (m_windowSide gu), (m_windowArea gu), (m_windowLimit gu), (m_outside gu), (m_sun gu), (m_persons gu), (m_set gu), (m_cool gu), (m_low gu), (m_high gu)) = sguM_wall gu gv r other lead from by unfold sguM_wall; rw [if_neg c_1, if_pos c_4, if_neg c_5, if_neg c_8, if_neg c_12, if_neg c_14]))) ?_
                  exact kw_iret C hr hlocks (by unfold rM_wall; rw [if_neg c_1, if_pos c_4, if_neg c_5, if_neg c_8, if_neg c_12, if_neg c_14]) dM_wall_97
              · skip
                refine kw_aload_n C 1 dM_wall_72 rfl rfl ?_
                refine kw_iload_n C 3 dM_wall_73 rfl rfl ?_
                refine kw_iload_n C 4 dM_wall_74 rfl rfl ?_
                refine kw_callAi (w1 := (wM k am gu gv)) (st := [.ref (am 0)]) C (cM_isTooMuch l D k am gu gv other lead hI (koth (Or.inl c_4))) (cwV 2 C.1.2.2.2.2 (kgV kt_690 kt_692 ks_M_isTooMuch kt_5 kt_693) rfl rfl rfl kdM_isTooMuch ⟨Nat.le_of_ble_eq_true rfl, Nat.le_of_ble_eq_true rfl⟩) 0 3 rfl rfl rfl rfl rfl (Nat.le_of_ble_eq_true rfl) dM_wall_75 ⟨Nat.zero_le _, Nat.zero_le _⟩ (ad_wM.trans ad_wM.symm) ?_
                refine kw_if_eq (tgt := 85) C dM_wall_78 (by decide) (fun c_16 => ?_) (fun c_16 => ?_)
                · skip
                  refine kw_iconst (v := 0) C dM_wall_85 (by decide) ?_
                  refine kw_put C 0 rfl rfl ku_M tM_ok nM 0 (by decide) kt_556 rfl (ty := .int) (by decide +kernel) rfl rfl (Nat.le_of_ble_eq_true rfl) dM_wall_86 (wM_gu k am 0 (m_rooms gu) (m_store gu) (m_mostHeating gu) (m_mostCooling gu) (m_began gu) (m_walls gu) (m_wallRoom gu) (m_wallOther gu) (m_leads gu) (m_windows gu) (m_windowRoom gu) (m_windowSide gu) (m_windowArea gu) (m_windowLimit gu) (m_outside gu) (m_sun gu) (m_persons gu) (m_set gu) (m_cool gu) (m_low gu) (m_high gu) gv) rfl ?_
                  refine kw_aload_n C 1 dM_wall_89 rfl rfl ?_
                  refine kw_get (v := .int 0) C 0 rfl rfl ku_M 0 (by decide) kt_556 rfl dM_wall_90 ?_
                  refine kw_if_le (tgt := 98) C dM_wall_93 (by decide) (fun c_17 => ?_) (fun c_17 => ?_)
                  · skip
                    refine kw_aload_n C 1 dM_wall_98 rfl rfl ?_
                    refine kw_get (v := .ref (am 9)) C 0 rfl rfl ku_M 12 (by decide) kt_568 rfl dM_wall_99 ?_
                    refine kw_aload_n C 1 dM_wall_102 rfl rfl ?_
                    refine kw_get (v := .int (m_walls gu)) C 0 rfl rfl ku_M 11 (by decide) kt_567 rfl dM_wall_103 ?_
                    refine kw_iload_n C 2 dM_wall_106 rfl rfl ?_
                    refine kw_iast C 9 0 rfl rfl (kix_of (kfull hI.2.1.1 hI.2.1.2 c_12)) dM_wall_107 (wM_gu k am 0 (m_rooms gu) (m_store gu) (m_mostHeating gu) (m_mostCooling gu) (m_began gu) (m_walls gu) (upd (m_wallRoom gu) ((m_walls gu).toNatClampNeg) r) (m_wallOther gu) (m_leads gu) (m_windows gu) (m_windowRoom gu) (m_windowSide gu) (m_windowArea gu) (m_windowLimit gu) (m_outside gu) (m_sun gu) (m_persons gu) (m_set gu) (m_cool gu) (m_low gu) (m_high gu) gv) rfl ?_
                    refine kw_aload_n C 1 dM_wall_108 rfl rfl ?_
                    refine kw_get (v := .ref (am 10)) C 0 rfl rfl ku_M 13 (by decide) kt_569 rfl dM_wall_109 ?_
                    refine kw_aload_n C 1 dM_wall_112 rfl rfl ?_
                    refine kw_get (v := .int (m_walls gu)) C 0 rfl rfl ku_M 11 (by decide) kt_567 rfl dM_wall_113 ?_
                    refine kw_iload_n C 3 dM_wall_116 rfl rfl ?_
                    refine kw_iast C 10 0 rfl rfl (kix_of (kfull hI.2.1.1 hI.2.1.2 c_12)) dM_wall_117 (wM_gu k am 0 (m_rooms gu) (m_store gu) (m_mostHeating gu) (m_mostCooling gu) (m_began gu) (m_walls gu) (upd (m_wallRoom gu) ((m_walls gu).toNatClampNeg) r) (upd (m_wallOther gu) ((m_walls gu).toNatClampNeg) other) (m_leads gu) (m_windows gu) (m_windowRoom gu) (m_windowSide gu) (m_windowArea gu) (m_windowLimit gu) (m_outside gu) (m_sun gu) (m_persons gu) (m_set gu) (m_cool gu) (m_low gu) (m_high gu) gv) rfl ?_
                    refine kw_aload_n C 1 dM_wall_118 rfl rfl ?_
                    refine kw_get (v := .ref (am 11)) C 0 rfl rfl ku_M 14 (by decide) kt_570 rfl dM_wall_119 ?_
                    refine kw_aload_n C 1 dM_wall_122 rfl rfl ?_
                    refine kw_get (v := .int (m_walls gu)) C 0 rfl rfl ku_M 11 (by decide) kt_567 rfl dM_wall_123 ?_
                    refine kw_iload_n C 4 dM_wall_126 rfl rfl ?_
                    refine kw_iast C 11 0 rfl rfl (kix_of (kfull hI.2.1.1 hI.2.1.2 c_12)) dM_wall_127 (wM_gu k am 0 (m_rooms gu) (m_store gu) (m_mostHeating gu) (m_mostCooling gu) (m_began gu) (m_walls gu) (upd (m_wallRoom gu) ((m_walls gu).toNatClampNeg) r) (upd (m_wallOther gu) ((m_walls gu).toNatClampNeg) other) (upd (m_leads gu) ((m_walls gu).toNatClampNeg) lead) (m_windows gu) (m_windowRoom gu) (m_windowSide gu) (m_windowArea gu) (m_windowLimit gu) (m_outside gu) (m_sun gu) (m_persons gu) (m_set gu) (m_cool gu) (m_low gu) (m_high gu) gv) rfl ?_
                    refine kw_aload_n C 1 dM_wall_128 rfl rfl ?_
                    refine kw_dup C dM_wall_129 rfl ?_
                    refine kw_get (v := .int (m_walls gu)) C 0 rfl rfl ku_M 11 (by decide) kt_567 rfl dM_wall_130 ?_
                    refine kw_iconst (v := 1) C dM_wall_133 (by decide) ?_
                    refine kw_iadd C dM_wall_134 ?_
                    refine kw_put C 0 rfl rfl ku_M tM_ok nM 11 (by decide) kt_567 rfl (ty := .int) (by decide +kernel) rfl rfl (Nat.le_of_ble_eq_true rfl) dM_wall_135 (wM_gu k am 0 (m_rooms gu) (m_store gu) (m_mostHeating gu) (m_mostCooling gu) (m_began gu) ((m_walls gu) + 1) (upd (m_wallRoom gu) ((m_walls gu).toNatClampNeg) r) (upd (m_wallOther gu) ((m_walls gu).toNatClampNeg) other) (upd (m_leads gu) ((m_walls gu).toNatClampNeg) lead) (m_windows gu) (m_windowRoom gu) (m_windowSide gu) (m_windowArea gu) (m_windowLimit gu) (m_outside gu) (m_sun gu) (m_persons gu) (m_set gu) (m_cool gu) (m_low gu) (m_high gu) gv) rfl ?_
                    refine kw_aload_n C 1 dM_wall_138 rfl rfl ?_
                    refine kw_get (v := .int ((m_walls gu) + 1)) C 0 rfl rfl ku_M 11 (by decide) kt_567 rfl dM_wall_139 ?_
                    refine kw_iconst (v := 1) C dM_wall_142 (by decide) ?_
                    refine kw_isub C dM_wall_143 ?_
                    refine kw_eq rfl rfl (mk_wM_gu.trans (congrArg (fun z90 => wM k am z90 gv) (show (0, (m_rooms gu), (m_store gu), (m_mostHeating gu), (m_mostCooling gu), (m_began gu), ((m_walls gu) + 1), (upd (m_wallRoom gu) ((m_walls gu).toNatClampNeg) r), (upd (m_wallOther gu) ((m_walls gu).toNatClampNeg) other), (upd (m_leads gu) ((m_walls gu).toNatClampNeg) lead), (m_windows gu), (m_windowRoom gu), (m_windowSide gu), (m_windowArea gu), (m_windowLimit gu), (m_outside gu), (m_sun gu), (m_persons gu), (m_set gu), (m_cool gu), (m_low gu), (m_high gu)) = sguM_wall gu gv r other lead from by unfold sguM_wall; rw [if_neg c_1, if_pos c_4, if_neg c_5, if_neg c_8, if_neg c_12, if_pos c_14, if_pos c_16]))) ?_
                    exact kw_iret C hr hlocks (by unfold rM_wall; rw [if_neg c_1, if_pos c_4, if_neg c_5, if_neg c_8, if_neg c_12, if_pos c_14, if_pos c_16]) dM_wall_144
                  · skip
                    exact absurd (by decide) c_17
                · skip
                  refine kw_iconst (v := 2) C dM_wall_81 (by decide) ?_
                  refine kw_goto (tgt := 86) C dM_wall_82 (by decide) ?_
                  refine kw_put C 0 rfl rfl ku_M tM_ok nM 0 (by decide) kt_556 rfl (ty := .int) (by decide +kernel) rfl rfl (Nat.le_of_ble_eq_true rfl) dM_wall_86 (wM_gu k am 2 (m_rooms gu) (m_store gu) (m_mostHeating gu) (m_mostCooling gu) (m_began gu) (m_walls gu) (m_wallRoom gu) (m_wallOther gu) (m_leads gu) (m_windows gu) (m_windowRoom gu) (m_windowSide gu) (m_windowArea gu) (m_windowLimit gu) (m_outside gu) (m_sun gu) (m_persons gu) (m_set gu) (m_cool gu) (m_low gu) (m_high gu) gv) rfl ?_
                  refine kw_aload_n C 1 dM_wall_89 rfl rfl ?_
                  refine kw_get (v := .int 2) C 0 rfl rfl ku_M 0 (by decide) kt_556 rfl dM_wall_90 ?_
                  refine kw_if_le (tgt := 98) C dM_wall_93 (by decide) (fun c_18 => ?_) (fun c_18 => ?_)
                  · skip
                    exact absurd c_18 (by decide)
                  · skip
                    refine kw_iconst (v := 0) C dM_wall_96 (by decide) ?_
                    refine kw_eq rfl rfl (mk_wM_gu.trans (congrArg (fun z90 => wM k am z90 gv) (show (2, (m_rooms gu), (m_store gu), (m_mostHeating gu), (m_mostCooling gu), (m_began gu), (m_walls gu), (m_wallRoom gu), (m_wallOther gu), (m_leads gu), (m_windows gu), (m_windowRoom gu), (m_windowSide gu), (m_windowArea gu), (m_windowLimit gu), (m_outside gu), (m_sun gu), (m_persons gu), (m_set gu), (m_cool gu), (m_low gu), (m_high gu)) = sguM_wall gu gv r other lead from by unfold sguM_wall; rw [if_neg c_1, if_pos c_4, if_neg c_5, if_neg c_8, if_neg c_12, if_pos c_14, if_neg c_16]))) ?_
                    exact kw_iret C hr hlocks (by unfold rM_wall; rw [if_neg c_1, if_pos c_4, if_neg c_5, if_neg c_8, if_neg c_12, if_pos c_14, if_neg c_16]) dM_wall_97
          · skip
            exact absurd c_11 (by decide)
    · skip
      refine kw_aload_n C 0 dM_wall_13 rfl rfl ?_
      refine kw_iload_n C 2 dM_wall_14 rfl rfl ?_
      refine kw_callAi (w1 := (wM k am gu gv)) (st := []) C (cM_isRoom l D k am gu gv other) (cwV 1 C.1.2.2.2.2 (kgV kt_686 kt_688 ks_M_isRoom kt_5 kt_689) rfl rfl rfl kdM_isRoom ⟨Nat.le_of_ble_eq_true rfl, Nat.le_of_ble_eq_true rfl⟩) 0 3 rfl rfl rfl rfl rfl (Nat.le_of_ble_eq_true rfl) dM_wall_15 ⟨Nat.zero_le _, Nat.zero_le _⟩ (ad_wM.trans ad_wM.symm) ?_
      refine kw_if_eq (tgt := 41) C dM_wall_18 (by decide) (fun c_19 => ?_) (fun c_19 => ?_)
      · skip
        refine kw_iconst (v := 0) C dM_wall_41 (by decide) ?_
        refine kw_istore (lv' := [(4, .int 0), (0, .ref (am 0)), (1, .int r), (2, .int other), (3, .int lead)]) C dM_wall_42 (by decide) rfl ?_
        refine kw_aload_n C 1 dM_wall_44 rfl rfl ?_
        refine kw_iload C 0 dM_wall_45 rfl ?_
        refine kw_if_ne (tgt := 54) C dM_wall_47 (by decide) (fun c_20 => ?_) (fun c_20 => ?_)
        · skip
          exact absurd (by decide) c_20
        · skip
          refine kw_iconst (v := 1) C dM_wall_50 (by decide) ?_
          refine kw_goto (tgt := 86) C dM_wall_51 (by decide) ?_
          refine kw_put C 0 rfl rfl ku_M tM_ok nM 0 (by decide) kt_556 rfl (ty := .int) (by decide +kernel) rfl rfl (Nat.le_of_ble_eq_true rfl) dM_wall_86 (wM_gu k am 1 (m_rooms gu) (m_store gu) (m_mostHeating gu) (m_mostCooling gu) (m_began gu) (m_walls gu) (m_wallRoom gu) (m_wallOther gu) (m_leads gu) (m_windows gu) (m_windowRoom gu) (m_windowSide gu) (m_windowArea gu) (m_windowLimit gu) (m_outside gu) (m_sun gu) (m_persons gu) (m_set gu) (m_cool gu) (m_low gu) (m_high gu) gv) rfl ?_
          refine kw_aload_n C 1 dM_wall_89 rfl rfl ?_
          refine kw_get (v := .int 1) C 0 rfl rfl ku_M 0 (by decide) kt_556 rfl dM_wall_90 ?_
          refine kw_if_le (tgt := 98) C dM_wall_93 (by decide) (fun c_21 => ?_) (fun c_21 => ?_)
          · skip
            exact absurd c_21 (by decide)
          · skip
            refine kw_iconst (v := 0) C dM_wall_96 (by decide) ?_
            refine kw_eq rfl rfl (mk_wM_gu.trans (congrArg (fun z90 => wM k am z90 gv) (show (1, (m_rooms gu), (m_store gu), (m_mostHeating gu), (m_mostCooling gu), (m_began gu), (m_walls gu), (m_wallRoom gu), (m_wallOther gu), (m_leads gu), (m_windows gu), (m_windowRoom gu), (m_windowSide gu), (m_windowArea gu), (m_windowLimit gu), (m_outside gu), (m_sun gu), (m_persons gu), (m_set gu), (m_cool gu), (m_low gu), (m_high gu)) = sguM_wall gu gv r other lead from by unfold sguM_wall; rw [if_neg c_1, if_neg c_4, if_pos c_19]))) ?_
            exact kw_iret C hr hlocks (by unfold rM_wall; rw [if_neg c_1, if_neg c_4, if_pos c_19]) dM_wall_97
      · skip
        refine kw_iload_n C 2 dM_wall_21 rfl rfl ?_
        refine kw_iload_n C 1 dM_wall_22 rfl rfl ?_
        refine kw_icmp_eq (tgt := 41) C dM_wall_23 (by decide) (fun c_22 => ?_) (fun c_22 => ?_)
        · skip
          refine kw_iconst (v := 0) C dM_wall_41 (by decide) ?_
          refine kw_istore (lv' := [(4, .int 0), (0, .ref (am 0)), (1, .int r), (2, .int other), (3, .int lead)]) C dM_wall_42 (by decide) rfl ?_
          refine kw_aload_n C 1 dM_wall_44 rfl rfl ?_
          refine kw_iload C 0 dM_wall_45 rfl ?_
          refine kw_if_ne (tgt := 54) C dM_wall_47 (by decide) (fun c_23 => ?_) (fun c_23 => ?_)
          · skip
            exact absurd (by decide) c_23
          · skip
            refine kw_iconst (v := 1) C dM_wall_50 (by decide) ?_
            refine kw_goto (tgt := 86) C dM_wall_51 (by decide) ?_
            refine kw_put C 0 rfl rfl ku_M tM_ok nM 0 (by decide) kt_556 rfl (ty := .int) (by decide +kernel) rfl rfl (Nat.le_of_ble_eq_true rfl) dM_wall_86 (wM_gu k am 1 (m_rooms gu) (m_store gu) (m_mostHeating gu) (m_mostCooling gu) (m_began gu) (m_walls gu) (m_wallRoom gu) (m_wallOther gu) (m_leads gu) (m_windows gu) (m_windowRoom gu) (m_windowSide gu) (m_windowArea gu) (m_windowLimit gu) (m_outside gu) (m_sun gu) (m_persons gu) (m_set gu) (m_cool gu) (m_low gu) (m_high gu) gv) rfl ?_
            refine kw_aload_n C 1 dM_wall_89 rfl rfl ?_
            refine kw_get (v := .int 1) C 0 rfl rfl ku_M 0 (by decide) kt_556 rfl dM_wall_90 ?_
            refine kw_if_le (tgt := 98) C dM_wall_93 (by decide) (fun c_24 => ?_) (fun c_24 => ?_)
            · skip
              exact absurd c_24 (by decide)
            · skip
              refine kw_iconst (v := 0) C dM_wall_96 (by decide) ?_
              refine kw_eq rfl rfl (mk_wM_gu.trans (congrArg (fun z90 => wM k am z90 gv) (show (1, (m_rooms gu), (m_store gu), (m_mostHeating gu), (m_mostCooling gu), (m_began gu), (m_walls gu), (m_wallRoom gu), (m_wallOther gu), (m_leads gu), (m_windows gu), (m_windowRoom gu), (m_windowSide gu), (m_windowArea gu), (m_windowLimit gu), (m_outside gu), (m_sun gu), (m_persons gu), (m_set gu), (m_cool gu), (m_low gu), (m_high gu)) = sguM_wall gu gv r other lead from by unfold sguM_wall; rw [if_neg c_1, if_neg c_4, if_neg c_19, if_pos c_22]))) ?_
              exact kw_iret C hr hlocks (by unfold rM_wall; rw [if_neg c_1, if_neg c_4, if_neg c_19, if_pos c_22]) dM_wall_97
        · skip
          refine kw_iload_n C 3 dM_wall_26 rfl rfl ?_
          refine kw_iconst (v := 0) C dM_wall_27 (by decide) ?_
          refine kw_sipush (v := 1000) C dM_wall_28 (by decide) ?_
          refine kw_callSi (st := []) C (cM_in l D k lead 0 1000) (va_cwS 3 C.1.2.2.2.2 (kgO kt_676 kt_677 kt_5 kt_678) rfl rfl rfl kdM_in ⟨Nat.le_of_ble_eq_true rfl, Nat.le_of_ble_eq_true rfl⟩) [] rfl rfl rfl rfl (Nat.le_of_ble_eq_true rfl) dM_wall_31 ⟨Nat.zero_le _, Nat.zero_le _⟩ rfl (wM k am gu gv) rfl ?_
          refine kw_if_eq (tgt := 41) C dM_wall_34 (by decide) (fun c_25 => ?_) (fun c_25 => ?_)
          · skip
            refine kw_iconst (v := 0) C dM_wall_41 (by decide) ?_
            refine kw_istore (lv' := [(4, .int 0), (0, .ref (am 0)), (1, .int r), (2, .int other), (3, .int lead)]) C dM_wall_42 (by decide) rfl ?_
            refine kw_aload_n C 1 dM_wall_44 rfl rfl ?_
            refine kw_iload C 0 dM_wall_45 rfl ?_
            refine kw_if_ne (tgt := 54) C dM_wall_47 (by decide) (fun c_26 => ?_) (fun c_26 => ?_)
            · skip
              exact absurd (by decide) c_26
            · skip
              refine kw_iconst (v := 1) C dM_wall_50 (by decide) ?_
              refine kw_goto (tgt := 86) C dM_wall_51 (by decide) ?_
              refine kw_put C 0 rfl rfl ku_M tM_ok nM 0 (by decide) kt_556 rfl (ty := .int) (by decide +kernel) rfl rfl (Nat.le_of_ble_eq_true rfl) dM_wall_86 (wM_gu k am 1 (m_rooms gu) (m_store gu) (m_mostHeating gu) (m_mostCooling gu) (m_began gu) (m_walls gu) (m_wallRoom gu) (m_wallOther gu) (m_leads gu) (m_windows gu) (m_windowRoom gu) (m_windowSide gu) (m_windowArea gu) (m_windowLimit gu) (m_outside gu) (m_sun gu) (m_persons gu) (m_set gu) (m_cool gu) (m_low gu) (m_high gu) gv) rfl ?_
              refine kw_aload_n C 1 dM_wall_89 rfl rfl ?_
              refine kw_get (v := .int 1) C 0 rfl rfl ku_M 0 (by decide) kt_556 rfl dM_wall_90 ?_
              refine kw_if_le (tgt := 98) C dM_wall_93 (by decide) (fun c_27 => ?_) (fun c_27 => ?_)
              · skip
                exact absurd c_27 (by decide)
              · skip
                refine kw_iconst (v := 0) C dM_wall_96 (by decide) ?_
                refine kw_eq rfl rfl (mk_wM_gu.trans (congrArg (fun z90 => wM k am z90 gv) (show (1, (m_rooms gu), (m_store gu), (m_mostHeating gu), (m_mostCooling gu), (m_began gu), (m_walls gu), (m_wallRoom gu), (m_wallOther gu), (m_leads gu), (m_windows gu), (m_windowRoom gu), (m_windowSide gu), (m_windowArea gu), (m_windowLimit gu), (m_outside gu), (m_sun gu), (m_persons gu), (m_set gu), (m_cool gu), (m_low gu), (m_high gu)) = sguM_wall gu gv r other lead from by unfold sguM_wall; rw [if_neg c_1, if_neg c_4, if_neg c_19, if_neg c_22, if_pos c_25]))) ?_
                exact kw_iret C hr hlocks (by unfold rM_wall; rw [if_neg c_1, if_neg c_4, if_neg c_19, if_neg c_22, if_pos c_25]) dM_wall_97
          · skip
            refine kw_iconst (v := 1) C dM_wall_37 (by decide) ?_
            refine kw_goto (tgt := 42) C dM_wall_38 (by decide) ?_
            refine kw_istore (lv' := [(4, .int 1), (0, .ref (am 0)), (1, .int r), (2, .int other), (3, .int lead)]) C dM_wall_42 (by decide) rfl ?_
            refine kw_aload_n C 1 dM_wall_44 rfl rfl ?_
            refine kw_iload C 0 dM_wall_45 rfl ?_
            refine kw_if_ne (tgt := 54) C dM_wall_47 (by decide) (fun c_28 => ?_) (fun c_28 => ?_)
            · skip
              refine kw_aload_n C 1 dM_wall_54 rfl rfl ?_
              refine kw_get (v := .int (m_walls gu)) C 0 rfl rfl ku_M 11 (by decide) kt_567 rfl dM_wall_55 ?_
              refine kw_bipush (v := 20) C dM_wall_58 (by decide) ?_
              refine kw_icmp_eq (tgt := 81) C dM_wall_60 (by decide) (fun c_29 => ?_) (fun c_29 => ?_)
              · skip
                refine kw_iconst (v := 2) C dM_wall_81 (by decide) ?_
                refine kw_goto (tgt := 86) C dM_wall_82 (by decide) ?_
                refine kw_put C 0 rfl rfl ku_M tM_ok nM 0 (by decide) kt_556 rfl (ty := .int) (by decide +kernel) rfl rfl (Nat.le_of_ble_eq_true rfl) dM_wall_86 (wM_gu k am 2 (m_rooms gu) (m_store gu) (m_mostHeating gu) (m_mostCooling gu) (m_began gu) (m_walls gu) (m_wallRoom gu) (m_wallOther gu) (m_leads gu) (m_windows gu) (m_windowRoom gu) (m_windowSide gu) (m_windowArea gu) (m_windowLimit gu) (m_outside gu) (m_sun gu) (m_persons gu) (m_set gu) (m_cool gu) (m_low gu) (m_high gu) gv) rfl ?_
                refine kw_aload_n C 1 dM_wall_89 rfl rfl ?_
                refine kw_get (v := .int 2) C 0 rfl rfl ku_M 0 (by decide) kt_556 rfl dM_wall_90 ?_
                refine kw_if_le (tgt := 98) C dM_wall_93 (by decide) (fun c_30 => ?_) (fun c_30 => ?_)
                · skip
                  exact absurd c_30 (by decide)
                · skip
                  refine kw_iconst (v := 0) C dM_wall_96 (by decide) ?_
                  refine kw_eq rfl rfl (mk_wM_gu.trans (congrArg (fun z90 => wM k am z90 gv) (show (2, (m_rooms gu), (m_store gu), (m_mostHeating gu), (m_mostCooling gu), (m_began gu), (m_walls gu), (m_wallRoom gu), (m_wallOther gu), (m_leads gu), (m_windows gu), (m_windowRoom gu), (m_windowSide gu), (m_windowArea gu), (m_windowLimit gu), (m_outside gu), (m_sun gu), (m_persons gu), (m_set gu), (m_cool gu), (m_low gu), (m_high gu)) = sguM_wall gu gv r other lead from by unfold sguM_wall; rw [if_neg c_1, if_neg c_4, if_neg c_19, if_neg c_22, if_neg c_25, if_pos c_29]))) ?_
                  exact kw_iret C hr hlocks (by unfold rM_wall; rw [if_neg c_1, if_neg c_4, if_neg c_19, if_neg c_22, if_neg c_25, if_pos c_29]) dM_wall_97
              · skip
                refine kw_aload_n C 1 dM_wall_63 rfl rfl ?_
                refine kw_iload_n C 2 dM_wall_64 rfl rfl ?_
                refine kw_iload_n C 4 dM_wall_65 rfl rfl ?_
                refine kw_callAi (w1 := (wM k am gu gv)) (st := [.ref (am 0)]) C (cM_isTooMuch l D k am gu gv r lead hI (Or.inr (kin_le (kroomM hI c_1) hI.1.2))) (cwV 2 C.1.2.2.2.2 (kgV kt_690 kt_692 ks_M_isTooMuch kt_5 kt_693) rfl rfl rfl kdM_isTooMuch ⟨Nat.le_of_ble_eq_true rfl, Nat.le_of_ble_eq_true rfl⟩) 0 3 rfl rfl rfl rfl rfl (Nat.le_of_ble_eq_true rfl) dM_wall_66 ⟨Nat.zero_le _, Nat.zero_le _⟩ (ad_wM.trans ad_wM.symm) ?_
                refine kw_if_ne (tgt := 81) C dM_wall_69 (by decide) (fun c_31 => ?_) (fun c_31 => ?_)
                · skip
                  refine kw_iconst (v := 2) C dM_wall_81 (by decide) ?_
                  refine kw_goto (tgt := 86) C dM_wall_82 (by decide) ?_
                  refine kw_put C 0 rfl rfl ku_M tM_ok nM 0 (by decide) kt_556 rfl (ty := .int) (by decide +kernel) rfl rfl (Nat.le_of_ble_eq_true rfl) dM_wall_86 (wM_gu k am 2 (m_rooms gu) (m_store gu) (m_mostHeating gu) (m_mostCooling gu) (m_began gu) (m_walls gu) (m_wallRoom gu) (m_wallOther gu) (m_leads gu) (m_windows gu) (m_windowRoom gu) (m_windowSide gu) (m_windowArea gu) (m_windowLimit gu) (m_outside gu) (m_sun gu) (m_persons gu) (m_set gu) (m_cool gu) (m_low gu) (m_high gu) gv) rfl ?_
                  refine kw_aload_n C 1 dM_wall_89 rfl rfl ?_
                  refine kw_get (v := .int 2) C 0 rfl rfl ku_M 0 (by decide) kt_556 rfl dM_wall_90 ?_
                  refine kw_if_le (tgt := 98) C dM_wall_93 (by decide) (fun c_32 => ?_) (fun c_32 => ?_)
                  · skip
                    exact absurd c_32 (by decide)
                  · skip
                    refine kw_iconst (v := 0) C dM_wall_96 (by decide) ?_
                    refine kw_eq rfl rfl (mk_wM_gu.trans (congrArg (fun z90 => wM k am z90 gv) (show (2, (m_rooms gu), (m_store gu), (m_mostHeating gu), (m_mostCooling gu), (m_began gu), (m_walls gu), (m_wallRoom gu), (m_wallOther gu), (m_leads gu), (m_windows gu), (m_windowRoom gu), (m_windowSide gu), (m_windowArea gu), (m_windowLimit gu), (m_outside gu), (m_sun gu), (m_persons gu), (m_set gu), (m_cool gu), (m_low gu), (m_high gu)) = sguM_wall gu gv r other lead from by unfold sguM_wall; rw [if_neg c_1, if_neg c_4, if_neg c_19, if_neg c_22, if_neg c_25, if_neg c_29, if_neg c_31]))) ?_
                    exact kw_iret C hr hlocks (by unfold rM_wall; rw [if_neg c_1, if_neg c_4, if_neg c_19, if_neg c_22, if_neg c_25, if_neg c_29, if_neg c_31]) dM_wall_97
                · skip
                  refine kw_aload_n C 1 dM_wall_72 rfl rfl ?_
                  refine kw_iload_n C 3 dM_wall_73 rfl rfl ?_
                  refine kw_iload_n C 4 dM_wall_74 rfl rfl ?_
                  refine kw_callAi (w1 := (wM k am gu gv)) (st := [.ref (am 0)]) C (cM_isTooMuch l D k am gu gv other lead hI (Or.inr (kin_le (kroomM hI c_19) hI.1.2))) (cwV 2 C.1.2.2.2.2 (kgV kt_690 kt_692 ks_M_isTooMuch kt_5 kt_693) rfl rfl rfl kdM_isTooMuch ⟨Nat.le_of_ble_eq_true rfl, Nat.le_of_ble_eq_true rfl⟩) 0 3 rfl rfl rfl rfl rfl (Nat.le_of_ble_eq_true rfl) dM_wall_75 ⟨Nat.zero_le _, Nat.zero_le _⟩ (ad_wM.trans ad_wM.symm) ?_
                  refine kw_if_eq (tgt := 85) C dM_wall_78 (by decide) (fun c_33 => ?_) (fun c_33 => ?_)
                  · skip
                    refine kw_iconst (v := 0) C dM_wall_85 (by decide) ?_
                    refine kw_put C 0 rfl rfl ku_M tM_ok nM 0 (by decide) kt_556 rfl (ty := .int) (by decide +kernel) rfl rfl (Nat.le_of_ble_eq_true rfl) dM_wall_86 (wM_gu k am 0 (m_rooms gu) (m_store gu) (m_mostHeating gu) (m_mostCooling gu) (m_began gu) (m_walls gu) (m_wallRoom gu) (m_wallOther gu) (m_leads gu) (m_windows gu) (m_windowRoom gu) (m_windowSide gu) (m_windowArea gu) (m_windowLimit gu) (m_outside gu) (m_sun gu) (m_persons gu) (m_set gu) (m_cool gu) (m_low gu) (m_high gu) gv) rfl ?_
                    refine kw_aload_n C 1 dM_wall_89 rfl rfl ?_
                    refine kw_get (v := .int 0) C 0 rfl rfl ku_M 0 (by decide) kt_556 rfl dM_wall_90 ?_
                    refine kw_if_le (tgt := 98) C dM_wall_93 (by decide) (fun c_34 => ?_) (fun c_34 => ?_)
                    · skip
                      refine kw_aload_n C 1 dM_wall_98 rfl rfl ?_
                      refine kw_get (v := .ref (am 9)) C 0 rfl rfl ku_M 12 (by decide) kt_568 rfl dM_wall_99 ?_
                      refine kw_aload_n C 1 dM_wall_102 rfl rfl ?_
                      refine kw_get (v := .int (m_walls gu)) C 0 rfl rfl ku_M 11 (by decide) kt_567 rfl dM_wall_103 ?_
                      refine kw_iload_n C 2 dM_wall_106 rfl rfl ?_
                      refine kw_iast C 9 0 rfl rfl (kix_of (kfull hI.2.1.1 hI.2.1.2 c_29)) dM_wall_107 (wM_gu k am 0 (m_rooms gu) (m_store gu) (m_mostHeating gu) (m_mostCooling gu) (m_began gu) (m_walls gu) (upd (m_wallRoom gu) ((m_walls gu).toNatClampNeg) r) (m_wallOther gu) (m_leads gu) (m_windows gu) (m_windowRoom gu) (m_windowSide gu) (m_windowArea gu) (m_windowLimit gu) (m_outside gu) (m_sun gu) (m_persons gu) (m_set gu) (m_cool gu) (m_low gu) (m_high gu) gv) rfl ?_
                      refine kw_aload_n C 1 dM_wall_108 rfl rfl ?_
                      refine kw_get (v := .ref (am 10)) C 0 rfl rfl ku_M 13 (by decide) kt_569 rfl dM_wall_109 ?_
                      refine kw_aload_n C 1 dM_wall_112 rfl rfl ?_
                      refine kw_get (v := .int (m_walls gu)) C 0 rfl rfl ku_M 11 (by decide) kt_567 rfl dM_wall_113 ?_
                      refine kw_iload_n C 3 dM_wall_116 rfl rfl ?_
                      refine kw_iast C 10 0 rfl rfl (kix_of (kfull hI.2.1.1 hI.2.1.2 c_29)) dM_wall_117 (wM_gu k am 0 (m_rooms gu) (m_store gu) (m_mostHeating gu) (m_mostCooling gu) (m_began gu) (m_walls gu) (upd (m_wallRoom gu) ((m_walls gu).toNatClampNeg) r) (upd (m_wallOther gu) ((m_walls gu).toNatClampNeg) other) (m_leads gu) (m_windows gu) (m_windowRoom gu) (m_windowSide gu) (m_windowArea gu) (m_windowLimit gu) (m_outside gu) (m_sun gu) (m_persons gu) (m_set gu) (m_cool gu) (m_low gu) (m_high gu) gv) rfl ?_
                      refine kw_aload_n C 1 dM_wall_118 rfl rfl ?_
                      refine kw_get (v := .ref (am 11)) C 0 rfl rfl ku_M 14 (by decide) kt_570 rfl dM_wall_119 ?_
                      refine kw_aload_n C 1 dM_wall_122 rfl rfl ?_
                      refine kw_get (v := .int (m_walls gu)) C 0 rfl rfl ku_M 11 (by decide) kt_567 rfl dM_wall_123 ?_
                      refine kw_iload_n C 4 dM_wall_126 rfl rfl ?_
                      refine kw_iast C 11 0 rfl rfl (kix_of (kfull hI.2.1.1 hI.2.1.2 c_29)) dM_wall_127 (wM_gu k am 0 (m_rooms gu) (m_store gu) (m_mostHeating gu) (m_mostCooling gu) (m_began gu) (m_walls gu) (upd (m_wallRoom gu) ((m_walls gu).toNatClampNeg) r) (upd (m_wallOther gu) ((m_walls gu).toNatClampNeg) other) (upd (m_leads gu) ((m_walls gu).toNatClampNeg) lead) (m_windows gu) (m_windowRoom gu) (m_windowSide gu) (m_windowArea gu) (m_windowLimit gu) (m_outside gu) (m_sun gu) (m_persons gu) (m_set gu) (m_cool gu) (m_low gu) (m_high gu) gv) rfl ?_
                      refine kw_aload_n C 1 dM_wall_128 rfl rfl ?_
                      refine kw_dup C dM_wall_129 rfl ?_
                      refine kw_get (v := .int (m_walls gu)) C 0 rfl rfl ku_M 11 (by decide) kt_567 rfl dM_wall_130 ?_
                      refine kw_iconst (v := 1) C dM_wall_133 (by decide) ?_
                      refine kw_iadd C dM_wall_134 ?_
                      refine kw_put C 0 rfl rfl ku_M tM_ok nM 11 (by decide) kt_567 rfl (ty := .int) (by decide +kernel) rfl rfl (Nat.le_of_ble_eq_true rfl) dM_wall_135 (wM_gu k am 0 (m_rooms gu) (m_store gu) (m_mostHeating gu) (m_mostCooling gu) (m_began gu) ((m_walls gu) + 1) (upd (m_wallRoom gu) ((m_walls gu).toNatClampNeg) r) (upd (m_wallOther gu) ((m_walls gu).toNatClampNeg) other) (upd (m_leads gu) ((m_walls gu).toNatClampNeg) lead) (m_windows gu) (m_windowRoom gu) (m_windowSide gu) (m_windowArea gu) (m_windowLimit gu) (m_outside gu) (m_sun gu) (m_persons gu) (m_set gu) (m_cool gu) (m_low gu) (m_high gu) gv) rfl ?_
                      refine kw_aload_n C 1 dM_wall_138 rfl rfl ?_
                      refine kw_get (v := .int ((m_walls gu) + 1)) C 0 rfl rfl ku_M 11 (by decide) kt_567 rfl dM_wall_139 ?_
                      refine kw_iconst (v := 1) C dM_wall_142 (by decide) ?_
                      refine kw_isub C dM_wall_143 ?_
                      refine kw_eq rfl rfl (mk_wM_gu.trans (congrArg (fun z90 => wM k am z90 gv) (show (0, (m_rooms gu), (m_store gu), (m_mostHeating gu), (m_mostCooling gu), (m_began gu), ((m_walls gu) + 1), (upd (m_wallRoom gu) ((m_walls gu).toNatClampNeg) r), (upd (m_wallOther gu) ((m_walls gu).toNatClampNeg) other), (upd (m_leads gu) ((m_walls gu).toNatClampNeg) lead), (m_windows gu), (m_windowRoom gu), (m_windowSide gu), (m_windowArea gu), (m_windowLimit gu), (m_outside gu), (m_sun gu), (m_persons gu), (m_set gu), (m_cool gu), (m_low gu), (m_high gu)) = sguM_wall gu gv r other lead from by unfold sguM_wall; rw [if_neg c_1, if_neg c_4, if_neg c_19, if_neg c_22, if_neg c_25, if_neg c_29, if_pos c_31, if_pos c_33]))) ?_
                      exact kw_iret C hr hlocks (by unfold rM_wall; rw [if_neg c_1, if_neg c_4, if_neg c_19, if_neg c_22, if_neg c_25, if_neg c_29, if_pos c_31, if_pos c_33]) dM_wall_144
                    · skip
                      exact absurd (by decide) c_34
                  · skip
                    refine kw_iconst (v := 2) C dM_wall_81 (by decide) ?_
                    refine kw_goto (tgt := 86) C dM_wall_82 (by decide) ?_
                    refine kw_put C 0 rfl rfl ku_M tM_ok nM 0 (by decide) kt_556 rfl (ty := .int) (by decide +kernel) rfl rfl (Nat.le_of_ble_eq_true rfl) dM_wall_86 (wM_gu k am 2 (m_rooms gu) (m_store gu) (m_mostHeating gu) (m_mostCooling gu) (m_began gu) (m_walls gu) (m_wallRoom gu) (m_wallOther gu) (m_leads gu) (m_windows gu) (m_windowRoom gu) (m_windowSide gu) (m_windowArea gu) (m_windowLimit gu) (m_outside gu) (m_sun gu) (m_persons gu) (m_set gu) (m_cool gu) (m_low gu) (m_high gu) gv) rfl ?_
                    refine kw_aload_n C 1 dM_wall_89 rfl rfl ?_
                    refine kw_get (v := .int 2) C 0 rfl rfl ku_M 0 (by decide) kt_556 rfl dM_wall_90 ?_
                    refine kw_if_le (tgt := 98) C dM_wall_93 (by decide) (fun c_35 => ?_) (fun c_35 => ?_)
                    · skip
                      exact absurd c_35 (by decide)
                    · skip
                      refine kw_iconst (v := 0) C dM_wall_96 (by decide) ?_
                      refine kw_eq rfl rfl (mk_wM_gu.trans (congrArg (fun z90 => wM k am z90 gv) (show (2, (m_rooms gu), (m_store gu), (m_mostHeating gu), (m_mostCooling gu), (m_began gu), (m_walls gu), (m_wallRoom gu), (m_wallOther gu), (m_leads gu), (m_windows gu), (m_windowRoom gu), (m_windowSide gu), (m_windowArea gu), (m_windowLimit gu), (m_outside gu), (m_sun gu), (m_persons gu), (m_set gu), (m_cool gu), (m_low gu), (m_high gu)) = sguM_wall gu gv r other lead from by unfold sguM_wall; rw [if_neg c_1, if_neg c_4, if_neg c_19, if_neg c_22, if_neg c_25, if_neg c_29, if_pos c_31, if_neg c_33]))) ?_
                      exact kw_iret C hr hlocks (by unfold rM_wall; rw [if_neg c_1, if_neg c_4, if_neg c_19, if_neg c_22, if_neg c_25, if_neg c_29, if_pos c_31, if_neg c_33]) dM_wall_97
            · skip
              exact absurd c_28 (by decide)
