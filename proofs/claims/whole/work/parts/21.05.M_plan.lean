def rM_plan (gu : MU) (gv : MV) (r : Int32) (h_ : Int32) (what : Int32) (v : Int32) : Int32 := if (rM_isRoom gu gv r) = 0 then 0 else (if (rM_in h_ 0 23) = 0 then 0 else (if what = 0 then (if (rM_in v 0 100) = 0 then (if what = 1 then (if v = (-1000000) then (if what = 2 then (m_persons gu) ((24 * r + h_).toNatClampNeg) else (m_persons gu) ((24 * r + h_).toNatClampNeg)) else (if (rM_isWarmth v) = 0 then 0 else (if what = 2 then (m_persons gu) ((24 * r + h_).toNatClampNeg) else (m_persons gu) ((24 * r + h_).toNatClampNeg)))) else (if what = 2 then (if v = (-1000000) then (m_persons gu) ((24 * r + h_).toNatClampNeg) else (if (rM_isWarmth v) = 0 then 0 else (m_persons gu) ((24 * r + h_).toNatClampNeg))) else 0)) else (if what = 1 then (if what = 2 then (m_persons gu) ((24 * r + h_).toNatClampNeg) else (m_persons gu) ((24 * r + h_).toNatClampNeg)) else (if what = 2 then (m_persons gu) ((24 * r + h_).toNatClampNeg) else (m_persons gu) ((24 * r + h_).toNatClampNeg)))) else (if what = 1 then (if v = (-1000000) then (if what = 2 then (m_set gu) ((24 * r + h_).toNatClampNeg) else (m_set gu) ((24 * r + h_).toNatClampNeg)) else (if (rM_isWarmth v) = 0 then 0 else (if what = 2 then (m_set gu) ((24 * r + h_).toNatClampNeg) else (m_set gu) ((24 * r + h_).toNatClampNeg)))) else (if what = 2 then (if v = (-1000000) then (m_cool gu) ((24 * r + h_).toNatClampNeg) else (if (rM_isWarmth v) = 0 then 0 else (m_cool gu) ((24 * r + h_).toNatClampNeg))) else 0))))
noncomputable def sguM_plan (gu : MU) (gv : MV) (r : Int32) (h_ : Int32) (what : Int32) (v : Int32) : MU := if (rM_isRoom gu gv r) = 0 then (1, (m_rooms gu), (m_store gu), (m_mostHeating gu), (m_mostCooling gu), (m_began gu), (m_walls gu), (m_wallRoom gu), (m_wallOther gu), (m_leads gu), (m_windows gu), (m_windowRoom gu), (m_windowSide gu), (m_windowArea gu), (m_windowLimit gu), (m_outside gu), (m_sun gu), (m_persons gu), (m_set gu), (m_cool gu), (m_low gu), (m_high gu)) else (if (rM_in h_ 0 23) = 0 then (1, (m_rooms gu), (m_store gu), (m_mostHeating gu), (m_mostCooling gu), (m_began gu), (m_walls gu), (m_wallRoom gu), (m_wallOther gu), (m_leads gu), (m_windows gu), (m_windowRoom gu), (m_windowSide gu), (m_windowArea gu), (m_windowLimit gu), (m_outside gu), (m_sun gu), (m_persons gu), (m_set gu), (m_cool gu), (m_low gu), (m_high gu)) else (if what = 0 then (if (rM_in v 0 100) = 0 then (if what = 1 then (if v = (-1000000) then (if what = 2 then (0, (m_rooms gu), (m_store gu), (m_mostHeating gu), (m_mostCooling gu), (m_began gu), (m_walls gu), (m_wallRoom gu), (m_wallOther gu), (m_leads gu), (m_windows gu), (m_windowRoom gu), (m_windowSide gu), (m_windowArea gu), (m_windowLimit gu), (m_outside gu), (m_sun gu), (upd (m_persons gu) ((24 * r + h_).toNatClampNeg) v), (upd (m_set gu) ((24 * r + h_).toNatClampNeg) v), (upd (m_cool gu) ((24 * r + h_).toNatClampNeg) v), (m_low gu), (m_high gu)) else (0, (m_rooms gu), (m_store gu), (m_mostHeating gu), (m_mostCooling gu), (m_began gu), (m_walls gu), (m_wallRoom gu), (m_wallOther gu), (m_leads gu), (m_windows gu), (m_windowRoom gu), (m_windowSide gu), (m_windowArea gu), (m_windowLimit gu), (m_outside gu), (m_sun gu), (upd (m_persons gu) ((24 * r + h_).toNatClampNeg) v), (upd (m_set gu) ((24 * r + h_).toNatClampNeg) v), (upd (m_cool gu) ((24 * r + h_).toNatClampNeg) ((m_cool gu) ((24 * r + h_).toNatClampNeg))), (m_low gu), (m_high gu))) else (if (rM_isWarmth v) = 0 then (1, (m_rooms gu), (m_store gu), (m_mostHeating gu), (m_mostCooling gu), (m_began gu), (m_walls gu), (m_wallRoom gu), (m_wallOther gu), (m_leads gu), (m_windows gu), (m_windowRoom gu), (m_windowSide gu), (m_windowArea gu), (m_windowLimit gu), (m_outside gu), (m_sun gu), (m_persons gu), (m_set gu), (m_cool gu), (m_low gu), (m_high gu)) else (if what = 2 then (0, (m_rooms gu), (m_store gu), (m_mostHeating gu), (m_mostCooling gu), (m_began gu), (m_walls gu), (m_wallRoom gu), (m_wallOther gu), (m_leads gu), (m_windows gu), (m_windowRoom gu), (m_windowSide gu), (m_windowArea gu), (m_windowLimit gu), (m_outside gu), (m_sun gu), (upd (m_persons gu) ((24 * r + h_).toNatClampNeg) v), (upd (m_set gu) ((24 * r + h_).toNatClampNeg) v), (upd (m_cool gu) ((24 * r + h_).toNatClampNeg) v), (m_low gu), (m_high gu)) else (0, (m_rooms gu), (m_store gu), (m_mostHeating gu), (m_mostCooling gu), (m_began gu), (m_walls gu), (m_wallRoom gu), (m_wallOther gu), (m_leads gu), (m_windows gu), (m_windowRoom gu), (m_windowSide gu), (m_windowArea gu), (m_windowLimit gu), (m_outside gu), (m_sun gu), (upd (m_persons gu) ((24 * r + h_).toNatClampNeg) v), (upd (m_set gu) ((24 * r + h_).toNatClampNeg) v), (upd (m_cool gu) ((24 * r + h_).toNatClampNeg) ((m_cool gu) ((24 * r + h_).toNatClampNeg))), (m_low gu), (m_high gu))))) else (if what = 2 then (if v = (-1000000) then (0, (m_rooms gu), (m_store gu), (m_mostHeating gu), (m_mostCooling gu), (m_began gu), (m_walls gu), (m_wallRoom gu), (m_wallOther gu), (m_leads gu), (m_windows gu), (m_windowRoom gu), (m_windowSide gu), (m_windowArea gu), (m_windowLimit gu), (m_outside gu), (m_sun gu), (upd (m_persons gu) ((24 * r + h_).toNatClampNeg) v), (upd (m_set gu) ((24 * r + h_).toNatClampNeg) ((m_set gu) ((24 * r + h_).toNatClampNeg))), (upd (m_cool gu) ((24 * r + h_).toNatClampNeg) v), (m_low gu), (m_high gu)) else (if (rM_isWarmth v) = 0 then (1, (m_rooms gu), (m_store gu), (m_mostHeating gu), (m_mostCooling gu), (m_began gu), (m_walls gu), (m_wallRoom gu), (m_wallOther gu), (m_leads gu), (m_windows gu), (m_windowRoom gu), (m_windowSide gu), (m_windowArea gu), (m_windowLimit gu), (m_outside gu), (m_sun gu), (m_persons gu), (m_set gu), (m_cool gu), (m_low gu), (m_high gu)) else (0, (m_rooms gu), (m_store gu), (m_mostHeating gu), (m_mostCooling gu), (m_began gu), (m_walls gu), (m_wallRoom gu), (m_wallOther gu), (m_leads gu), (m_windows gu), (m_windowRoom gu), (m_windowSide gu), (m_windowArea gu), (m_windowLimit gu), (m_outside gu), (m_sun gu), (upd (m_persons gu) ((24 * r + h_).toNatClampNeg) v), (upd (m_set gu) ((24 * r + h_).toNatClampNeg) ((m_set gu) ((24 * r + h_).toNatClampNeg))), (upd (m_cool gu) ((24 * r + h_).toNatClampNeg) v), (m_low gu), (m_high gu)))) else (1, (m_rooms gu), (m_store gu), (m_mostHeating gu), (m_mostCooling gu), (m_began gu), (m_walls gu), (m_wallRoom gu), (m_wallOther gu), (m_leads gu), (m_windows gu), (m_windowRoom gu), (m_windowSide gu), (m_windowArea gu), (m_windowLimit gu), (m_outside gu), (m_sun gu), (m_persons gu), (m_set gu), (m_cool gu), (m_low gu), (m_high gu)))) else (if what = 1 then (if what = 2 then (0, (m_rooms gu), (m_store gu), (m_mostHeating gu), (m_mostCooling gu), (m_began gu), (m_walls gu), (m_wallRoom gu), (m_wallOther gu), (m_leads gu), (m_windows gu), (m_windowRoom gu), (m_windowSide gu), (m_windowArea gu), (m_windowLimit gu), (m_outside gu), (m_sun gu), (upd (m_persons gu) ((24 * r + h_).toNatClampNeg) v), (upd (m_set gu) ((24 * r + h_).toNatClampNeg) v), (upd (m_cool gu) ((24 * r + h_).toNatClampNeg) v), (m_low gu), (m_high gu)) else (0, (m_rooms gu), (m_store gu), (m_mostHeating gu), (m_mostCooling gu), (m_began gu), (m_walls gu), (m_wallRoom gu), (m_wallOther gu), (m_leads gu), (m_windows gu), (m_windowRoom gu), (m_windowSide gu), (m_windowArea gu), (m_windowLimit gu), (m_outside gu), (m_sun gu), (upd (m_persons gu) ((24 * r + h_).toNatClampNeg) v), (upd (m_set gu) ((24 * r + h_).toNatClampNeg) v), (upd (m_cool gu) ((24 * r + h_).toNatClampNeg) ((m_cool gu) ((24 * r + h_).toNatClampNeg))), (m_low gu), (m_high gu))) else (if what = 2 then (0, (m_rooms gu), (m_store gu), (m_mostHeating gu), (m_mostCooling gu), (m_began gu), (m_walls gu), (m_wallRoom gu), (m_wallOther gu), (m_leads gu), (m_windows gu), (m_windowRoom gu), (m_windowSide gu), (m_windowArea gu), (m_windowLimit gu), (m_outside gu), (m_sun gu), (upd (m_persons gu) ((24 * r + h_).toNatClampNeg) v), (upd (m_set gu) ((24 * r + h_).toNatClampNeg) ((m_set gu) ((24 * r + h_).toNatClampNeg))), (upd (m_cool gu) ((24 * r + h_).toNatClampNeg) v), (m_low gu), (m_high gu)) else (0, (m_rooms gu), (m_store gu), (m_mostHeating gu), (m_mostCooling gu), (m_began gu), (m_walls gu), (m_wallRoom gu), (m_wallOther gu), (m_leads gu), (m_windows gu), (m_windowRoom gu), (m_windowSide gu), (m_windowArea gu), (m_windowLimit gu), (m_outside gu), (m_sun gu), (upd (m_persons gu) ((24 * r + h_).toNatClampNeg) v), (upd (m_set gu) ((24 * r + h_).toNatClampNeg) ((m_set gu) ((24 * r + h_).toNatClampNeg))), (upd (m_cool gu) ((24 * r + h_).toNatClampNeg) ((m_cool gu) ((24 * r + h_).toNatClampNeg))), (m_low gu), (m_high gu))))) else (if what = 1 then (if v = (-1000000) then (if what = 2 then (0, (m_rooms gu), (m_store gu), (m_mostHeating gu), (m_mostCooling gu), (m_began gu), (m_walls gu), (m_wallRoom gu), (m_wallOther gu), (m_leads gu), (m_windows gu), (m_windowRoom gu), (m_windowSide gu), (m_windowArea gu), (m_windowLimit gu), (m_outside gu), (m_sun gu), (upd (m_persons gu) ((24 * r + h_).toNatClampNeg) ((m_persons gu) ((24 * r + h_).toNatClampNeg))), (upd (m_set gu) ((24 * r + h_).toNatClampNeg) v), (upd (m_cool gu) ((24 * r + h_).toNatClampNeg) v), (m_low gu), (m_high gu)) else (0, (m_rooms gu), (m_store gu), (m_mostHeating gu), (m_mostCooling gu), (m_began gu), (m_walls gu), (m_wallRoom gu), (m_wallOther gu), (m_leads gu), (m_windows gu), (m_windowRoom gu), (m_windowSide gu), (m_windowArea gu), (m_windowLimit gu), (m_outside gu), (m_sun gu), (upd (m_persons gu) ((24 * r + h_).toNatClampNeg) ((m_persons gu) ((24 * r + h_).toNatClampNeg))), (upd (m_set gu) ((24 * r + h_).toNatClampNeg) v), (upd (m_cool gu) ((24 * r + h_).toNatClampNeg) ((m_cool gu) ((24 * r + h_).toNatClampNeg))), (m_low gu), (m_high gu))) else (if (rM_isWarmth v) = 0 then (1, (m_rooms gu), (m_store gu), (m_mostHeating gu), (m_mostCooling gu), (m_began gu), (m_walls gu), (m_wallRoom gu), (m_wallOther gu), (m_leads gu), (m_windows gu), (m_windowRoom gu), (m_windowSide gu), (m_windowArea gu), (m_windowLimit gu), (m_outside gu), (m_sun gu), (m_persons gu), (m_set gu), (m_cool gu), (m_low gu), (m_high gu)) else (if what = 2 then (0, (m_rooms gu), (m_store gu), (m_mostHeating gu), (m_mostCooling gu), (m_began gu), (m_walls gu), (m_wallRoom gu), (m_wallOther gu), (m_leads gu), (m_windows gu), (m_windowRoom gu), (m_windowSide gu), (m_windowArea gu), (m_windowLimit gu), (m_outside gu), (m_sun gu), (upd (m_persons gu) ((24 * r + h_).toNatClampNeg) ((m_persons gu) ((24 * r + h_).toNatClampNeg))), (upd (m_set gu) ((24 * r + h_).toNatClampNeg) v), (upd (m_cool gu) ((24 * r + h_).toNatClampNeg) v), (m_low gu), (m_high gu)) else (0, (m_rooms gu), (m_store gu), (m_mostHeating gu), (m_mostCooling gu), (m_began gu), (m_walls gu), (m_wallRoom gu), (m_wallOther gu), (m_leads gu), (m_windows gu), (m_windowRoom gu), (m_windowSide gu), (m_windowArea gu), (m_windowLimit gu), (m_outside gu), (m_sun gu), (upd (m_persons gu) ((24 * r + h_).toNatClampNeg) ((m_persons gu) ((24 * r + h_).toNatClampNeg))), (upd (m_set gu) ((24 * r + h_).toNatClampNeg) v), (upd (m_cool gu) ((24 * r + h_).toNatClampNeg) ((m_cool gu) ((24 * r + h_).toNatClampNeg))), (m_low gu), (m_high gu))))) else (if what = 2 then (if v = (-1000000) then (0, (m_rooms gu), (m_store gu), (m_mostHeating gu), (m_mostCooling gu), (m_began gu), (m_walls gu), (m_wallRoom gu), (m_wallOther gu), (m_leads gu), (m_windows gu), (m_windowRoom gu), (m_windowSide gu), (m_windowArea gu), (m_windowLimit gu), (m_outside gu), (m_sun gu), (upd (m_persons gu) ((24 * r + h_).toNatClampNeg) ((m_persons gu) ((24 * r + h_).toNatClampNeg))), (upd (m_set gu) ((24 * r + h_).toNatClampNeg) ((m_set gu) ((24 * r + h_).toNatClampNeg))), (upd (m_cool gu) ((24 * r + h_).toNatClampNeg) v), (m_low gu), (m_high gu)) else (if (rM_isWarmth v) = 0 then (1, (m_rooms gu), (m_store gu), (m_mostHeating gu), (m_mostCooling gu), (m_began gu), (m_walls gu), (m_wallRoom gu), (m_wallOther gu), (m_leads gu), (m_windows gu), (m_windowRoom gu), (m_windowSide gu), (m_windowArea gu), (m_windowLimit gu), (m_outside gu), (m_sun gu), (m_persons gu), (m_set gu), (m_cool gu), (m_low gu), (m_high gu)) else (0, (m_rooms gu), (m_store gu), (m_mostHeating gu), (m_mostCooling gu), (m_began gu), (m_walls gu), (m_wallRoom gu), (m_wallOther gu), (m_leads gu), (m_windows gu), (m_windowRoom gu), (m_windowSide gu), (m_windowArea gu), (m_windowLimit gu), (m_outside gu), (m_sun gu), (upd (m_persons gu) ((24 * r + h_).toNatClampNeg) ((m_persons gu) ((24 * r + h_).toNatClampNeg))), (upd (m_set gu) ((24 * r + h_).toNatClampNeg) ((m_set gu) ((24 * r + h_).toNatClampNeg))), (upd (m_cool gu) ((24 * r + h_).toNatClampNeg) v), (m_low gu), (m_high gu)))) else (1, (m_rooms gu), (m_store gu), (m_mostHeating gu), (m_mostCooling gu), (m_began gu), (m_walls gu), (m_wallRoom gu), (m_wallOther gu), (m_leads gu), (m_windows gu), (m_windowRoom gu), (m_windowSide gu), (m_windowArea gu), (m_windowLimit gu), (m_outside gu), (m_sun gu), (m_persons gu), (m_set gu), (m_cool gu), (m_low gu), (m_high gu))))))
set_option maxRecDepth 100000 in
set_option maxHeartbeats 4000000 in
theorem cM_plan (l : Launch) (D : va_G) (k : Nat → ClassId) (am : Nat → Nat) (gu : MU) (gv : MV) (r : Int32) (h_ : Int32) (what : Int32) (v : Int32) (hI : mInv gu) : kMi l yM_plan (kwm yM_plan bM_plan 8 (some .int)) ({ frames := 2, cells := 0, slots := 0, locals := 43 }) D kcl (kty k) (wM k am gu gv) (wM k am (sguM_plan gu gv r h_ what v) gv) [.ref (am 0), .int r, .int h_, .int what, .int v] (rM_plan gu gv r h_ what v) := by
  refine k_entry_i (lv0 := [(0, .ref (am 0)), (1, .int r), (2, .int h_), (3, .int what), (4, .int v)]) rfl (by decide +kernel) (Nat.le_of_ble_eq_true rfl) rfl ?_
  intro p e s m args below meth c0 C hr hlocks
  refine kw_aload_n C 0 dM_plan_0 rfl rfl ?_
  refine kw_iload_n C 1 dM_plan_1 rfl rfl ?_
  refine kw_callAi (w1 := (wM k am gu gv)) (st := []) C (cM_isRoom l D k am gu gv r) (cwV 1 C.1.2.2.2.2 (kgV kt_686 kt_688 ks_M_isRoom kt_5 kt_689) rfl rfl rfl kdM_isRoom ⟨Nat.le_of_ble_eq_true rfl, Nat.le_of_ble_eq_true rfl⟩) 0 3 rfl rfl rfl rfl rfl (Nat.le_of_ble_eq_true rfl) dM_plan_2 ⟨Nat.zero_le _, Nat.zero_le _⟩ (ad_wM.trans ad_wM.symm) ?_
  refine kw_if_eq (tgt := 62) C dM_plan_5 (by decide) (fun c_1 => ?_) (fun c_1 => ?_)
  · skip
    refine kw_iconst (v := 0) C dM_plan_62 (by decide) ?_
    refine kw_istore (lv' := [(5, .int 0), (0, .ref (am 0)), (1, .int r), (2, .int h_), (3, .int what), (4, .int v)]) C dM_plan_63 (by decide) rfl ?_
    refine kw_aload_n C 1 dM_plan_65 rfl rfl ?_
    refine kw_iload C 0 dM_plan_66 rfl ?_
    refine kw_if_eq (tgt := 75) C dM_plan_68 (by decide) (fun c_2 => ?_) (fun c_2 => ?_)
    · skip
      refine kw_iconst (v := 1) C dM_plan_75 (by decide) ?_
      refine kw_put C 0 rfl rfl ku_M tM_ok nM 0 (by decide) kt_556 rfl (ty := .int) (by decide +kernel) rfl rfl (Nat.le_of_ble_eq_true rfl) dM_plan_76 (wM_gu k am 1 (m_rooms gu) (m_store gu) (m_mostHeating gu) (m_mostCooling gu) (m_began gu) (m_walls gu) (m_wallRoom gu) (m_wallOther gu) (m_leads gu) (m_windows gu) (m_windowRoom gu) (m_windowSide gu) (m_windowArea gu) (m_windowLimit gu) (m_outside gu) (m_sun gu) (m_persons gu) (m_set gu) (m_cool gu) (m_low gu) (m_high gu) gv) rfl ?_
      refine kw_aload_n C 1 dM_plan_79 rfl rfl ?_
      refine kw_get (v := .int 1) C 0 rfl rfl ku_M 0 (by decide) kt_556 rfl dM_plan_80 ?_
      refine kw_if_le (tgt := 88) C dM_plan_83 (by decide) (fun c_3 => ?_) (fun c_3 => ?_)
      · skip
        exact absurd c_3 (by decide)
      · skip
        refine kw_iconst (v := 0) C dM_plan_86 (by decide) ?_
        refine kw_eq rfl rfl (mk_wM_gu.trans (congrArg (fun z90 => wM k am z90 gv) (show (1, (m_rooms gu), (m_store gu), (m_mostHeating gu), (m_mostCooling gu), (m_began gu), (m_walls gu), (m_wallRoom gu), (m_wallOther gu), (m_leads gu), (m_windows gu), (m_windowRoom gu), (m_windowSide gu), (m_windowArea gu), (m_windowLimit gu), (m_outside gu), (m_sun gu), (m_persons gu), (m_set gu), (m_cool gu), (m_low gu), (m_high gu)) = sguM_plan gu gv r h_ what v from by unfold sguM_plan; rw [if_pos c_1]))) ?_
        exact kw_iret C hr hlocks (by unfold rM_plan; rw [if_pos c_1]) dM_plan_87
    · skip
      exact absurd (by decide) c_2
  · skip
    refine kw_iload_n C 2 dM_plan_8 rfl rfl ?_
    refine kw_iconst (v := 0) C dM_plan_9 (by decide) ?_
    refine kw_bipush (v := 23) C dM_plan_10 (by decide) ?_
    refine kw_callSi (st := []) C (cM_in l D k h_ 0 23) (va_cwS 3 C.1.2.2.2.2 (kgO kt_676 kt_677 kt_5 kt_678) rfl rfl rfl kdM_in ⟨Nat.le_of_ble_eq_true rfl, Nat.le_of_ble_eq_true rfl⟩) [] rfl rfl rfl rfl (Nat.le_of_ble_eq_true rfl) dM_plan_12 ⟨Nat.zero_le _, Nat.zero_le _⟩ rfl (wM k am gu gv) rfl ?_
    refine kw_if_eq (tgt := 62) C dM_plan_15 (by decide) (fun c_4 => ?_) (fun c_4 => ?_)
    · skip
      refine kw_iconst (v := 0) C dM_plan_62 (by decide) ?_
      refine kw_istore (lv' := [(5, .int 0), (0, .ref (am 0)), (1, .int r), (2, .int h_), (3, .int what), (4, .int v)]) C dM_plan_63 (by decide) rfl ?_
      refine kw_aload_n C 1 dM_plan_65 rfl rfl ?_
      refine kw_iload C 0 dM_plan_66 rfl ?_
      refine kw_if_eq (tgt := 75) C dM_plan_68 (by decide) (fun c_5 => ?_) (fun c_5 => ?_)
      · skip
        refine kw_iconst (v := 1) C dM_plan_75 (by decide) ?_
        refine kw_put C 0 rfl rfl ku_M tM_ok nM 0 (by decide) kt_556 rfl (ty := .int) (by decide +kernel) rfl rfl (Nat.le_of_ble_eq_true rfl) dM_plan_76 (wM_gu k am 1 (m_rooms gu) (m_store gu) (m_mostHeating gu) (m_mostCooling gu) (m_began gu) (m_walls gu) (m_wallRoom gu) (m_wallOther gu) (m_leads gu) (m_windows gu) (m_windowRoom gu) (m_windowSide gu) (m_windowArea gu) (m_windowLimit gu) (m_outside gu) (m_sun gu) (m_persons gu) (m_set gu) (m_cool gu) (m_low gu) (m_high gu) gv) rfl ?_
        refine kw_aload_n C 1 dM_plan_79 rfl rfl ?_
        refine kw_get (v := .int 1) C 0 rfl rfl ku_M 0 (by decide) kt_556 rfl dM_plan_80 ?_
        refine kw_if_le (tgt := 88) C dM_plan_83 (by decide) (fun c_6 => ?_) (fun c_6 => ?_)
        · skip
          exact absurd c_6 (by decide)
        · skip
          refine kw_iconst (v := 0) C dM_plan_86 (by decide) ?_
          refine kw_eq rfl rfl (mk_wM_gu.trans (congrArg (fun z90 => wM k am z90 gv) (show (1, (m_rooms gu), (m_store gu), (m_mostHeating gu), (m_mostCooling gu), (m_began gu), (m_walls gu), (m_wallRoom gu), (m_wallOther gu), (m_leads gu), (m_windows gu), (m_windowRoom gu), (m_windowSide gu), (m_windowArea gu), (m_windowLimit gu), (m_outside gu), (m_sun gu), (m_persons gu), (m_set gu), (m_cool gu), (m_low gu), (m_high gu)) = sguM_plan gu gv r h_ what v from by unfold sguM_plan; rw [if_neg c_1, if_pos c_4]))) ?_
          exact kw_iret C hr hlocks (by unfold rM_plan; rw [if_neg c_1, if_pos c_4]) dM_plan_87
      · skip
        exact absurd (by decide) c_5
    · skip
      refine kw_iload_n C 3 dM_plan_18 rfl rfl ?_
      refine kw_if_ne (tgt := 33) C dM_plan_19 (by decide) (fun c_7 => ?_) (fun c_7 => ?_)
      · skip
        refine kw_iload_n C 3 dM_plan_33 rfl rfl ?_
        refine kw_iconst (v := 1) C dM_plan_34 (by decide) ?_
        refine kw_icmp_eq (tgt := 43) C dM_plan_35 (by decide) (fun c_8 => ?_) (fun c_8 => ?_)
        · skip
          refine kw_iload C 4 dM_plan_43 rfl ?_
          refine kw_ldc (v := -1000000) C kt_555 dM_plan_45 ?_
          refine kw_icmp_eq (tgt := 58) C dM_plan_47 (by decide) (fun c_9 => ?_) (fun c_9 => ?_)
          · skip
            refine kw_iconst (v := 1) C dM_plan_58 (by decide) ?_
            refine kw_goto (tgt := 63) C dM_plan_59 (by decide) ?_
            refine kw_istore (lv' := [(5, .int 1), (0, .ref (am 0)), (1, .int r), (2, .int h_), (3, .int what), (4, .int v)]) C dM_plan_63 (by decide) rfl ?_
            refine kw_aload_n C 1 dM_plan_65 rfl rfl ?_
            refine kw_iload C 0 dM_plan_66 rfl ?_
            refine kw_if_eq (tgt := 75) C dM_plan_68 (by decide) (fun c_10 => ?_) (fun c_10 => ?_)
            · skip
              exact absurd c_10 (by decide)
            · skip
              refine kw_iconst (v := 0) C dM_plan_71 (by decide) ?_
              refine kw_goto (tgt := 76) C dM_plan_72 (by decide) ?_
              refine kw_put C 0 rfl rfl ku_M tM_ok nM 0 (by decide) kt_556 rfl (ty := .int) (by decide +kernel) rfl rfl (Nat.le_of_ble_eq_true rfl) dM_plan_76 (wM_gu k am 0 (m_rooms gu) (m_store gu) (m_mostHeating gu) (m_mostCooling gu) (m_began gu) (m_walls gu) (m_wallRoom gu) (m_wallOther gu) (m_leads gu) (m_windows gu) (m_windowRoom gu) (m_windowSide gu) (m_windowArea gu) (m_windowLimit gu) (m_outside gu) (m_sun gu) (m_persons gu) (m_set gu) (m_cool gu) (m_low gu) (m_high gu) gv) rfl ?_
              refine kw_aload_n C 1 dM_plan_79 rfl rfl ?_
              refine kw_get (v := .int 0) C 0 rfl rfl ku_M 0 (by decide) kt_556 rfl dM_plan_80 ?_
              refine kw_if_le (tgt := 88) C dM_plan_83 (by decide) (fun c_11 => ?_) (fun c_11 => ?_)
              · skip
                refine kw_bipush (v := 24) C dM_plan_88 (by decide) ?_
                refine kw_iload_n C 2 dM_plan_90 rfl rfl ?_
                refine kw_imul C dM_plan_91 ?_
                refine kw_iload_n C 3 dM_plan_92 rfl rfl ?_
                refine kw_iadd C dM_plan_93 ?_
                refine kw_istore (lv' := [(6, .int ((24 * r) + h_)), (5, .int 1), (0, .ref (am 0)), (1, .int r), (2, .int h_), (3, .int what), (4, .int v)]) C dM_plan_94 (by decide) rfl ?_
                refine kw_iload_n C 5 dM_plan_96 rfl rfl ?_
                refine kw_if_ne (tgt := 110) C dM_plan_97 (by decide) (fun c_12 => ?_) (fun c_12 => ?_)
                · skip
                  refine kw_iload_n C 5 dM_plan_110 rfl rfl ?_
                  refine kw_iconst (v := 1) C dM_plan_111 (by decide) ?_
                  refine kw_icmp_ne (tgt := 125) C dM_plan_112 (by decide) (fun c_13 => ?_) (fun c_13 => ?_)
                  · skip
                    exact absurd c_8 c_13
                  · skip
                    refine kw_aload_n C 2 dM_plan_115 rfl rfl ?_
                    refine kw_get (v := .ref (am 19)) C 0 rfl rfl ku_M 23 (by decide) kt_579 rfl dM_plan_116 ?_
                    refine kw_iload C 0 dM_plan_119 rfl ?_
                    refine kw_iald C 19 0 rfl rfl (kix_of (kplanM (kin_le (kroomM hI c_1) hI.1.2) (krin (N := 24) rfl (by decide) c_4))) dM_plan_121 ?_
                    refine kw_goto (tgt := 132) C dM_plan_122 (by decide) ?_
                    refine kw_istore (lv' := [(7, .int ((m_set gu) ((24 * r + h_).toNatClampNeg))), (6, .int ((24 * r) + h_)), (5, .int 1), (0, .ref (am 0)), (1, .int r), (2, .int h_), (3, .int what), (4, .int v)]) C dM_plan_132 (by decide) rfl ?_
                    refine kw_aload_n C 3 dM_plan_134 rfl rfl ?_
                    refine kw_get (v := .ref (am 18)) C 0 rfl rfl ku_M 22 (by decide) kt_578 rfl dM_plan_135 ?_
                    refine kw_iload C 1 dM_plan_138 rfl ?_
                    refine kw_iload_n C 6 dM_plan_140 rfl rfl ?_
                    refine kw_if_ne (tgt := 149) C dM_plan_141 (by decide) (fun c_14 => ?_) (fun c_14 => ?_)
                    · skip
                      refine kw_aload_n C 3 dM_plan_149 rfl rfl ?_
                      refine kw_get (v := .ref (am 18)) C 0 rfl rfl ku_M 22 (by decide) kt_578 rfl dM_plan_150 ?_
                      refine kw_iload C 1 dM_plan_153 rfl ?_
                      refine kw_iald C 18 0 rfl rfl (kix_of (kplanM (kin_le (kroomM hI c_1) hI.1.2) (krin (N := 24) rfl (by decide) c_4))) dM_plan_155 ?_
                      refine kw_iast C 18 0 rfl rfl (kix_of (kplanM (kin_le (kroomM hI c_1) hI.1.2) (krin (N := 24) rfl (by decide) c_4))) dM_plan_156 (wM_gu k am 0 (m_rooms gu) (m_store gu) (m_mostHeating gu) (m_mostCooling gu) (m_began gu) (m_walls gu) (m_wallRoom gu) (m_wallOther gu) (m_leads gu) (m_windows gu) (m_windowRoom gu) (m_windowSide gu) (m_windowArea gu) (m_windowLimit gu) (m_outside gu) (m_sun gu) (upd (m_persons gu) ((24 * r + h_).toNatClampNeg) ((m_persons gu) ((24 * r + h_).toNatClampNeg))) (m_set gu) (m_cool gu) (m_low gu) (m_high gu) gv) rfl ?_
                      refine kw_aload_n C 3 dM_plan_157 rfl rfl ?_
                      refine kw_get (v := .ref (am 19)) C 0 rfl rfl ku_M 23 (by decide) kt_579 rfl dM_plan_158 ?_
                      refine kw_iload C 1 dM_plan_161 rfl ?_
                      refine kw_iload_n C 6 dM_plan_163 rfl rfl ?_
                      refine kw_iconst (v := 1) C dM_plan_164 (by decide) ?_
                      refine kw_icmp_ne (tgt := 173) C dM_plan_165 (by decide) (fun c_15 => ?_) (fun c_15 => ?_)
                      · skip
                        exact absurd c_8 c_15
                      · skip
                        refine kw_iload C 7 dM_plan_168 rfl ?_
                        refine kw_goto (tgt := 180) C dM_plan_170 (by decide) ?_
                        refine kw_iast C 19 0 rfl rfl (kix_of (kplanM (kin_le (kroomM hI c_1) hI.1.2) (krin (N := 24) rfl (by decide) c_4))) dM_plan_180 (wM_gu k am 0 (m_rooms gu) (m_store gu) (m_mostHeating gu) (m_mostCooling gu) (m_began gu) (m_walls gu) (m_wallRoom gu) (m_wallOther gu) (m_leads gu) (m_windows gu) (m_windowRoom gu) (m_windowSide gu) (m_windowArea gu) (m_windowLimit gu) (m_outside gu) (m_sun gu) (upd (m_persons gu) ((24 * r + h_).toNatClampNeg) ((m_persons gu) ((24 * r + h_).toNatClampNeg))) (upd (m_set gu) ((24 * r + h_).toNatClampNeg) v) (m_cool gu) (m_low gu) (m_high gu) gv) rfl ?_
                        refine kw_aload_n C 3 dM_plan_181 rfl rfl ?_
                        refine kw_get (v := .ref (am 20)) C 0 rfl rfl ku_M 24 (by decide) kt_580 rfl dM_plan_182 ?_
                        refine kw_iload C 1 dM_plan_185 rfl ?_
                        refine kw_iload_n C 6 dM_plan_187 rfl rfl ?_
                        refine kw_iconst (v := 2) C dM_plan_188 (by decide) ?_
                        refine kw_icmp_ne (tgt := 197) C dM_plan_189 (by decide) (fun c_16 => ?_) (fun c_16 => ?_)
                        · skip
                          refine kw_aload_n C 3 dM_plan_197 rfl rfl ?_
                          refine kw_get (v := .ref (am 20)) C 0 rfl rfl ku_M 24 (by decide) kt_580 rfl dM_plan_198 ?_
                          refine kw_iload C 1 dM_plan_201 rfl ?_
                          refine kw_iald C 20 0 rfl rfl (kix_of (kplanM (kin_le (kroomM hI c_1) hI.1.2) (krin (N := 24) rfl (by decide) c_4))) dM_plan_203 ?_
                          refine kw_iast C 20 0 rfl rfl (kix_of (kplanM (kin_le (kroomM hI c_1) hI.1.2) (krin (N := 24) rfl (by decide) c_4))) dM_plan_204 (wM_gu k am 0 (m_rooms gu) (m_store gu) (m_mostHeating gu) (m_mostCooling gu) (m_began gu) (m_walls gu) (m_wallRoom gu) (m_wallOther gu) (m_leads gu) (m_windows gu) (m_windowRoom gu) (m_windowSide gu) (m_windowArea gu) (m_windowLimit gu) (m_outside gu) (m_sun gu) (upd (m_persons gu) ((24 * r + h_).toNatClampNeg) ((m_persons gu) ((24 * r + h_).toNatClampNeg))) (upd (m_set gu) ((24 * r + h_).toNatClampNeg) v) (upd (m_cool gu) ((24 * r + h_).toNatClampNeg) ((m_cool gu) ((24 * r + h_).toNatClampNeg))) (m_low gu) (m_high gu) gv) rfl ?_
                          refine kw_iload C 0 dM_plan_205 rfl ?_
                          refine kw_eq rfl rfl (mk_wM_gu.trans (congrArg (fun z90 => wM k am z90 gv) (show (0, (m_rooms gu), (m_store gu), (m_mostHeating gu), (m_mostCooling gu), (m_began gu), (m_walls gu), (m_wallRoom gu), (m_wallOther gu), (m_leads gu), (m_windows gu), (m_windowRoom gu), (m_windowSide gu), (m_windowArea gu), (m_windowLimit gu), (m_outside gu), (m_sun gu), (upd (m_persons gu) ((24 * r + h_).toNatClampNeg) ((m_persons gu) ((24 * r + h_).toNatClampNeg))), (upd (m_set gu) ((24 * r + h_).toNatClampNeg) v), (upd (m_cool gu) ((24 * r + h_).toNatClampNeg) ((m_cool gu) ((24 * r + h_).toNatClampNeg))), (m_low gu), (m_high gu)) = sguM_plan gu gv r h_ what v from by unfold sguM_plan; rw [if_neg c_1, if_neg c_4, if_neg c_7, if_pos c_8, if_pos c_9, if_neg c_16]))) ?_
                          exact kw_iret C hr hlocks (by unfold rM_plan; rw [if_neg c_1, if_neg c_4, if_neg c_7, if_pos c_8, if_pos c_9, if_neg c_16]) dM_plan_207
                        · skip
                          refine kw_iload C 7 dM_plan_192 rfl ?_
                          refine kw_goto (tgt := 204) C dM_plan_194 (by decide) ?_
                          refine kw_iast C 20 0 rfl rfl (kix_of (kplanM (kin_le (kroomM hI c_1) hI.1.2) (krin (N := 24) rfl (by decide) c_4))) dM_plan_204 (wM_gu k am 0 (m_rooms gu) (m_store gu) (m_mostHeating gu) (m_mostCooling gu) (m_began gu) (m_walls gu) (m_wallRoom gu) (m_wallOther gu) (m_leads gu) (m_windows gu) (m_windowRoom gu) (m_windowSide gu) (m_windowArea gu) (m_windowLimit gu) (m_outside gu) (m_sun gu) (upd (m_persons gu) ((24 * r + h_).toNatClampNeg) ((m_persons gu) ((24 * r + h_).toNatClampNeg))) (upd (m_set gu) ((24 * r + h_).toNatClampNeg) v) (upd (m_cool gu) ((24 * r + h_).toNatClampNeg) v) (m_low gu) (m_high gu) gv) rfl ?_
                          refine kw_iload C 0 dM_plan_205 rfl ?_
                          refine kw_eq rfl rfl (mk_wM_gu.trans (congrArg (fun z90 => wM k am z90 gv) (show (0, (m_rooms gu), (m_store gu), (m_mostHeating gu), (m_mostCooling gu), (m_began gu), (m_walls gu), (m_wallRoom gu), (m_wallOther gu), (m_leads gu), (m_windows gu), (m_windowRoom gu), (m_windowSide gu), (m_windowArea gu), (m_windowLimit gu), (m_outside gu), (m_sun gu), (upd (m_persons gu) ((24 * r + h_).toNatClampNeg) ((m_persons gu) ((24 * r + h_).toNatClampNeg))), (upd (m_set gu) ((24 * r + h_).toNatClampNeg) v), (upd (m_cool gu) ((24 * r + h_).toNatClampNeg) v), (m_low gu), (m_high gu)) = sguM_plan gu gv r h_ what v from by unfold sguM_plan; rw [if_neg c_1, if_neg c_4, if_neg c_7, if_pos c_8, if_pos c_9, if_pos c_16]))) ?_
                          exact kw_iret C hr hlocks (by unfold rM_plan; rw [if_neg c_1, if_neg c_4, if_neg c_7, if_pos c_8, if_pos c_9, if_pos c_16]) dM_plan_207
                    · skip
                      exact absurd c_14 c_7
                · skip
                  exact absurd c_12 c_7
              · skip
                exact absurd (by decide) c_11
          · skip
            refine kw_iload C 4 dM_plan_50 rfl ?_
            refine kw_callSi (st := []) C (cM_isWarmth l D k v) (va_cwS 1 C.1.2.2.2.2 (kgO kt_679 kt_680 kt_5 kt_681) rfl rfl rfl kdM_isWarmth ⟨Nat.le_of_ble_eq_true rfl, Nat.le_of_ble_eq_true rfl⟩) [] rfl rfl rfl rfl (Nat.le_of_ble_eq_true rfl) dM_plan_52 ⟨Nat.zero_le _, Nat.zero_le _⟩ rfl (wM k am gu gv) rfl ?_
            refine kw_if_eq (tgt := 62) C dM_plan_55 (by decide) (fun c_17 => ?_) (fun c_17 => ?_)
            · skip
              refine kw_iconst (v := 0) C dM_plan_62 (by decide) ?_
              refine kw_istore (lv' := [(5, .int 0), (0, .ref (am 0)), (1, .int r), (2, .int h_), (3, .int what), (4, .int v)]) C dM_plan_63 (by decide) rfl ?_
              refine kw_aload_n C 1 dM_plan_65 rfl rfl ?_
              refine kw_iload C 0 dM_plan_66 rfl ?_
              refine kw_if_eq (tgt := 75) C dM_plan_68 (by decide) (fun c_18 => ?_) (fun c_18 => ?_)
              · skip
                refine kw_iconst (v := 1) C dM_plan_75 (by decide) ?_
                refine kw_put C 0 rfl rfl ku_M tM_ok nM 0 (by decide) kt_556 rfl (ty := .int) (by decide +kernel) rfl rfl (Nat.le_of_ble_eq_true rfl) dM_plan_76 (wM_gu k am 1 (m_rooms gu) (m_store gu) (m_mostHeating gu) (m_mostCooling gu) (m_began gu) (m_walls gu) (m_wallRoom gu) (m_wallOther gu) (m_leads gu) (m_windows gu) (m_windowRoom gu) (m_windowSide gu) (m_windowArea gu) (m_windowLimit gu) (m_outside gu) (m_sun gu) (m_persons gu) (m_set gu) (m_cool gu) (m_low gu) (m_high gu) gv) rfl ?_
                refine kw_aload_n C 1 dM_plan_79 rfl rfl ?_
                refine kw_get (v := .int 1) C 0 rfl rfl ku_M 0 (by decide) kt_556 rfl dM_plan_80 ?_
                refine kw_if_le (tgt := 88) C dM_plan_83 (by decide) (fun c_19 => ?_) (fun c_19 => ?_)
                · skip
                  exact absurd c_19 (by decide)
                · skip
                  refine kw_iconst (v := 0) C dM_plan_86 (by decide) ?_
                  refine kw_eq rfl rfl (mk_wM_gu.trans (congrArg (fun z90 => wM k am z90 gv) (show (1, (m_rooms gu), (m_store gu), (m_mostHeating gu), (m_mostCooling gu), (m_began gu), (m_walls gu), (m_wallRoom gu), (m_wallOther gu), (m_leads gu), (m_windows gu), (m_windowRoom gu), (m_windowSide gu), (m_windowArea gu), (m_windowLimit gu), (m_outside gu), (m_sun gu), (m_persons gu), (m_set gu), (m_cool gu), (m_low gu), (m_high gu)) = sguM_plan gu gv r h_ what v from by unfold sguM_plan; rw [if_neg c_1, if_neg c_4, if_neg c_7, if_pos c_8, if_neg c_9, if_pos c_17]))) ?_
                  exact kw_iret C hr hlocks (by unfold rM_plan; rw [if_neg c_1, if_neg c_4, if_neg c_7, if_pos c_8, if_neg c_9, if_pos c_17]) dM_plan_87
              · skip
                exact absurd (by decide) c_18
            · skip
              refine kw_iconst (v := 1) C dM_plan_58 (by decide) ?_
              refine kw_goto (tgt := 63) C dM_plan_59 (by decide) ?_
              refine kw_istore (lv' := [(5, .int 1), (0, .ref (am 0)), (1, .int r), (2, .int h_), (3, .int what), (4, .int v)]) C dM_plan_63 (by decide) rfl ?_
              refine kw_aload_n C 1 dM_plan_65 rfl rfl ?_
              refine kw_iload C 0 dM_plan_66 rfl ?_
              refine kw_if_eq (tgt := 75) C dM_plan_68 (by decide) (fun c_20 => ?_) (fun c_20 => ?_)
              · skip
                exact absurd c_20 (by decide)
              · skip
                refine kw_iconst (v := 0) C dM_plan_71 (by decide) ?_
                refine kw_goto (tgt := 76) C dM_plan_72 (by decide) ?_
                refine kw_put C 0 rfl rfl ku_M tM_ok nM 0 (by decide) kt_556 rfl (ty := .int) (by decide +kernel) rfl rfl (Nat.le_of_ble_eq_true rfl) dM_plan_76 (wM_gu k am 0 (m_rooms gu) (m_store gu) (m_mostHeating gu) (m_mostCooling gu) (m_began gu) (m_walls gu) (m_wallRoom gu) (m_wallOther gu) (m_leads gu) (m_windows gu) (m_windowRoom gu) (m_windowSide gu) (m_windowArea gu) (m_windowLimit gu) (m_outside gu) (m_sun gu) (m_persons gu) (m_set gu) (m_cool gu) (m_low gu) (m_high gu) gv) rfl ?_
                refine kw_aload_n C 1 dM_plan_79 rfl rfl ?_
                refine kw_get (v := .int 0) C 0 rfl rfl ku_M 0 (by decide) kt_556 rfl dM_plan_80 ?_
                refine kw_if_le (tgt := 88) C dM_plan_83 (by decide) (fun c_21 => ?_) (fun c_21 => ?_)
                · skip
                  refine kw_bipush (v := 24) C dM_plan_88 (by decide) ?_
                  refine kw_iload_n C 2 dM_plan_90 rfl rfl ?_
                  refine kw_imul C dM_plan_91 ?_
                  refine kw_iload_n C 3 dM_plan_92 rfl rfl ?_
                  refine kw_iadd C dM_plan_93 ?_
                  refine kw_istore (lv' := [(6, .int ((24 * r) + h_)), (5, .int 1), (0, .ref (am 0)), (1, .int r), (2, .int h_), (3, .int what), (4, .int v)]) C dM_plan_94 (by decide) rfl ?_
                  refine kw_iload_n C 5 dM_plan_96 rfl rfl ?_
                  refine kw_if_ne (tgt := 110) C dM_plan_97 (by decide) (fun c_22 => ?_) (fun c_22 => ?_)
                  · skip
                    refine kw_iload_n C 5 dM_plan_110 rfl rfl ?_
                    refine kw_iconst (v := 1) C dM_plan_111 (by decide) ?_
                    refine kw_icmp_ne (tgt := 125) C dM_plan_112 (by decide) (fun c_23 => ?_) (fun c_23 => ?_)
                    · skip
                      exact absurd c_8 c_23
                    · skip
                      refine kw_aload_n C 2 dM_plan_115 rfl rfl ?_
                      refine kw_get (v := .ref (am 19)) C 0 rfl rfl ku_M 23 (by decide) kt_579 rfl dM_plan_116 ?_
                      refine kw_iload C 0 dM_plan_119 rfl ?_
                      refine kw_iald C 19 0 rfl rfl (kix_of (kplanM (kin_le (kroomM hI c_1) hI.1.2) (krin (N := 24) rfl (by decide) c_4))) dM_plan_121 ?_
                      refine kw_goto (tgt := 132) C dM_plan_122 (by decide) ?_
                      refine kw_istore (lv' := [(7, .int ((m_set gu) ((24 * r + h_).toNatClampNeg))), (6, .int ((24 * r) + h_)), (5, .int 1), (0, .ref (am 0)), (1, .int r), (2, .int h_), (3, .int what), (4, .int v)]) C dM_plan_132 (by decide) rfl ?_
                      refine kw_aload_n C 3 dM_plan_134 rfl rfl ?_
                      refine kw_get (v := .ref (am 18)) C 0 rfl rfl ku_M 22 (by decide) kt_578 rfl dM_plan_135 ?_
                      refine kw_iload C 1 dM_plan_138 rfl ?_
                      refine kw_iload_n C 6 dM_plan_140 rfl rfl ?_
                      refine kw_if_ne (tgt := 149) C dM_plan_141 (by decide) (fun c_24 => ?_) (fun c_24 => ?_)
                      · skip
                        refine kw_aload_n C 3 dM_plan_149 rfl rfl ?_
                        refine kw_get (v := .ref (am 18)) C 0 rfl rfl ku_M 22 (by decide) kt_578 rfl dM_plan_150 ?_
                        refine kw_iload C 1 dM_plan_153 rfl ?_
                        refine kw_iald C 18 0 rfl rfl (kix_of (kplanM (kin_le (kroomM hI c_1) hI.1.2) (krin (N := 24) rfl (by decide) c_4))) dM_plan_155 ?_
                        refine kw_iast C 18 0 rfl rfl (kix_of (kplanM (kin_le (kroomM hI c_1) hI.1.2) (krin (N := 24) rfl (by decide) c_4))) dM_plan_156 (wM_gu k am 0 (m_rooms gu) (m_store gu) (m_mostHeating gu) (m_mostCooling gu) (m_began gu) (m_walls gu) (m_wallRoom gu) (m_wallOther gu) (m_leads gu) (m_windows gu) (m_windowRoom gu) (m_windowSide gu) (m_windowArea gu) (m_windowLimit gu) (m_outside gu) (m_sun gu) (upd (m_persons gu) ((24 * r + h_).toNatClampNeg) ((m_persons gu) ((24 * r + h_).toNatClampNeg))) (m_set gu) (m_cool gu) (m_low gu) (m_high gu) gv) rfl ?_
                        refine kw_aload_n C 3 dM_plan_157 rfl rfl ?_
                        refine kw_get (v := .ref (am 19)) C 0 rfl rfl ku_M 23 (by decide) kt_579 rfl dM_plan_158 ?_
                        refine kw_iload C 1 dM_plan_161 rfl ?_
                        refine kw_iload_n C 6 dM_plan_163 rfl rfl ?_
                        refine kw_iconst (v := 1) C dM_plan_164 (by decide) ?_
                        refine kw_icmp_ne (tgt := 173) C dM_plan_165 (by decide) (fun c_25 => ?_) (fun c_25 => ?_)
                        · skip
                          exact absurd c_8 c_25
                        · skip
                          refine kw_iload C 7 dM_plan_168 rfl ?_
                          refine kw_goto (tgt := 180) C dM_plan_170 (by decide) ?_
                          refine kw_iast C 19 0 rfl rfl (kix_of (kplanM (kin_le (kroomM hI c_1) hI.1.2) (krin (N := 24) rfl (by decide) c_4))) dM_plan_180 (wM_gu k am 0 (m_rooms gu) (m_store gu) (m_mostHeating gu) (m_mostCooling gu) (m_began gu) (m_walls gu) (m_wallRoom gu) (m_wallOther gu) (m_leads gu) (m_windows gu) (m_windowRoom gu) (m_windowSide gu) (m_windowArea gu) (m_windowLimit gu) (m_outside gu) (m_sun gu) (upd (m_persons gu) ((24 * r + h_).toNatClampNeg) ((m_persons gu) ((24 * r + h_).toNatClampNeg))) (upd (m_set gu) ((24 * r + h_).toNatClampNeg) v) (m_cool gu) (m_low gu) (m_high gu) gv) rfl ?_
                          refine kw_aload_n C 3 dM_plan_181 rfl rfl ?_
                          refine kw_get (v := .ref (am 20)) C 0 rfl rfl ku_M 24 (by decide) kt_580 rfl dM_plan_182 ?_
                          refine kw_iload C 1 dM_plan_185 rfl ?_
                          refine kw_iload_n C 6 dM_plan_187 rfl rfl ?_
                          refine kw_iconst (v := 2) C dM_plan_188 (by decide) ?_
                          refine kw_icmp_ne (tgt := 197) C dM_plan_189 (by decide) (fun c_26 => ?_) (fun c_26 => ?_)
                          · skip
                            refine kw_aload_n C 3 dM_plan_197 rfl rfl ?_
                            refine kw_get (v := .ref (am 20)) C 0 rfl rfl ku_M 24 (by decide) kt_580 rfl dM_plan_198 ?_
                            refine kw_iload C 1 dM_plan_201 rfl ?_
                            refine kw_iald C 20 0 rfl rfl (kix_of (kplanM (kin_le (kroomM hI c_1) hI.1.2) (krin (N := 24) rfl (by decide) c_4))) dM_plan_203 ?_
                            refine kw_iast C 20 0 rfl rfl (kix_of (kplanM (kin_le (kroomM hI c_1) hI.1.2) (krin (N := 24) rfl (by decide) c_4))) dM_plan_204 (wM_gu k am 0 (m_rooms gu) (m_store gu) (m_mostHeating gu) (m_mostCooling gu) (m_began gu) (m_walls gu) (m_wallRoom gu) (m_wallOther gu) (m_leads gu) (m_windows gu) (m_windowRoom gu) (m_windowSide gu) (m_windowArea gu) (m_windowLimit gu) (m_outside gu) (m_sun gu) (upd (m_persons gu) ((24 * r + h_).toNatClampNeg) ((m_persons gu) ((24 * r + h_).toNatClampNeg))) (upd (m_set gu) ((24 * r + h_).toNatClampNeg) v) (upd (m_cool gu) ((24 * r + h_).toNatClampNeg) ((m_cool gu) ((24 * r + h_).toNatClampNeg))) (m_low gu) (m_high gu) gv) rfl ?_
                            refine kw_iload C 0 dM_plan_205 rfl ?_
                            refine kw_eq rfl rfl (mk_wM_gu.trans (congrArg (fun z90 => wM k am z90 gv) (show (0, (m_rooms gu), (m_store gu), (m_mostHeating gu), (m_mostCooling gu), (m_began gu), (m_walls gu), (m_wallRoom gu), (m_wallOther gu), (m_leads gu), (m_windows gu), (m_windowRoom gu), (m_windowSide gu), (m_windowArea gu), (m_windowLimit gu), (m_outside gu), (m_sun gu), (upd (m_persons gu) ((24 * r + h_).toNatClampNeg) ((m_persons gu) ((24 * r + h_).toNatClampNeg))), (upd (m_set gu) ((24 * r + h_).toNatClampNeg) v), (upd (m_cool gu) ((24 * r + h_).toNatClampNeg) ((m_cool gu) ((24 * r + h_).toNatClampNeg))), (m_low gu), (m_high gu)) = sguM_plan gu gv r h_ what v from by unfold sguM_plan; rw [if_neg c_1, if_neg c_4, if_neg c_7, if_pos c_8, if_neg c_9, if_neg c_17, if_neg c_26]))) ?_
                            exact kw_iret C hr hlocks (by unfold rM_plan; rw [if_neg c_1, if_neg c_4, if_neg c_7, if_pos c_8, if_neg c_9, if_neg c_17, if_neg c_26]) dM_plan_207
                          · skip
                            refine kw_iload C 7 dM_plan_192 rfl ?_
                            refine kw_goto (tgt := 204) C dM_plan_194 (by decide) ?_
                            refine kw_iast C 20 0 rfl rfl (kix_of (kplanM (kin_le (kroomM hI c_1) hI.1.2) (krin (N := 24) rfl (by decide) c_4))) dM_plan_204 (wM_gu k am 0 (m_rooms gu) (m_store gu) (m_mostHeating gu) (m_mostCooling gu) (m_began gu) (m_walls gu) (m_wallRoom gu) (m_wallOther gu) (m_leads gu) (m_windows gu) (m_windowRoom gu) (m_windowSide gu) (m_windowArea gu) (m_windowLimit gu) (m_outside gu) (m_sun gu) (upd (m_persons gu) ((24 * r + h_).toNatClampNeg) ((m_persons gu) ((24 * r + h_).toNatClampNeg))) (upd (m_set gu) ((24 * r + h_).toNatClampNeg) v) (upd (m_cool gu) ((24 * r + h_).toNatClampNeg) v) (m_low gu) (m_high gu) gv) rfl ?_
                            refine kw_iload C 0 dM_plan_205 rfl ?_
                            refine kw_eq rfl rfl (mk_wM_gu.trans (congrArg (fun z90 => wM k am z90 gv) (show (0, (m_rooms gu), (m_store gu), (m_mostHeating gu), (m_mostCooling gu), (m_began gu), (m_walls gu), (m_wallRoom gu), (m_wallOther gu), (m_leads gu), (m_windows gu), (m_windowRoom gu), (m_windowSide gu), (m_windowArea gu), (m_windowLimit gu), (m_outside gu), (m_sun gu), (upd (m_persons gu) ((24 * r + h_).toNatClampNeg) ((m_persons gu) ((24 * r + h_).toNatClampNeg))), (upd (m_set gu) ((24 * r + h_).toNatClampNeg) v), (upd (m_cool gu) ((24 * r + h_).toNatClampNeg) v), (m_low gu), (m_high gu)) = sguM_plan gu gv r h_ what v from by unfold sguM_plan; rw [if_neg c_1, if_neg c_4, if_neg c_7, if_pos c_8, if_neg c_9, if_neg c_17, if_pos c_26]))) ?_
                            exact kw_iret C hr hlocks (by unfold rM_plan; rw [if_neg c_1, if_neg c_4, if_neg c_7, if_pos c_8, if_neg c_9, if_neg c_17, if_pos c_26]) dM_plan_207
                      · skip
                        exact absurd c_24 c_7
                  · skip
                    exact absurd c_22 c_7
                · skip
                  exact absurd (by decide) c_21
        · skip
          refine kw_iload_n C 3 dM_plan_38 rfl rfl ?_
          refine kw_iconst (v := 2) C dM_plan_39 (by decide) ?_
          refine kw_icmp_ne (tgt := 62) C dM_plan_40 (by decide) (fun c_27 => ?_) (fun c_27 => ?_)
          · skip
            refine kw_iconst (v := 0) C dM_plan_62 (by decide) ?_
            refine kw_istore (lv' := [(5, .int 0), (0, .ref (am 0)), (1, .int r), (2, .int h_), (3, .int what), (4, .int v)]) C dM_plan_63 (by decide) rfl ?_
            refine kw_aload_n C 1 dM_plan_65 rfl rfl ?_
            refine kw_iload C 0 dM_plan_66 rfl ?_
            refine kw_if_eq (tgt := 75) C dM_plan_68 (by decide) (fun c_28 => ?_) (fun c_28 => ?_)
            · skip
              refine kw_iconst (v := 1) C dM_plan_75 (by decide) ?_
              refine kw_put C 0 rfl rfl ku_M tM_ok nM 0 (by decide) kt_556 rfl (ty := .int) (by decide +kernel) rfl rfl (Nat.le_of_ble_eq_true rfl) dM_plan_76 (wM_gu k am 1 (m_rooms gu) (m_store gu) (m_mostHeating gu) (m_mostCooling gu) (m_began gu) (m_walls gu) (m_wallRoom gu) (m_wallOther gu) (m_leads gu) (m_windows gu) (m_windowRoom gu) (m_windowSide gu) (m_windowArea gu) (m_windowLimit gu) (m_outside gu) (m_sun gu) (m_persons gu) (m_set gu) (m_cool gu) (m_low gu) (m_high gu) gv) rfl ?_
              refine kw_aload_n C 1 dM_plan_79 rfl rfl ?_
              refine kw_get (v := .int 1) C 0 rfl rfl ku_M 0 (by decide) kt_556 rfl dM_plan_80 ?_
              refine kw_if_le (tgt := 88) C dM_plan_83 (by decide) (fun c_29 => ?_) (fun c_29 => ?_)
              · skip
                exact absurd c_29 (by decide)
              · skip
                refine kw_iconst (v := 0) C dM_plan_86 (by decide) ?_
                refine kw_eq rfl rfl (mk_wM_gu.trans (congrArg (fun z90 => wM k am z90 gv) (show (1, (m_rooms gu), (m_store gu), (m_mostHeating gu), (m_mostCooling gu), (m_began gu), (m_walls gu), (m_wallRoom gu), (m_wallOther gu), (m_leads gu), (m_windows gu), (m_windowRoom gu), (m_windowSide gu), (m_windowArea gu), (m_windowLimit gu), (m_outside gu), (m_sun gu), (m_persons gu), (m_set gu), (m_cool gu), (m_low gu), (m_high gu)) = sguM_plan gu gv r h_ what v from by unfold sguM_plan; rw [if_neg c_1, if_neg c_4, if_neg c_7, if_neg c_8, if_neg c_27]))) ?_
                exact kw_iret C hr hlocks (by unfold rM_plan; rw [if_neg c_1, if_neg c_4, if_neg c_7, if_neg c_8, if_neg c_27]) dM_plan_87
            · skip
              exact absurd (by decide) c_28
          · skip
            refine kw_iload C 4 dM_plan_43 rfl ?_
            refine kw_ldc (v := -1000000) C kt_555 dM_plan_45 ?_
            refine kw_icmp_eq (tgt := 58) C dM_plan_47 (by decide) (fun c_30 => ?_) (fun c_30 => ?_)
            · skip
              refine kw_iconst (v := 1) C dM_plan_58 (by decide) ?_
              refine kw_goto (tgt := 63) C dM_plan_59 (by decide) ?_
              refine kw_istore (lv' := [(5, .int 1), (0, .ref (am 0)), (1, .int r), (2, .int h_), (3, .int what), (4, .int v)]) C dM_plan_63 (by decide) rfl ?_
              refine kw_aload_n C 1 dM_plan_65 rfl rfl ?_
              refine kw_iload C 0 dM_plan_66 rfl ?_
              refine kw_if_eq (tgt := 75) C dM_plan_68 (by decide) (fun c_31 => ?_) (fun c_31 => ?_)
              · skip
                exact absurd c_31 (by decide)
              · skip
                refine kw_iconst (v := 0) C dM_plan_71 (by decide) ?_
                refine kw_goto (tgt := 76) C dM_plan_72 (by decide) ?_
                refine kw_put C 0 rfl rfl ku_M tM_ok nM 0 (by decide) kt_556 rfl (ty := .int) (by decide +kernel) rfl rfl (Nat.le_of_ble_eq_true rfl) dM_plan_76 (wM_gu k am 0 (m_rooms gu) (m_store gu) (m_mostHeating gu) (m_mostCooling gu) (m_began gu) (m_walls gu) (m_wallRoom gu) (m_wallOther gu) (m_leads gu) (m_windows gu) (m_windowRoom gu) (m_windowSide gu) (m_windowArea gu) (m_windowLimit gu) (m_outside gu) (m_sun gu) (m_persons gu) (m_set gu) (m_cool gu) (m_low gu) (m_high gu) gv) rfl ?_
                refine kw_aload_n C 1 dM_plan_79 rfl rfl ?_
                refine kw_get (v := .int 0) C 0 rfl rfl ku_M 0 (by decide) kt_556 rfl dM_plan_80 ?_
                refine kw_if_le (tgt := 88) C dM_plan_83 (by decide) (fun c_32 => ?_) (fun c_32 => ?_)
                · skip
                  refine kw_bipush (v := 24) C dM_plan_88 (by decide) ?_
                  refine kw_iload_n C 2 dM_plan_90 rfl rfl ?_
                  refine kw_imul C dM_plan_91 ?_
                  refine kw_iload_n C 3 dM_plan_92 rfl rfl ?_
                  refine kw_iadd C dM_plan_93 ?_
                  refine kw_istore (lv' := [(6, .int ((24 * r) + h_)), (5, .int 1), (0, .ref (am 0)), (1, .int r), (2, .int h_), (3, .int what), (4, .int v)]) C dM_plan_94 (by decide) rfl ?_
                  refine kw_iload_n C 5 dM_plan_96 rfl rfl ?_
                  refine kw_if_ne (tgt := 110) C dM_plan_97 (by decide) (fun c_33 => ?_) (fun c_33 => ?_)
                  · skip
                    refine kw_iload_n C 5 dM_plan_110 rfl rfl ?_
                    refine kw_iconst (v := 1) C dM_plan_111 (by decide) ?_
                    refine kw_icmp_ne (tgt := 125) C dM_plan_112 (by decide) (fun c_34 => ?_) (fun c_34 => ?_)
                    · skip
                      refine kw_aload_n C 2 dM_plan_125 rfl rfl ?_
                      refine kw_get (v := .ref (am 20)) C 0 rfl rfl ku_M 24 (by decide) kt_580 rfl dM_plan_126 ?_
                      refine kw_iload C 0 dM_plan_129 rfl ?_
                      refine kw_iald C 20 0 rfl rfl (kix_of (kplanM (kin_le (kroomM hI c_1) hI.1.2) (krin (N := 24) rfl (by decide) c_4))) dM_plan_131 ?_
                      refine kw_istore (lv' := [(7, .int ((m_cool gu) ((24 * r + h_).toNatClampNeg))), (6, .int ((24 * r) + h_)), (5, .int 1), (0, .ref (am 0)), (1, .int r), (2, .int h_), (3, .int what), (4, .int v)]) C dM_plan_132 (by decide) rfl ?_
                      refine kw_aload_n C 3 dM_plan_134 rfl rfl ?_
                      refine kw_get (v := .ref (am 18)) C 0 rfl rfl ku_M 22 (by decide) kt_578 rfl dM_plan_135 ?_
                      refine kw_iload C 1 dM_plan_138 rfl ?_
                      refine kw_iload_n C 6 dM_plan_140 rfl rfl ?_
                      refine kw_if_ne (tgt := 149) C dM_plan_141 (by decide) (fun c_35 => ?_) (fun c_35 => ?_)
                      · skip
                        refine kw_aload_n C 3 dM_plan_149 rfl rfl ?_
                        refine kw_get (v := .ref (am 18)) C 0 rfl rfl ku_M 22 (by decide) kt_578 rfl dM_plan_150 ?_
                        refine kw_iload C 1 dM_plan_153 rfl ?_
                        refine kw_iald C 18 0 rfl rfl (kix_of (kplanM (kin_le (kroomM hI c_1) hI.1.2) (krin (N := 24) rfl (by decide) c_4))) dM_plan_155 ?_
                        refine kw_iast C 18 0 rfl rfl (kix_of (kplanM (kin_le (kroomM hI c_1) hI.1.2) (krin (N := 24) rfl (by decide) c_4))) dM_plan_156 (wM_gu k am 0 (m_rooms gu) (m_store gu) (m_mostHeating gu) (m_mostCooling gu) (m_began gu) (m_walls gu) (m_wallRoom gu) (m_wallOther gu) (m_leads gu) (m_windows gu) (m_windowRoom gu) (m_windowSide gu) (m_windowArea gu) (m_windowLimit gu) (m_outside gu) (m_sun gu) (upd (m_persons gu) ((24 * r + h_).toNatClampNeg) ((m_persons gu) ((24 * r + h_).toNatClampNeg))) (m_set gu) (m_cool gu) (m_low gu) (m_high gu) gv) rfl ?_
                        refine kw_aload_n C 3 dM_plan_157 rfl rfl ?_
                        refine kw_get (v := .ref (am 19)) C 0 rfl rfl ku_M 23 (by decide) kt_579 rfl dM_plan_158 ?_
                        refine kw_iload C 1 dM_plan_161 rfl ?_
                        refine kw_iload_n C 6 dM_plan_163 rfl rfl ?_
                        refine kw_iconst (v := 1) C dM_plan_164 (by decide) ?_
                        refine kw_icmp_ne (tgt := 173) C dM_plan_165 (by decide) (fun c_36 => ?_) (fun c_36 => ?_)
                        · skip
                          refine kw_aload_n C 3 dM_plan_173 rfl rfl ?_
                          refine kw_get (v := .ref (am 19)) C 0 rfl rfl ku_M 23 (by decide) kt_579 rfl dM_plan_174 ?_
                          refine kw_iload C 1 dM_plan_177 rfl ?_
                          refine kw_iald C 19 0 rfl rfl (kix_of (kplanM (kin_le (kroomM hI c_1) hI.1.2) (krin (N := 24) rfl (by decide) c_4))) dM_plan_179 ?_
                          refine kw_iast C 19 0 rfl rfl (kix_of (kplanM (kin_le (kroomM hI c_1) hI.1.2) (krin (N := 24) rfl (by decide) c_4))) dM_plan_180 (wM_gu k am 0 (m_rooms gu) (m_store gu) (m_mostHeating gu) (m_mostCooling gu) (m_began gu) (m_walls gu) (m_wallRoom gu) (m_wallOther gu) (m_leads gu) (m_windows gu) (m_windowRoom gu) (m_windowSide gu) (m_windowArea gu) (m_windowLimit gu) (m_outside gu) (m_sun gu) (upd (m_persons gu) ((24 * r + h_).toNatClampNeg) ((m_persons gu) ((24 * r + h_).toNatClampNeg))) (upd (m_set gu) ((24 * r + h_).toNatClampNeg) ((m_set gu) ((24 * r + h_).toNatClampNeg))) (m_cool gu) (m_low gu) (m_high gu) gv) rfl ?_
                          refine kw_aload_n C 3 dM_plan_181 rfl rfl ?_
                          refine kw_get (v := .ref (am 20)) C 0 rfl rfl ku_M 24 (by decide) kt_580 rfl dM_plan_182 ?_
                          refine kw_iload C 1 dM_plan_185 rfl ?_
                          refine kw_iload_n C 6 dM_plan_187 rfl rfl ?_
                          refine kw_iconst (v := 2) C dM_plan_188 (by decide) ?_
                          refine kw_icmp_ne (tgt := 197) C dM_plan_189 (by decide) (fun c_37 => ?_) (fun c_37 => ?_)
                          · skip
                            exact absurd c_27 c_37
                          · skip
                            refine kw_iload C 7 dM_plan_192 rfl ?_
                            refine kw_goto (tgt := 204) C dM_plan_194 (by decide) ?_
                            refine kw_iast C 20 0 rfl rfl (kix_of (kplanM (kin_le (kroomM hI c_1) hI.1.2) (krin (N := 24) rfl (by decide) c_4))) dM_plan_204 (wM_gu k am 0 (m_rooms gu) (m_store gu) (m_mostHeating gu) (m_mostCooling gu) (m_began gu) (m_walls gu) (m_wallRoom gu) (m_wallOther gu) (m_leads gu) (m_windows gu) (m_windowRoom gu) (m_windowSide gu) (m_windowArea gu) (m_windowLimit gu) (m_outside gu) (m_sun gu) (upd (m_persons gu) ((24 * r + h_).toNatClampNeg) ((m_persons gu) ((24 * r + h_).toNatClampNeg))) (upd (m_set gu) ((24 * r + h_).toNatClampNeg) ((m_set gu) ((24 * r + h_).toNatClampNeg))) (upd (m_cool gu) ((24 * r + h_).toNatClampNeg) v) (m_low gu) (m_high gu) gv) rfl ?_
                            refine kw_iload C 0 dM_plan_205 rfl ?_
                            refine kw_eq rfl rfl (mk_wM_gu.trans (congrArg (fun z90 => wM k am z90 gv) (show (0, (m_rooms gu), (m_store gu), (m_mostHeating gu), (m_mostCooling gu), (m_began gu), (m_walls gu), (m_wallRoom gu), (m_wallOther gu), (m_leads gu), (m_windows gu), (m_windowRoom gu), (m_windowSide gu), (m_windowArea gu), (m_windowLimit gu), (m_outside gu), (m_sun gu), (upd (m_persons gu) ((24 * r + h_).toNatClampNeg) ((m_persons gu) ((24 * r + h_).toNatClampNeg))), (upd (m_set gu) ((24 * r + h_).toNatClampNeg) ((m_set gu) ((24 * r + h_).toNatClampNeg))), (upd (m_cool gu) ((24 * r + h_).toNatClampNeg) v), (m_low gu), (m_high gu)) = sguM_plan gu gv r h_ what v from by unfold sguM_plan; rw [if_neg c_1, if_neg c_4, if_neg c_7, if_neg c_8, if_pos c_27, if_pos c_30]))) ?_
                            exact kw_iret C hr hlocks (by unfold rM_plan; rw [if_neg c_1, if_neg c_4, if_neg c_7, if_neg c_8, if_pos c_27, if_pos c_30]) dM_plan_207
                        · skip
                          exact absurd c_36 c_8
                      · skip
                        exact absurd c_35 c_7
                    · skip
                      exact absurd c_34 c_8
                  · skip
                    exact absurd c_33 c_7
                · skip
                  exact absurd (by decide) c_32
            · skip
              refine kw_iload C 4 dM_plan_50 rfl ?_
              refine kw_callSi (st := []) C (cM_isWarmth l D k v) (va_cwS 1 C.1.2.2.2.2 (kgO kt_679 kt_680 kt_5 kt_681) rfl rfl rfl kdM_isWarmth ⟨Nat.le_of_ble_eq_true rfl, Nat.le_of_ble_eq_true rfl⟩) [] rfl rfl rfl rfl (Nat.le_of_ble_eq_true rfl) dM_plan_52 ⟨Nat.zero_le _, Nat.zero_le _⟩ rfl (wM k am gu gv) rfl ?_
              refine kw_if_eq (tgt := 62) C dM_plan_55 (by decide) (fun c_38 => ?_) (fun c_38 => ?_)
              · skip
                refine kw_iconst (v := 0) C dM_plan_62 (by decide) ?_
                refine kw_istore (lv' := [(5, .int 0), (0, .ref (am 0)), (1, .int r), (2, .int h_), (3, .int what), (4, .int v)]) C dM_plan_63 (by decide) rfl ?_
                refine kw_aload_n C 1 dM_plan_65 rfl rfl ?_
                refine kw_iload C 0 dM_plan_66 rfl ?_
                refine kw_if_eq (tgt := 75) C dM_plan_68 (by decide) (fun c_39 => ?_) (fun c_39 => ?_)
                · skip
                  refine kw_iconst (v := 1) C dM_plan_75 (by decide) ?_
                  refine kw_put C 0 rfl rfl ku_M tM_ok nM 0 (by decide) kt_556 rfl (ty := .int) (by decide +kernel) rfl rfl (Nat.le_of_ble_eq_true rfl) dM_plan_76 (wM_gu k am 1 (m_rooms gu) (m_store gu) (m_mostHeating gu) (m_mostCooling gu) (m_began gu) (m_walls gu) (m_wallRoom gu) (m_wallOther gu) (m_leads gu) (m_windows gu) (m_windowRoom gu) (m_windowSide gu) (m_windowArea gu) (m_windowLimit gu) (m_outside gu) (m_sun gu) (m_persons gu) (m_set gu) (m_cool gu) (m_low gu) (m_high gu) gv) rfl ?_
                  refine kw_aload_n C 1 dM_plan_79 rfl rfl ?_
                  refine kw_get (v := .int 1) C 0 rfl rfl ku_M 0 (by decide) kt_556 rfl dM_plan_80 ?_
                  refine kw_if_le (tgt := 88) C dM_plan_83 (by decide) (fun c_40 => ?_) (fun c_40 => ?_)
                  · skip
                    exact absurd c_40 (by decide)
                  · skip
                    refine kw_iconst (v := 0) C dM_plan_86 (by decide) ?_
                    refine kw_eq rfl rfl (mk_wM_gu.trans (congrArg (fun z90 => wM k am z90 gv) (show (1, (m_rooms gu), (m_store gu), (m_mostHeating gu), (m_mostCooling gu), (m_began gu), (m_walls gu), (m_wallRoom gu), (m_wallOther gu), (m_leads gu), (m_windows gu), (m_windowRoom gu), (m_windowSide gu), (m_windowArea gu), (m_windowLimit gu), (m_outside gu), (m_sun gu), (m_persons gu), (m_set gu), (m_cool gu), (m_low gu), (m_high gu)) = sguM_plan gu gv r h_ what v from by unfold sguM_plan; rw [if_neg c_1, if_neg c_4, if_neg c_7, if_neg c_8, if_pos c_27, if_neg c_30, if_pos c_38]))) ?_
                    exact kw_iret C hr hlocks (by unfold rM_plan; rw [if_neg c_1, if_neg c_4, if_neg c_7, if_neg c_8, if_pos c_27, if_neg c_30, if_pos c_38]) dM_plan_87
                · skip
                  exact absurd (by decide) c_39
              · skip
                refine kw_iconst (v := 1) C dM_plan_58 (by decide) ?_
                refine kw_goto (tgt := 63) C dM_plan_59 (by decide) ?_
                refine kw_istore (lv' := [(5, .int 1), (0, .ref (am 0)), (1, .int r), (2, .int h_), (3, .int what), (4, .int v)]) C dM_plan_63 (by decide) rfl ?_
                refine kw_aload_n C 1 dM_plan_65 rfl rfl ?_
                refine kw_iload C 0 dM_plan_66 rfl ?_
                refine kw_if_eq (tgt := 75) C dM_plan_68 (by decide) (fun c_41 => ?_) (fun c_41 => ?_)
                · skip
                  exact absurd c_41 (by decide)
                · skip
                  refine kw_iconst (v := 0) C dM_plan_71 (by decide) ?_
                  refine kw_goto (tgt := 76) C dM_plan_72 (by decide) ?_
                  refine kw_put C 0 rfl rfl ku_M tM_ok nM 0 (by decide) kt_556 rfl (ty := .int) (by decide +kernel) rfl rfl (Nat.le_of_ble_eq_true rfl) dM_plan_76 (wM_gu k am 0 (m_rooms gu) (m_store gu) (m_mostHeating gu) (m_mostCooling gu) (m_began gu) (m_walls gu) (m_wallRoom gu) (m_wallOther gu) (m_leads gu) (m_windows gu) (m_windowRoom gu) (m_windowSide gu) (m_windowArea gu) (m_windowLimit gu) (m_outside gu) (m_sun gu) (m_persons gu) (m_set gu) (m_cool gu) (m_low gu) (m_high gu) gv) rfl ?_
                  refine kw_aload_n C 1 dM_plan_79 rfl rfl ?_
                  refine kw_get (v := .int 0) C 0 rfl rfl ku_M 0 (by decide) kt_556 rfl dM_plan_80 ?_
                  refine kw_if_le (tgt := 88) C dM_plan_83 (by decide) (fun c_42 => ?_) (fun c_42 => ?_)
                  · skip
                    refine kw_bipush (v := 24) C dM_plan_88 (by decide) ?_
                    refine kw_iload_n C 2 dM_plan_90 rfl rfl ?_
                    refine kw_imul C dM_plan_91 ?_
                    refine kw_iload_n C 3 dM_plan_92 rfl rfl ?_
                    refine kw_iadd C dM_plan_93 ?_
                    refine kw_istore (lv' := [(6, .int ((24 * r) + h_)), (5, .int 1), (0, .ref (am 0)), (1, .int r), (2, .int h_), (3, .int what), (4, .int v)]) C dM_plan_94 (by decide) rfl ?_
                    refine kw_iload_n C 5 dM_plan_96 rfl rfl ?_
                    refine kw_if_ne (tgt := 110) C dM_plan_97 (by decide) (fun c_43 => ?_) (fun c_43 => ?_)
                    · skip
                      refine kw_iload_n C 5 dM_plan_110 rfl rfl ?_
                      refine kw_iconst (v := 1) C dM_plan_111 (by decide) ?_
                      refine kw_icmp_ne (tgt := 125) C dM_plan_112 (by decide) (fun c_44 => ?_) (fun c_44 => ?_)
                      · skip
                        refine kw_aload_n C 2 dM_plan_125 rfl rfl ?_
                        refine kw_get (v := .ref (am 20)) C 0 rfl rfl ku_M 24 (by decide) kt_580 rfl dM_plan_126 ?_
                        refine kw_iload C 0 dM_plan_129 rfl ?_
                        refine kw_iald C 20 0 rfl rfl (kix_of (kplanM (kin_le (kroomM hI c_1) hI.1.2) (krin (N := 24) rfl (by decide) c_4))) dM_plan_131 ?_
                        refine kw_istore (lv' := [(7, .int ((m_cool gu) ((24 * r + h_).toNatClampNeg))), (6, .int ((24 * r) + h_)), (5, .int 1), (0, .ref (am 0)), (1, .int r), (2, .int h_), (3, .int what), (4, .int v)]) C dM_plan_132 (by decide) rfl ?_
                        refine kw_aload_n C 3 dM_plan_134 rfl rfl ?_
                        refine kw_get (v := .ref (am 18)) C 0 rfl rfl ku_M 22 (by decide) kt_578 rfl dM_plan_135 ?_
                        refine kw_iload C 1 dM_plan_138 rfl ?_
                        refine kw_iload_n C 6 dM_plan_140 rfl rfl ?_
                        refine kw_if_ne (tgt := 149) C dM_plan_141 (by decide) (fun c_45 => ?_) (fun c_45 => ?_)
                        · skip
                          refine kw_aload_n C 3 dM_plan_149 rfl rfl ?_
                          refine kw_get (v := .ref (am 18)) C 0 rfl rfl ku_M 22 (by decide) kt_578 rfl dM_plan_150 ?_
                          refine kw_iload C 1 dM_plan_153 rfl ?_
                          refine kw_iald C 18 0 rfl rfl (kix_of (kplanM (kin_le (kroomM hI c_1) hI.1.2) (krin (N := 24) rfl (by decide) c_4))) dM_plan_155 ?_
                          refine kw_iast C 18 0 rfl rfl (kix_of (kplanM (kin_le (kroomM hI c_1) hI.1.2) (krin (N := 24) rfl (by decide) c_4))) dM_plan_156 (wM_gu k am 0 (m_rooms gu) (m_store gu) (m_mostHeating gu) (m_mostCooling gu) (m_began gu) (m_walls gu) (m_wallRoom gu) (m_wallOther gu) (m_leads gu) (m_windows gu) (m_windowRoom gu) (m_windowSide gu) (m_windowArea gu) (m_windowLimit gu) (m_outside gu) (m_sun gu) (upd (m_persons gu) ((24 * r + h_).toNatClampNeg) ((m_persons gu) ((24 * r + h_).toNatClampNeg))) (m_set gu) (m_cool gu) (m_low gu) (m_high gu) gv) rfl ?_
                          refine kw_aload_n C 3 dM_plan_157 rfl rfl ?_
                          refine kw_get (v := .ref (am 19)) C 0 rfl rfl ku_M 23 (by decide) kt_579 rfl dM_plan_158 ?_
                          refine kw_iload C 1 dM_plan_161 rfl ?_
                          refine kw_iload_n C 6 dM_plan_163 rfl rfl ?_
                          refine kw_iconst (v := 1) C dM_plan_164 (by decide) ?_
                          refine kw_icmp_ne (tgt := 173) C dM_plan_165 (by decide) (fun c_46 => ?_) (fun c_46 => ?_)
                          · skip
                            refine kw_aload_n C 3 dM_plan_173 rfl rfl ?_
                            refine kw_get (v := .ref (am 19)) C 0 rfl rfl ku_M 23 (by decide) kt_579 rfl dM_plan_174 ?_
                            refine kw_iload C 1 dM_plan_177 rfl ?_
                            refine kw_iald C 19 0 rfl rfl (kix_of (kplanM (kin_le (kroomM hI c_1) hI.1.2) (krin (N := 24) rfl (by decide) c_4))) dM_plan_179 ?_
                            refine kw_iast C 19 0 rfl rfl (kix_of (kplanM (kin_le (kroomM hI c_1) hI.1.2) (krin (N := 24) rfl (by decide) c_4))) dM_plan_180 (wM_gu k am 0 (m_rooms gu) (m_store gu) (m_mostHeating gu) (m_mostCooling gu) (m_began gu) (m_walls gu) (m_wallRoom gu) (m_wallOther gu) (m_leads gu) (m_windows gu) (m_windowRoom gu) (m_windowSide gu) (m_windowArea gu) (m_windowLimit gu) (m_outside gu) (m_sun gu) (upd (m_persons gu) ((24 * r + h_).toNatClampNeg) ((m_persons gu) ((24 * r + h_).toNatClampNeg))) (upd (m_set gu) ((24 * r + h_).toNatClampNeg) ((m_set gu) ((24 * r + h_).toNatClampNeg))) (m_cool gu) (m_low gu) (m_high gu) gv) rfl ?_
                            refine kw_aload_n C 3 dM_plan_181 rfl rfl ?_
                            refine kw_get (v := .ref (am 20)) C 0 rfl rfl ku_M 24 (by decide) kt_580 rfl dM_plan_182 ?_
                            refine kw_iload C 1 dM_plan_185 rfl ?_
                            refine kw_iload_n C 6 dM_plan_187 rfl rfl ?_
                            refine kw_iconst (v := 2) C dM_plan_188 (by decide) ?_
                            refine kw_icmp_ne (tgt := 197) C dM_plan_189 (by decide) (fun c_47 => ?_) (fun c_47 => ?_)
                            · skip
                              exact absurd c_27 c_47
                            · skip
                              refine kw_iload C 7 dM_plan_192 rfl ?_
                              refine kw_goto (tgt := 204) C dM_plan_194 (by decide) ?_
                              refine kw_iast C 20 0 rfl rfl (kix_of (kplanM (kin_le (kroomM hI c_1) hI.1.2) (krin (N := 24) rfl (by decide) c_4))) dM_plan_204 (wM_gu k am 0 (m_rooms gu) (m_store gu) (m_mostHeating gu) (m_mostCooling gu) (m_began gu) (m_walls gu) (m_wallRoom gu) (m_wallOther gu) (m_leads gu) (m_windows gu) (m_windowRoom gu) (m_windowSide gu) (m_windowArea gu) (m_windowLimit gu) (m_outside gu) (m_sun gu) (upd (m_persons gu) ((24 * r + h_).toNatClampNeg) ((m_persons gu) ((24 * r + h_).toNatClampNeg))) (upd (m_set gu) ((24 * r + h_).toNatClampNeg) ((m_set gu) ((24 * r + h_).toNatClampNeg))) (upd (m_cool gu) ((24 * r + h_).toNatClampNeg) v) (m_low gu) (m_high gu) gv) rfl ?_
                              refine kw_iload C 0 dM_plan_205 rfl ?_
                              refine kw_eq rfl rfl (mk_wM_gu.trans (congrArg (fun z90 => wM k am z90 gv) (show (0, (m_rooms gu), (m_store gu), (m_mostHeating gu), (m_mostCooling gu), (m_began gu), (m_walls gu), (m_wallRoom gu), (m_wallOther gu), (m_leads gu), (m_windows gu), (m_windowRoom gu), (m_windowSide gu), (m_windowArea gu), (m_windowLimit gu), (m_outside gu), (m_sun gu), (upd (m_persons gu) ((24 * r + h_).toNatClampNeg) ((m_persons gu) ((24 * r + h_).toNatClampNeg))), (upd (m_set gu) ((24 * r + h_).toNatClampNeg) ((m_set gu) ((24 * r + h_).toNatClampNeg))), (upd (m_cool gu) ((24 * r + h_).toNatClampNeg) v), (m_low gu), (m_high gu)) = sguM_plan gu gv r h_ what v from by unfold sguM_plan; rw [if_neg c_1, if_neg c_4, if_neg c_7, if_neg c_8, if_pos c_27, if_neg c_30, if_neg c_38]))) ?_
                              exact kw_iret C hr hlocks (by unfold rM_plan; rw [if_neg c_1, if_neg c_4, if_neg c_7, if_neg c_8, if_pos c_27, if_neg c_30, if_neg c_38]) dM_plan_207
                          · skip
                            exact absurd c_46 c_8
                        · skip
                          exact absurd c_45 c_7
                      · skip
                        exact absurd c_44 c_8
                    · skip
                      exact absurd c_43 c_7
                  · skip
                    exact absurd (by decide) c_42
      · skip
        refine kw_iload C 4 dM_plan_22 rfl ?_
        refine kw_iconst (v := 0) C dM_plan_24 (by decide) ?_
        refine kw_bipush (v := 100) C dM_plan_25 (by decide) ?_
        refine kw_callSi (st := []) C (cM_in l D k v 0 100) (va_cwS 3 C.1.2.2.2.2 (kgO kt_676 kt_677 kt_5 kt_678) rfl rfl rfl kdM_in ⟨Nat.le_of_ble_eq_true rfl, Nat.le_of_ble_eq_true rfl⟩) [] rfl rfl rfl rfl (Nat.le_of_ble_eq_true rfl) dM_plan_27 ⟨Nat.zero_le _, Nat.zero_le _⟩ rfl (wM k am gu gv) rfl ?_
        refine kw_if_ne (tgt := 58) C dM_plan_30 (by decide) (fun c_48 => ?_) (fun c_48 => ?_)
        · skip
          refine kw_iconst (v := 1) C dM_plan_58 (by decide) ?_
          refine kw_goto (tgt := 63) C dM_plan_59 (by decide) ?_
          refine kw_istore (lv' := [(5, .int 1), (0, .ref (am 0)), (1, .int r), (2, .int h_), (3, .int what), (4, .int v)]) C dM_plan_63 (by decide) rfl ?_
          refine kw_aload_n C 1 dM_plan_65 rfl rfl ?_
          refine kw_iload C 0 dM_plan_66 rfl ?_
          refine kw_if_eq (tgt := 75) C dM_plan_68 (by decide) (fun c_49 => ?_) (fun c_49 => ?_)
          · skip
            exact absurd c_49 (by decide)
          · skip
            refine kw_iconst (v := 0) C dM_plan_71 (by decide) ?_
            refine kw_goto (tgt := 76) C dM_plan_72 (by decide) ?_
            refine kw_put C 0 rfl rfl ku_M tM_ok nM 0 (by decide) kt_556 rfl (ty := .int) (by decide +kernel) rfl rfl (Nat.le_of_ble_eq_true rfl) dM_plan_76 (wM_gu k am 0 (m_rooms gu) (m_store gu) (m_mostHeating gu) (m_mostCooling gu) (m_began gu) (m_walls gu) (m_wallRoom gu) (m_wallOther gu) (m_leads gu) (m_windows gu) (m_windowRoom gu) (m_windowSide gu) (m_windowArea gu) (m_windowLimit gu) (m_outside gu) (m_sun gu) (m_persons gu) (m_set gu) (m_cool gu) (m_low gu) (m_high gu) gv) rfl ?_
            refine kw_aload_n C 1 dM_plan_79 rfl rfl ?_
            refine kw_get (v := .int 0) C 0 rfl rfl ku_M 0 (by decide) kt_556 rfl dM_plan_80 ?_
            refine kw_if_le (tgt := 88) C dM_plan_83 (by decide) (fun c_50 => ?_) (fun c_50 => ?_)
            · skip
              refine kw_bipush (v := 24) C dM_plan_88 (by decide) ?_
              refine kw_iload_n C 2 dM_plan_90 rfl rfl ?_
              refine kw_imul C dM_plan_91 ?_
              refine kw_iload_n C 3 dM_plan_92 rfl rfl ?_
              refine kw_iadd C dM_plan_93 ?_
              refine kw_istore (lv' := [(6, .int ((24 * r) + h_)), (5, .int 1), (0, .ref (am 0)), (1, .int r), (2, .int h_), (3, .int what), (4, .int v)]) C dM_plan_94 (by decide) rfl ?_
              refine kw_iload_n C 5 dM_plan_96 rfl rfl ?_
              refine kw_if_ne (tgt := 110) C dM_plan_97 (by decide) (fun c_51 => ?_) (fun c_51 => ?_)
              · skip
                exact absurd c_7 c_51
              · skip
                refine kw_aload_n C 2 dM_plan_100 rfl rfl ?_
                refine kw_get (v := .ref (am 18)) C 0 rfl rfl ku_M 22 (by decide) kt_578 rfl dM_plan_101 ?_
                refine kw_iload C 0 dM_plan_104 rfl ?_
                refine kw_iald C 18 0 rfl rfl (kix_of (kplanM (kin_le (kroomM hI c_1) hI.1.2) (krin (N := 24) rfl (by decide) c_4))) dM_plan_106 ?_
                refine kw_goto (tgt := 132) C dM_plan_107 (by decide) ?_
                refine kw_istore (lv' := [(7, .int ((m_persons gu) ((24 * r + h_).toNatClampNeg))), (6, .int ((24 * r) + h_)), (5, .int 1), (0, .ref (am 0)), (1, .int r), (2, .int h_), (3, .int what), (4, .int v)]) C dM_plan_132 (by decide) rfl ?_
                refine kw_aload_n C 3 dM_plan_134 rfl rfl ?_
                refine kw_get (v := .ref (am 18)) C 0 rfl rfl ku_M 22 (by decide) kt_578 rfl dM_plan_135 ?_
                refine kw_iload C 1 dM_plan_138 rfl ?_
                refine kw_iload_n C 6 dM_plan_140 rfl rfl ?_
                refine kw_if_ne (tgt := 149) C dM_plan_141 (by decide) (fun c_52 => ?_) (fun c_52 => ?_)
                · skip
                  exact absurd c_7 c_52
                · skip
                  refine kw_iload C 7 dM_plan_144 rfl ?_
                  refine kw_goto (tgt := 156) C dM_plan_146 (by decide) ?_
                  refine kw_iast C 18 0 rfl rfl (kix_of (kplanM (kin_le (kroomM hI c_1) hI.1.2) (krin (N := 24) rfl (by decide) c_4))) dM_plan_156 (wM_gu k am 0 (m_rooms gu) (m_store gu) (m_mostHeating gu) (m_mostCooling gu) (m_began gu) (m_walls gu) (m_wallRoom gu) (m_wallOther gu) (m_leads gu) (m_windows gu) (m_windowRoom gu) (m_windowSide gu) (m_windowArea gu) (m_windowLimit gu) (m_outside gu) (m_sun gu) (upd (m_persons gu) ((24 * r + h_).toNatClampNeg) v) (m_set gu) (m_cool gu) (m_low gu) (m_high gu) gv) rfl ?_
                  refine kw_aload_n C 3 dM_plan_157 rfl rfl ?_
                  refine kw_get (v := .ref (am 19)) C 0 rfl rfl ku_M 23 (by decide) kt_579 rfl dM_plan_158 ?_
                  refine kw_iload C 1 dM_plan_161 rfl ?_
                  refine kw_iload_n C 6 dM_plan_163 rfl rfl ?_
                  refine kw_iconst (v := 1) C dM_plan_164 (by decide) ?_
                  refine kw_icmp_ne (tgt := 173) C dM_plan_165 (by decide) (fun c_53 => ?_) (fun c_53 => ?_)
                  · skip
                    refine kw_aload_n C 3 dM_plan_173 rfl rfl ?_
                    refine kw_get (v := .ref (am 19)) C 0 rfl rfl ku_M 23 (by decide) kt_579 rfl dM_plan_174 ?_
                    refine kw_iload C 1 dM_plan_177 rfl ?_
                    refine kw_iald C 19 0 rfl rfl (kix_of (kplanM (kin_le (kroomM hI c_1) hI.1.2) (krin (N := 24) rfl (by decide) c_4))) dM_plan_179 ?_
                    refine kw_iast C 19 0 rfl rfl (kix_of (kplanM (kin_le (kroomM hI c_1) hI.1.2) (krin (N := 24) rfl (by decide) c_4))) dM_plan_180 (wM_gu k am 0 (m_rooms gu) (m_store gu) (m_mostHeating gu) (m_mostCooling gu) (m_began gu) (m_walls gu) (m_wallRoom gu) (m_wallOther gu) (m_leads gu) (m_windows gu) (m_windowRoom gu) (m_windowSide gu) (m_windowArea gu) (m_windowLimit gu) (m_outside gu) (m_sun gu) (upd (m_persons gu) ((24 * r + h_).toNatClampNeg) v) (upd (m_set gu) ((24 * r + h_).toNatClampNeg) ((m_set gu) ((24 * r + h_).toNatClampNeg))) (m_cool gu) (m_low gu) (m_high gu) gv) rfl ?_
                    refine kw_aload_n C 3 dM_plan_181 rfl rfl ?_
                    refine kw_get (v := .ref (am 20)) C 0 rfl rfl ku_M 24 (by decide) kt_580 rfl dM_plan_182 ?_
                    refine kw_iload C 1 dM_plan_185 rfl ?_
                    refine kw_iload_n C 6 dM_plan_187 rfl rfl ?_
                    refine kw_iconst (v := 2) C dM_plan_188 (by decide) ?_
                    refine kw_icmp_ne (tgt := 197) C dM_plan_189 (by decide) (fun c_54 => ?_) (fun c_54 => ?_)
                    · skip
                      refine kw_aload_n C 3 dM_plan_197 rfl rfl ?_
                      refine kw_get (v := .ref (am 20)) C 0 rfl rfl ku_M 24 (by decide) kt_580 rfl dM_plan_198 ?_
                      refine kw_iload C 1 dM_plan_201 rfl ?_
                      refine kw_iald C 20 0 rfl rfl (kix_of (kplanM (kin_le (kroomM hI c_1) hI.1.2) (krin (N := 24) rfl (by decide) c_4))) dM_plan_203 ?_
                      refine kw_iast C 20 0 rfl rfl (kix_of (kplanM (kin_le (kroomM hI c_1) hI.1.2) (krin (N := 24) rfl (by decide) c_4))) dM_plan_204 (wM_gu k am 0 (m_rooms gu) (m_store gu) (m_mostHeating gu) (m_mostCooling gu) (m_began gu) (m_walls gu) (m_wallRoom gu) (m_wallOther gu) (m_leads gu) (m_windows gu) (m_windowRoom gu) (m_windowSide gu) (m_windowArea gu) (m_windowLimit gu) (m_outside gu) (m_sun gu) (upd (m_persons gu) ((24 * r + h_).toNatClampNeg) v) (upd (m_set gu) ((24 * r + h_).toNatClampNeg) ((m_set gu) ((24 * r + h_).toNatClampNeg))) (upd (m_cool gu) ((24 * r + h_).toNatClampNeg) ((m_cool gu) ((24 * r + h_).toNatClampNeg))) (m_low gu) (m_high gu) gv) rfl ?_
                      refine kw_iload C 0 dM_plan_205 rfl ?_
                      refine kw_eq rfl rfl (mk_wM_gu.trans (congrArg (fun z90 => wM k am z90 gv) (show (0, (m_rooms gu), (m_store gu), (m_mostHeating gu), (m_mostCooling gu), (m_began gu), (m_walls gu), (m_wallRoom gu), (m_wallOther gu), (m_leads gu), (m_windows gu), (m_windowRoom gu), (m_windowSide gu), (m_windowArea gu), (m_windowLimit gu), (m_outside gu), (m_sun gu), (upd (m_persons gu) ((24 * r + h_).toNatClampNeg) v), (upd (m_set gu) ((24 * r + h_).toNatClampNeg) ((m_set gu) ((24 * r + h_).toNatClampNeg))), (upd (m_cool gu) ((24 * r + h_).toNatClampNeg) ((m_cool gu) ((24 * r + h_).toNatClampNeg))), (m_low gu), (m_high gu)) = sguM_plan gu gv r h_ what v from by unfold sguM_plan; rw [if_neg c_1, if_neg c_4, if_pos c_7, if_neg c_48, if_neg c_53, if_neg c_54]))) ?_
                      exact kw_iret C hr hlocks (by unfold rM_plan; rw [if_neg c_1, if_neg c_4, if_pos c_7, if_neg c_48, if_neg c_53, if_neg c_54]) dM_plan_207
                    · skip
                      refine kw_iload C 7 dM_plan_192 rfl ?_
                      refine kw_goto (tgt := 204) C dM_plan_194 (by decide) ?_
                      refine kw_iast C 20 0 rfl rfl (kix_of (kplanM (kin_le (kroomM hI c_1) hI.1.2) (krin (N := 24) rfl (by decide) c_4))) dM_plan_204 (wM_gu k am 0 (m_rooms gu) (m_store gu) (m_mostHeating gu) (m_mostCooling gu) (m_began gu) (m_walls gu) (m_wallRoom gu) (m_wallOther gu) (m_leads gu) (m_windows gu) (m_windowRoom gu) (m_windowSide gu) (m_windowArea gu) (m_windowLimit gu) (m_outside gu) (m_sun gu) (upd (m_persons gu) ((24 * r + h_).toNatClampNeg) v) (upd (m_set gu) ((24 * r + h_).toNatClampNeg) ((m_set gu) ((24 * r + h_).toNatClampNeg))) (upd (m_cool gu) ((24 * r + h_).toNatClampNeg) v) (m_low gu) (m_high gu) gv) rfl ?_
                      refine kw_iload C 0 dM_plan_205 rfl ?_
                      refine kw_eq rfl rfl (mk_wM_gu.trans (congrArg (fun z90 => wM k am z90 gv) (show (0, (m_rooms gu), (m_store gu), (m_mostHeating gu), (m_mostCooling gu), (m_began gu), (m_walls gu), (m_wallRoom gu), (m_wallOther gu), (m_leads gu), (m_windows gu), (m_windowRoom gu), (m_windowSide gu), (m_windowArea gu), (m_windowLimit gu), (m_outside gu), (m_sun gu), (upd (m_persons gu) ((24 * r + h_).toNatClampNeg) v), (upd (m_set gu) ((24 * r + h_).toNatClampNeg) ((m_set gu) ((24 * r + h_).toNatClampNeg))), (upd (m_cool gu) ((24 * r + h_).toNatClampNeg) v), (m_low gu), (m_high gu)) = sguM_plan gu gv r h_ what v from by unfold sguM_plan; rw [if_neg c_1, if_neg c_4, if_pos c_7, if_neg c_48, if_neg c_53, if_pos c_54]))) ?_
                      exact kw_iret C hr hlocks (by unfold rM_plan; rw [if_neg c_1, if_neg c_4, if_pos c_7, if_neg c_48, if_neg c_53, if_pos c_54]) dM_plan_207
                  · skip
                    refine kw_iload C 7 dM_plan_168 rfl ?_
                    refine kw_goto (tgt := 180) C dM_plan_170 (by decide) ?_
                    refine kw_iast C 19 0 rfl rfl (kix_of (kplanM (kin_le (kroomM hI c_1) hI.1.2) (krin (N := 24) rfl (by decide) c_4))) dM_plan_180 (wM_gu k am 0 (m_rooms gu) (m_store gu) (m_mostHeating gu) (m_mostCooling gu) (m_began gu) (m_walls gu) (m_wallRoom gu) (m_wallOther gu) (m_leads gu) (m_windows gu) (m_windowRoom gu) (m_windowSide gu) (m_windowArea gu) (m_windowLimit gu) (m_outside gu) (m_sun gu) (upd (m_persons gu) ((24 * r + h_).toNatClampNeg) v) (upd (m_set gu) ((24 * r + h_).toNatClampNeg) v) (m_cool gu) (m_low gu) (m_high gu) gv) rfl ?_
                    refine kw_aload_n C 3 dM_plan_181 rfl rfl ?_
                    refine kw_get (v := .ref (am 20)) C 0 rfl rfl ku_M 24 (by decide) kt_580 rfl dM_plan_182 ?_
                    refine kw_iload C 1 dM_plan_185 rfl ?_
                    refine kw_iload_n C 6 dM_plan_187 rfl rfl ?_
                    refine kw_iconst (v := 2) C dM_plan_188 (by decide) ?_
                    refine kw_icmp_ne (tgt := 197) C dM_plan_189 (by decide) (fun c_55 => ?_) (fun c_55 => ?_)
                    · skip
                      refine kw_aload_n C 3 dM_plan_197 rfl rfl ?_
                      refine kw_get (v := .ref (am 20)) C 0 rfl rfl ku_M 24 (by decide) kt_580 rfl dM_plan_198 ?_
                      refine kw_iload C 1 dM_plan_201 rfl ?_
                      refine kw_iald C 20 0 rfl rfl (kix_of (kplanM (kin_le (kroomM hI c_1) hI.1.2) (krin (N := 24) rfl (by decide) c_4))) dM_plan_203 ?_
                      refine kw_iast C 20 0 rfl rfl (kix_of (kplanM (kin_le (kroomM hI c_1) hI.1.2) (krin (N := 24) rfl (by decide) c_4))) dM_plan_204 (wM_gu k am 0 (m_rooms gu) (m_store gu) (m_mostHeating gu) (m_mostCooling gu) (m_began gu) (m_walls gu) (m_wallRoom gu) (m_wallOther gu) (m_leads gu) (m_windows gu) (m_windowRoom gu) (m_windowSide gu) (m_windowArea gu) (m_windowLimit gu) (m_outside gu) (m_sun gu) (upd (m_persons gu) ((24 * r + h_).toNatClampNeg) v) (upd (m_set gu) ((24 * r + h_).toNatClampNeg) v) (upd (m_cool gu) ((24 * r + h_).toNatClampNeg) ((m_cool gu) ((24 * r + h_).toNatClampNeg))) (m_low gu) (m_high gu) gv) rfl ?_
                      refine kw_iload C 0 dM_plan_205 rfl ?_
                      refine kw_eq rfl rfl (mk_wM_gu.trans (congrArg (fun z90 => wM k am z90 gv) (show (0, (m_rooms gu), (m_store gu), (m_mostHeating gu), (m_mostCooling gu), (m_began gu), (m_walls gu), (m_wallRoom gu), (m_wallOther gu), (m_leads gu), (m_windows gu), (m_windowRoom gu), (m_windowSide gu), (m_windowArea gu), (m_windowLimit gu), (m_outside gu), (m_sun gu), (upd (m_persons gu) ((24 * r + h_).toNatClampNeg) v), (upd (m_set gu) ((24 * r + h_).toNatClampNeg) v), (upd (m_cool gu) ((24 * r + h_).toNatClampNeg) ((m_cool gu) ((24 * r + h_).toNatClampNeg))), (m_low gu), (m_high gu)) = sguM_plan gu gv r h_ what v from by unfold sguM_plan; rw [if_neg c_1, if_neg c_4, if_pos c_7, if_neg c_48, if_pos c_53, if_neg c_55]))) ?_
                      exact kw_iret C hr hlocks (by unfold rM_plan; rw [if_neg c_1, if_neg c_4, if_pos c_7, if_neg c_48, if_pos c_53, if_neg c_55]) dM_plan_207
                    · skip
                      refine kw_iload C 7 dM_plan_192 rfl ?_
                      refine kw_goto (tgt := 204) C dM_plan_194 (by decide) ?_
                      refine kw_iast C 20 0 rfl rfl (kix_of (kplanM (kin_le (kroomM hI c_1) hI.1.2) (krin (N := 24) rfl (by decide) c_4))) dM_plan_204 (wM_gu k am 0 (m_rooms gu) (m_store gu) (m_mostHeating gu) (m_mostCooling gu) (m_began gu) (m_walls gu) (m_wallRoom gu) (m_wallOther gu) (m_leads gu) (m_windows gu) (m_windowRoom gu) (m_windowSide gu) (m_windowArea gu) (m_windowLimit gu) (m_outside gu) (m_sun gu) (upd (m_persons gu) ((24 * r + h_).toNatClampNeg) v) (upd (m_set gu) ((24 * r + h_).toNatClampNeg) v) (upd (m_cool gu) ((24 * r + h_).toNatClampNeg) v) (m_low gu) (m_high gu) gv) rfl ?_
                      refine kw_iload C 0 dM_plan_205 rfl ?_
                      refine kw_eq rfl rfl (mk_wM_gu.trans (congrArg (fun z90 => wM k am z90 gv) (show (0, (m_rooms gu), (m_store gu), (m_mostHeating gu), (m_mostCooling gu), (m_began gu), (m_walls gu), (m_wallRoom gu), (m_wallOther gu), (m_leads gu), (m_windows gu), (m_windowRoom gu), (m_windowSide gu), (m_windowArea gu), (m_windowLimit gu), (m_outside gu), (m_sun gu), (upd (m_persons gu) ((24 * r + h_).toNatClampNeg) v), (upd (m_set gu) ((24 * r + h_).toNatClampNeg) v), (upd (m_cool gu) ((24 * r + h_).toNatClampNeg) v), (m_low gu), (m_high gu)) = sguM_plan gu gv r h_ what v from by unfold sguM_plan; rw [if_neg c_1, if_neg c_4, if_pos c_7, if_neg c_48, if_pos c_53, if_pos c_55]))) ?_
                      exact kw_iret C hr hlocks (by unfold rM_plan; rw [if_neg c_1, if_neg c_4, if_pos c_7, if_neg c_48, if_pos c_53, if_pos c_55]) dM_plan_207
            · skip
              exact absurd (by decide) c_50
        · skip
          refine kw_iload_n C 3 dM_plan_33 rfl rfl ?_
          refine kw_iconst (v := 1) C dM_plan_34 (by decide) ?_
          refine kw_icmp_eq (tgt := 43) C dM_plan_35 (by decide) (fun c_56 => ?_) (fun c_56 => ?_)
          · skip
            refine kw_iload C 4 dM_plan_43 rfl ?_
            refine kw_ldc (v := -1000000) C kt_555 dM_plan_45 ?_
            refine kw_icmp_eq (tgt := 58) C dM_plan_47 (by decide) (fun c_57 => ?_) (fun c_57 => ?_)
            · skip
              refine kw_iconst (v := 1) C dM_plan_58 (by decide) ?_
              refine kw_goto (tgt := 63) C dM_plan_59 (by decide) ?_
              refine kw_istore (lv' := [(5, .int 1), (0, .ref (am 0)), (1, .int r), (2, .int h_), (3, .int what), (4, .int v)]) C dM_plan_63 (by decide) rfl ?_
              refine kw_aload_n C 1 dM_plan_65 rfl rfl ?_
              refine kw_iload C 0 dM_plan_66 rfl ?_
              refine kw_if_eq (tgt := 75) C dM_plan_68 (by decide) (fun c_58 => ?_) (fun c_58 => ?_)
              · skip
                exact absurd c_58 (by decide)
              · skip
                refine kw_iconst (v := 0) C dM_plan_71 (by decide) ?_
                refine kw_goto (tgt := 76) C dM_plan_72 (by decide) ?_
                refine kw_put C 0 rfl rfl ku_M tM_ok nM 0 (by decide) kt_556 rfl (ty := .int) (by decide +kernel) rfl rfl (Nat.le_of_ble_eq_true rfl) dM_plan_76 (wM_gu k am 0 (m_rooms gu) (m_store gu) (m_mostHeating gu) (m_mostCooling gu) (m_began gu) (m_walls gu) (m_wallRoom gu) (m_wallOther gu) (m_leads gu) (m_windows gu) (m_windowRoom gu) (m_windowSide gu) (m_windowArea gu) (m_windowLimit gu) (m_outside gu) (m_sun gu) (m_persons gu) (m_set gu) (m_cool gu) (m_low gu) (m_high gu) gv) rfl ?_
                refine kw_aload_n C 1 dM_plan_79 rfl rfl ?_
                refine kw_get (v := .int 0) C 0 rfl rfl ku_M 0 (by decide) kt_556 rfl dM_plan_80 ?_
                refine kw_if_le (tgt := 88) C dM_plan_83 (by decide) (fun c_59 => ?_) (fun c_59 => ?_)
                · skip
                  refine kw_bipush (v := 24) C dM_plan_88 (by decide) ?_
                  refine kw_iload_n C 2 dM_plan_90 rfl rfl ?_
                  refine kw_imul C dM_plan_91 ?_
                  refine kw_iload_n C 3 dM_plan_92 rfl rfl ?_
                  refine kw_iadd C dM_plan_93 ?_
                  refine kw_istore (lv' := [(6, .int ((24 * r) + h_)), (5, .int 1), (0, .ref (am 0)), (1, .int r), (2, .int h_), (3, .int what), (4, .int v)]) C dM_plan_94 (by decide) rfl ?_
                  refine kw_iload_n C 5 dM_plan_96 rfl rfl ?_
                  refine kw_if_ne (tgt := 110) C dM_plan_97 (by decide) (fun c_60 => ?_) (fun c_60 => ?_)
                  · skip
                    exact absurd c_7 c_60
                  · skip
                    refine kw_aload_n C 2 dM_plan_100 rfl rfl ?_
                    refine kw_get (v := .ref (am 18)) C 0 rfl rfl ku_M 22 (by decide) kt_578 rfl dM_plan_101 ?_
                    refine kw_iload C 0 dM_plan_104 rfl ?_
                    refine kw_iald C 18 0 rfl rfl (kix_of (kplanM (kin_le (kroomM hI c_1) hI.1.2) (krin (N := 24) rfl (by decide) c_4))) dM_plan_106 ?_
                    refine kw_goto (tgt := 132) C dM_plan_107 (by decide) ?_
                    refine kw_istore (lv' := [(7, .int ((m_persons gu) ((24 * r + h_).toNatClampNeg))), (6, .int ((24 * r) + h_)), (5, .int 1), (0, .ref (am 0)), (1, .int r), (2, .int h_), (3, .int what), (4, .int v)]) C dM_plan_132 (by decide) rfl ?_
                    refine kw_aload_n C 3 dM_plan_134 rfl rfl ?_
                    refine kw_get (v := .ref (am 18)) C 0 rfl rfl ku_M 22 (by decide) kt_578 rfl dM_plan_135 ?_
                    refine kw_iload C 1 dM_plan_138 rfl ?_
                    refine kw_iload_n C 6 dM_plan_140 rfl rfl ?_
                    refine kw_if_ne (tgt := 149) C dM_plan_141 (by decide) (fun c_61 => ?_) (fun c_61 => ?_)
                    · skip
                      exact absurd c_7 c_61
                    · skip
                      refine kw_iload C 7 dM_plan_144 rfl ?_
                      refine kw_goto (tgt := 156) C dM_plan_146 (by decide) ?_
                      refine kw_iast C 18 0 rfl rfl (kix_of (kplanM (kin_le (kroomM hI c_1) hI.1.2) (krin (N := 24) rfl (by decide) c_4))) dM_plan_156 (wM_gu k am 0 (m_rooms gu) (m_store gu) (m_mostHeating gu) (m_mostCooling gu) (m_began gu) (m_walls gu) (m_wallRoom gu) (m_wallOther gu) (m_leads gu) (m_windows gu) (m_windowRoom gu) (m_windowSide gu) (m_windowArea gu) (m_windowLimit gu) (m_outside gu) (m_sun gu) (upd (m_persons gu) ((24 * r + h_).toNatClampNeg) v) (m_set gu) (m_cool gu) (m_low gu) (m_high gu) gv) rfl ?_
                      refine kw_aload_n C 3 dM_plan_157 rfl rfl ?_
                      refine kw_get (v := .ref (am 19)) C 0 rfl rfl ku_M 23 (by decide) kt_579 rfl dM_plan_158 ?_
                      refine kw_iload C 1 dM_plan_161 rfl ?_
                      refine kw_iload_n C 6 dM_plan_163 rfl rfl ?_
                      refine kw_iconst (v := 1) C dM_plan_164 (by decide) ?_
                      refine kw_icmp_ne (tgt := 173) C dM_plan_165 (by decide) (fun c_62 => ?_) (fun c_62 => ?_)
                      · skip
                        exact absurd c_56 c_62
                      · skip
                        refine kw_iload C 7 dM_plan_168 rfl ?_
                        refine kw_goto (tgt := 180) C dM_plan_170 (by decide) ?_
                        refine kw_iast C 19 0 rfl rfl (kix_of (kplanM (kin_le (kroomM hI c_1) hI.1.2) (krin (N := 24) rfl (by decide) c_4))) dM_plan_180 (wM_gu k am 0 (m_rooms gu) (m_store gu) (m_mostHeating gu) (m_mostCooling gu) (m_began gu) (m_walls gu) (m_wallRoom gu) (m_wallOther gu) (m_leads gu) (m_windows gu) (m_windowRoom gu) (m_windowSide gu) (m_windowArea gu) (m_windowLimit gu) (m_outside gu) (m_sun gu) (upd (m_persons gu) ((24 * r + h_).toNatClampNeg) v) (upd (m_set gu) ((24 * r + h_).toNatClampNeg) v) (m_cool gu) (m_low gu) (m_high gu) gv) rfl ?_
                        refine kw_aload_n C 3 dM_plan_181 rfl rfl ?_
                        refine kw_get (v := .ref (am 20)) C 0 rfl rfl ku_M 24 (by decide) kt_580 rfl dM_plan_182 ?_
                        refine kw_iload C 1 dM_plan_185 rfl ?_
                        refine kw_iload_n C 6 dM_plan_187 rfl rfl ?_
                        refine kw_iconst (v := 2) C dM_plan_188 (by decide) ?_
                        refine kw_icmp_ne (tgt := 197) C dM_plan_189 (by decide) (fun c_63 => ?_) (fun c_63 => ?_)
                        · skip
                          refine kw_aload_n C 3 dM_plan_197 rfl rfl ?_
                          refine kw_get (v := .ref (am 20)) C 0 rfl rfl ku_M 24 (by decide) kt_580 rfl dM_plan_198 ?_
                          refine kw_iload C 1 dM_plan_201 rfl ?_
                          refine kw_iald C 20 0 rfl rfl (kix_of (kplanM (kin_le (kroomM hI c_1) hI.1.2) (krin (N := 24) rfl (by decide) c_4))) dM_plan_203 ?_
                          refine kw_iast C 20 0 rfl rfl (kix_of (kplanM (kin_le (kroomM hI c_1) hI.1.2) (krin (N := 24) rfl (by decide) c_4))) dM_plan_204 (wM_gu k am 0 (m_rooms gu) (m_store gu) (m_mostHeating gu) (m_mostCooling gu) (m_began gu) (m_walls gu) (m_wallRoom gu) (m_wallOther gu) (m_leads gu) (m_windows gu) (m_windowRoom gu) (m_windowSide gu) (m_windowArea gu) (m_windowLimit gu) (m_outside gu) (m_sun gu) (upd (m_persons gu) ((24 * r + h_).toNatClampNeg) v) (upd (m_set gu) ((24 * r + h_).toNatClampNeg) v) (upd (m_cool gu) ((24 * r + h_).toNatClampNeg) ((m_cool gu) ((24 * r + h_).toNatClampNeg))) (m_low gu) (m_high gu) gv) rfl ?_
                          refine kw_iload C 0 dM_plan_205 rfl ?_
                          refine kw_eq rfl rfl (mk_wM_gu.trans (congrArg (fun z90 => wM k am z90 gv) (show (0, (m_rooms gu), (m_store gu), (m_mostHeating gu), (m_mostCooling gu), (m_began gu), (m_walls gu), (m_wallRoom gu), (m_wallOther gu), (m_leads gu), (m_windows gu), (m_windowRoom gu), (m_windowSide gu), (m_windowArea gu), (m_windowLimit gu), (m_outside gu), (m_sun gu), (upd (m_persons gu) ((24 * r + h_).toNatClampNeg) v), (upd (m_set gu) ((24 * r + h_).toNatClampNeg) v), (upd (m_cool gu) ((24 * r + h_).toNatClampNeg) ((m_cool gu) ((24 * r + h_).toNatClampNeg))), (m_low gu), (m_high gu)) = sguM_plan gu gv r h_ what v from by unfold sguM_plan; rw [if_neg c_1, if_neg c_4, if_pos c_7, if_pos c_48, if_pos c_56, if_pos c_57, if_neg c_63]))) ?_
                          exact kw_iret C hr hlocks (by unfold rM_plan; rw [if_neg c_1, if_neg c_4, if_pos c_7, if_pos c_48, if_pos c_56, if_pos c_57, if_neg c_63]) dM_plan_207
                        · skip
                          refine kw_iload C 7 dM_plan_192 rfl ?_
                          refine kw_goto (tgt := 204) C dM_plan_194 (by decide) ?_
                          refine kw_iast C 20 0 rfl rfl (kix_of (kplanM (kin_le (kroomM hI c_1) hI.1.2) (krin (N := 24) rfl (by decide) c_4))) dM_plan_204 (wM_gu k am 0 (m_rooms gu) (m_store gu) (m_mostHeating gu) (m_mostCooling gu) (m_began gu) (m_walls gu) (m_wallRoom gu) (m_wallOther gu) (m_leads gu) (m_windows gu) (m_windowRoom gu) (m_windowSide gu) (m_windowArea gu) (m_windowLimit gu) (m_outside gu) (m_sun gu) (upd (m_persons gu) ((24 * r + h_).toNatClampNeg) v) (upd (m_set gu) ((24 * r + h_).toNatClampNeg) v) (upd (m_cool gu) ((24 * r + h_).toNatClampNeg) v) (m_low gu) (m_high gu) gv) rfl ?_
                          refine kw_iload C 0 dM_plan_205 rfl ?_
                          refine kw_eq rfl rfl (mk_wM_gu.trans (congrArg (fun z90 => wM k am z90 gv) (show (0, (m_rooms gu), (m_store gu), (m_mostHeating gu), (m_mostCooling gu), (m_began gu), (m_walls gu), (m_wallRoom gu), (m_wallOther gu), (m_leads gu), (m_windows gu), (m_windowRoom gu), (m_windowSide gu), (m_windowArea gu), (m_windowLimit gu), (m_outside gu), (m_sun gu), (upd (m_persons gu) ((24 * r + h_).toNatClampNeg) v), (upd (m_set gu) ((24 * r + h_).toNatClampNeg) v), (upd (m_cool gu) ((24 * r + h_).toNatClampNeg) v), (m_low gu), (m_high gu)) = sguM_plan gu gv r h_ what v from by unfold sguM_plan; rw [if_neg c_1, if_neg c_4, if_pos c_7, if_pos c_48, if_pos c_56, if_pos c_57, if_pos c_63]))) ?_
                          exact kw_iret C hr hlocks (by unfold rM_plan; rw [if_neg c_1, if_neg c_4, if_pos c_7, if_pos c_48, if_pos c_56, if_pos c_57, if_pos c_63]) dM_plan_207
                · skip
                  exact absurd (by decide) c_59
            · skip
              refine kw_iload C 4 dM_plan_50 rfl ?_
              refine kw_callSi (st := []) C (cM_isWarmth l D k v) (va_cwS 1 C.1.2.2.2.2 (kgO kt_679 kt_680 kt_5 kt_681) rfl rfl rfl kdM_isWarmth ⟨Nat.le_of_ble_eq_true rfl, Nat.le_of_ble_eq_true rfl⟩) [] rfl rfl rfl rfl (Nat.le_of_ble_eq_true rfl) dM_plan_52 ⟨Nat.zero_le _, Nat.zero_le _⟩ rfl (wM k am gu gv) rfl ?_
              refine kw_if_eq (tgt := 62) C dM_plan_55 (by decide) (fun c_64 => ?_) (fun c_64 => ?_)
              · skip
                refine kw_iconst (v := 0) C dM_plan_62 (by decide) ?_
                refine kw_istore (lv' := [(5, .int 0), (0, .ref (am 0)), (1, .int r), (2, .int h_), (3, .int what), (4, .int v)]) C dM_plan_63 (by decide) rfl ?_
                refine kw_aload_n C 1 dM_plan_65 rfl rfl ?_
                refine kw_iload C 0 dM_plan_66 rfl ?_
                refine kw_if_eq (tgt := 75) C dM_plan_68 (by decide) (fun c_65 => ?_) (fun c_65 => ?_)
                · skip
                  refine kw_iconst (v := 1) C dM_plan_75 (by decide) ?_
                  refine kw_put C 0 rfl rfl ku_M tM_ok nM 0 (by decide) kt_556 rfl (ty := .int) (by decide +kernel) rfl rfl (Nat.le_of_ble_eq_true rfl) dM_plan_76 (wM_gu k am 1 (m_rooms gu) (m_store gu) (m_mostHeating gu) (m_mostCooling gu) (m_began gu) (m_walls gu) (m_wallRoom gu) (m_wallOther gu) (m_leads gu) (m_windows gu) (m_windowRoom gu) (m_windowSide gu) (m_windowArea gu) (m_windowLimit gu) (m_outside gu) (m_sun gu) (m_persons gu) (m_set gu) (m_cool gu) (m_low gu) (m_high gu) gv) rfl ?_
                  refine kw_aload_n C 1 dM_plan_79 rfl rfl ?_
                  refine kw_get (v := .int 1) C 0 rfl rfl ku_M 0 (by decide) kt_556 rfl dM_plan_80 ?_
                  refine kw_if_le (tgt := 88) C dM_plan_83 (by decide) (fun c_66 => ?_) (fun c_66 => ?_)
                  · skip
                    exact absurd c_66 (by decide)
                  · skip
                    refine kw_iconst (v := 0) C dM_plan_86 (by decide) ?_
                    refine kw_eq rfl rfl (mk_wM_gu.trans (congrArg (fun z90 => wM k am z90 gv) (show (1, (m_rooms gu), (m_store gu), (m_mostHeating gu), (m_mostCooling gu), (m_began gu), (m_walls gu), (m_wallRoom gu), (m_wallOther gu), (m_leads gu), (m_windows gu), (m_windowRoom gu), (m_windowSide gu), (m_windowArea gu), (m_windowLimit gu), (m_outside gu), (m_sun gu), (m_persons gu), (m_set gu), (m_cool gu), (m_low gu), (m_high gu)) = sguM_plan gu gv r h_ what v from by unfold sguM_plan; rw [if_neg c_1, if_neg c_4, if_pos c_7, if_pos c_48, if_pos c_56, if_neg c_57, if_pos c_64]))) ?_
                    exact kw_iret C hr hlocks (by unfold rM_plan; rw [if_neg c_1, if_neg c_4, if_pos c_7, if_pos c_48, if_pos c_56, if_neg c_57, if_pos c_64]) dM_plan_87
                · skip
                  exact absurd (by decide) c_65
              · skip
                refine kw_iconst (v := 1) C dM_plan_58 (by decide) ?_
                refine kw_goto (tgt := 63) C dM_plan_59 (by decide) ?_
                refine kw_istore (lv' := [(5, .int 1), (0, .ref (am 0)), (1, .int r), (2, .int h_), (3, .int what), (4, .int v)]) C dM_plan_63 (by decide) rfl ?_
                refine kw_aload_n C 1 dM_plan_65 rfl rfl ?_
                refine kw_iload C 0 dM_plan_66 rfl ?_
                refine kw_if_eq (tgt := 75) C dM_plan_68 (by decide) (fun c_67 => ?_) (fun c_67 => ?_)
                · skip
                  exact absurd c_67 (by decide)
                · skip
                  refine kw_iconst (v := 0) C dM_plan_71 (by decide) ?_
                  refine kw_goto (tgt := 76) C dM_plan_72 (by decide) ?_
                  refine kw_put C 0 rfl rfl ku_M tM_ok nM 0 (by decide) kt_556 rfl (ty := .int) (by decide +kernel) rfl rfl (Nat.le_of_ble_eq_true rfl) dM_plan_76 (wM_gu k am 0 (m_rooms gu) (m_store gu) (m_mostHeating gu) (m_mostCooling gu) (m_began gu) (m_walls gu) (m_wallRoom gu) (m_wallOther gu) (m_leads gu) (m_windows gu) (m_windowRoom gu) (m_windowSide gu) (m_windowArea gu) (m_windowLimit gu) (m_outside gu) (m_sun gu) (m_persons gu) (m_set gu) (m_cool gu) (m_low gu) (m_high gu) gv) rfl ?_
                  refine kw_aload_n C 1 dM_plan_79 rfl rfl ?_
                  refine kw_get (v := .int 0) C 0 rfl rfl ku_M 0 (by decide) kt_556 rfl dM_plan_80 ?_
                  refine kw_if_le (tgt := 88) C dM_plan_83 (by decide) (fun c_68 => ?_) (fun c_68 => ?_)
                  · skip
                    refine kw_bipush (v := 24) C dM_plan_88 (by decide) ?_
                    refine kw_iload_n C 2 dM_plan_90 rfl rfl ?_
                    refine kw_imul C dM_plan_91 ?_
                    refine kw_iload_n C 3 dM_plan_92 rfl rfl ?_
                    refine kw_iadd C dM_plan_93 ?_
                    refine kw_istore (lv' := [(6, .int ((24 * r) + h_)), (5, .int 1), (0, .ref (am 0)), (1, .int r), (2, .int h_), (3, .int what), (4, .int v)]) C dM_plan_94 (by decide) rfl ?_
                    refine kw_iload_n C 5 dM_plan_96 rfl rfl ?_
                    refine kw_if_ne (tgt := 110) C dM_plan_97 (by decide) (fun c_69 => ?_) (fun c_69 => ?_)
                    · skip
                      exact absurd c_7 c_69
                    · skip
                      refine kw_aload_n C 2 dM_plan_100 rfl rfl ?_
                      refine kw_get (v := .ref (am 18)) C 0 rfl rfl ku_M 22 (by decide) kt_578 rfl dM_plan_101 ?_
                      refine kw_iload C 0 dM_plan_104 rfl ?_
                      refine kw_iald C 18 0 rfl rfl (kix_of (kplanM (kin_le (kroomM hI c_1) hI.1.2) (krin (N := 24) rfl (by decide) c_4))) dM_plan_106 ?_
                      refine kw_goto (tgt := 132) C dM_plan_107 (by decide) ?_
                      refine kw_istore (lv' := [(7, .int ((m_persons gu) ((24 * r + h_).toNatClampNeg))), (6, .int ((24 * r) + h_)), (5, .int 1), (0, .ref (am 0)), (1, .int r), (2, .int h_), (3, .int what), (4, .int v)]) C dM_plan_132 (by decide) rfl ?_
                      refine kw_aload_n C 3 dM_plan_134 rfl rfl ?_
                      refine kw_get (v := .ref (am 18)) C 0 rfl rfl ku_M 22 (by decide) kt_578 rfl dM_plan_135 ?_
                      refine kw_iload C 1 dM_plan_138 rfl ?_
                      refine kw_iload_n C 6 dM_plan_140 rfl rfl ?_
                      refine kw_if_ne (tgt := 149) C dM_plan_141 (by decide) (fun c_70 => ?_) (fun c_70 => ?_)
                      · skip
                        exact absurd c_7 c_70
                      · skip
                        refine kw_iload C 7 dM_plan_144 rfl ?_
                        refine kw_goto (tgt := 156) C dM_plan_146 (by decide) ?_
                        refine kw_iast C 18 0 rfl rfl (kix_of (kplanM (kin_le (kroomM hI c_1) hI.1.2) (krin (N := 24) rfl (by decide) c_4))) dM_plan_156 (wM_gu k am 0 (m_rooms gu) (m_store gu) (m_mostHeating gu) (m_mostCooling gu) (m_began gu) (m_walls gu) (m_wallRoom gu) (m_wallOther gu) (m_leads gu) (m_windows gu) (m_windowRoom gu) (m_windowSide gu) (m_windowArea gu) (m_windowLimit gu) (m_outside gu) (m_sun gu) (upd (m_persons gu) ((24 * r + h_).toNatClampNeg) v) (m_set gu) (m_cool gu) (m_low gu) (m_high gu) gv) rfl ?_
                        refine kw_aload_n C 3 dM_plan_157 rfl rfl ?_
                        refine kw_get (v := .ref (am 19)) C 0 rfl rfl ku_M 23 (by decide) kt_579 rfl dM_plan_158 ?_
                        refine kw_iload C 1 dM_plan_161 rfl ?_
                        refine kw_iload_n C 6 dM_plan_163 rfl rfl ?_
                        refine kw_iconst (v := 1) C dM_plan_164 (by decide) ?_
                        refine kw_icmp_ne (tgt := 173) C dM_plan_165 (by decide) (fun c_71 => ?_) (fun c_71 => ?_)
                        · skip
                          exact absurd c_56 c_71
                        · skip
                          refine kw_iload C 7 dM_plan_168 rfl ?_
                          refine kw_goto (tgt := 180) C dM_plan_170 (by decide) ?_
                          refine kw_iast C 19 0 rfl rfl (kix_of (kplanM (kin_le (kroomM hI c_1) hI.1.2) (krin (N := 24) rfl (by decide) c_4))) dM_plan_180 (wM_gu k am 0 (m_rooms gu) (m_store gu) (m_mostHeating gu) (m_mostCooling gu) (m_began gu) (m_walls gu) (m_wallRoom gu) (m_wallOther gu) (m_leads gu) (m_windows gu) (m_windowRoom gu) (m_windowSide gu) (m_windowArea gu) (m_windowLimit gu) (m_outside gu) (m_sun gu) (upd (m_persons gu) ((24 * r + h_).toNatClampNeg) v) (upd (m_set gu) ((24 * r + h_).toNatClampNeg) v) (m_cool gu) (m_low gu) (m_high gu) gv) rfl ?_
                          refine kw_aload_n C 3 dM_plan_181 rfl rfl ?_
                          refine kw_get (v := .ref (am 20)) C 0 rfl rfl ku_M 24 (by decide) kt_580 rfl dM_plan_182 ?_
                          refine kw_iload C 1 dM_plan_185 rfl ?_
                          refine kw_iload_n C 6 dM_plan_187 rfl rfl ?_
                          refine kw_iconst (v := 2) C dM_plan_188 (by decide) ?_
                          refine kw_icmp_ne (tgt := 197) C dM_plan_189 (by decide) (fun c_72 => ?_) (fun c_72 => ?_)
                          · skip
                            refine kw_aload_n C 3 dM_plan_197 rfl rfl ?_
                            refine kw_get (v := .ref (am 20)) C 0 rfl rfl ku_M 24 (by decide) kt_580 rfl dM_plan_198 ?_
                            refine kw_iload C 1 dM_plan_201 rfl ?_
                            refine kw_iald C 20 0 rfl rfl (kix_of (kplanM (kin_le (kroomM hI c_1) hI.1.2) (krin (N := 24) rfl (by decide) c_4))) dM_plan_203 ?_
                            refine kw_iast C 20 0 rfl rfl (kix_of (kplanM (kin_le (kroomM hI c_1) hI.1.2) (krin (N := 24) rfl (by decide) c_4))) dM_plan_204 (wM_gu k am 0 (m_rooms gu) (m_store gu) (m_mostHeating gu) (m_mostCooling gu) (m_began gu) (m_walls gu) (m_wallRoom gu) (m_wallOther gu) (m_leads gu) (m_windows gu) (m_windowRoom gu) (m_windowSide gu) (m_windowArea gu) (m_windowLimit gu) (m_outside gu) (m_sun gu) (upd (m_persons gu) ((24 * r + h_).toNatClampNeg) v) (upd (m_set gu) ((24 * r + h_).toNatClampNeg) v) (upd (m_cool gu) ((24 * r + h_).toNatClampNeg) ((m_cool gu) ((24 * r + h_).toNatClampNeg))) (m_low gu) (m_high gu) gv) rfl ?_
                            refine kw_iload C 0 dM_plan_205 rfl ?_
                            refine kw_eq rfl rfl (mk_wM_gu.trans (congrArg (fun z90 => wM k am z90 gv) (show (0, (m_rooms gu), (m_store gu), (m_mostHeating gu), (m_mostCooling gu), (m_began gu), (m_walls gu), (m_wallRoom gu), (m_wallOther gu), (m_leads gu), (m_windows gu), (m_windowRoom gu), (m_windowSide gu), (m_windowArea gu), (m_windowLimit gu), (m_outside gu), (m_sun gu), (upd (m_persons gu) ((24 * r + h_).toNatClampNeg) v), (upd (m_set gu) ((24 * r + h_).toNatClampNeg) v), (upd (m_cool gu) ((24 * r + h_).toNatClampNeg) ((m_cool gu) ((24 * r + h_).toNatClampNeg))), (m_low gu), (m_high gu)) = sguM_plan gu gv r h_ what v from by unfold sguM_plan; rw [if_neg c_1, if_neg c_4, if_pos c_7, if_pos c_48, if_pos c_56, if_neg c_57, if_neg c_64, if_neg c_72]))) ?_
                            exact kw_iret C hr hlocks (by unfold rM_plan; rw [if_neg c_1, if_neg c_4, if_pos c_7, if_pos c_48, if_pos c_56, if_neg c_57, if_neg c_64, if_neg c_72]) dM_plan_207
                          · skip
                            refine kw_iload C 7 dM_plan_192 rfl ?_
                            refine kw_goto (tgt := 204) C dM_plan_194 (by decide) ?_
                            refine kw_iast C 20 0 rfl rfl (kix_of (kplanM (kin_le (kroomM hI c_1) hI.1.2) (krin (N := 24) rfl (by decide) c_4))) dM_plan_204 (wM_gu k am 0 (m_rooms gu) (m_store gu) (m_mostHeating gu) (m_mostCooling gu) (m_began gu) (m_walls gu) (m_wallRoom gu) (m_wallOther gu) (m_leads gu) (m_windows gu) (m_windowRoom gu) (m_windowSide gu) (m_windowArea gu) (m_windowLimit gu) (m_outside gu) (m_sun gu) (upd (m_persons gu) ((24 * r + h_).toNatClampNeg) v) (upd (m_set gu) ((24 * r + h_).toNatClampNeg) v) (upd (m_cool gu) ((24 * r + h_).toNatClampNeg) v) (m_low gu) (m_high gu) gv) rfl ?_
                            refine kw_iload C 0 dM_plan_205 rfl ?_
                            refine kw_eq rfl rfl (mk_wM_gu.trans (congrArg (fun z90 => wM k am z90 gv) (show (0, (m_rooms gu), (m_store gu), (m_mostHeating gu), (m_mostCooling gu), (m_began gu), (m_walls gu), (m_wallRoom gu), (m_wallOther gu), (m_leads gu), (m_windows gu), (m_windowRoom gu), (m_windowSide gu), (m_windowArea gu), (m_windowLimit gu), (m_outside gu), (m_sun gu), (upd (m_persons gu) ((24 * r + h_).toNatClampNeg) v), (upd (m_set gu) ((24 * r + h_).toNatClampNeg) v), (upd (m_cool gu) ((24 * r + h_).toNatClampNeg) v), (m_low gu), (m_high gu)) = sguM_plan gu gv r h_ what v from by unfold sguM_plan; rw [if_neg c_1, if_neg c_4, if_pos c_7, if_pos c_48, if_pos c_56, if_neg c_57, if_neg c_64, if_pos c_72]))) ?_
                            exact kw_iret C hr hlocks (by unfold rM_plan; rw [if_neg c_1, if_neg c_4, if_pos c_7, if_pos c_48, if_pos c_56, if_neg c_57, if_neg c_64, if_pos c_72]) dM_plan_207
                  · skip
                    exact absurd (by decide) c_68
          · skip
            refine kw_iload_n C 3 dM_plan_38 rfl rfl ?_
            refine kw_iconst (v := 2) C dM_plan_39 (by decide) ?_
            refine kw_icmp_ne (tgt := 62) C dM_plan_40 (by decide) (fun c_73 => ?_) (fun c_73 => ?_)
            · skip
              refine kw_iconst (v := 0) C dM_plan_62 (by decide) ?_
              refine kw_istore (lv' := [(5, .int 0), (0, .ref (am 0)), (1, .int r), (2, .int h_), (3, .int what), (4, .int v)]) C dM_plan_63 (by decide) rfl ?_
              refine kw_aload_n C 1 dM_plan_65 rfl rfl ?_
              refine kw_iload C 0 dM_plan_66 rfl ?_
              refine kw_if_eq (tgt := 75) C dM_plan_68 (by decide) (fun c_74 => ?_) (fun c_74 => ?_)
              · skip
                refine kw_iconst (v := 1) C dM_plan_75 (by decide) ?_
                refine kw_put C 0 rfl rfl ku_M tM_ok nM 0 (by decide) kt_556 rfl (ty := .int) (by decide +kernel) rfl rfl (Nat.le_of_ble_eq_true rfl) dM_plan_76 (wM_gu k am 1 (m_rooms gu) (m_store gu) (m_mostHeating gu) (m_mostCooling gu) (m_began gu) (m_walls gu) (m_wallRoom gu) (m_wallOther gu) (m_leads gu) (m_windows gu) (m_windowRoom gu) (m_windowSide gu) (m_windowArea gu) (m_windowLimit gu) (m_outside gu) (m_sun gu) (m_persons gu) (m_set gu) (m_cool gu) (m_low gu) (m_high gu) gv) rfl ?_
                refine kw_aload_n C 1 dM_plan_79 rfl rfl ?_
                refine kw_get (v := .int 1) C 0 rfl rfl ku_M 0 (by decide) kt_556 rfl dM_plan_80 ?_
                refine kw_if_le (tgt := 88) C dM_plan_83 (by decide) (fun c_75 => ?_) (fun c_75 => ?_)
                · skip
                  exact absurd c_75 (by decide)
                · skip
                  refine kw_iconst (v := 0) C dM_plan_86 (by decide) ?_
                  refine kw_eq rfl rfl (mk_wM_gu.trans (congrArg (fun z90 => wM k am z90 gv) (show (1, (m_rooms gu), (m_store gu), (m_mostHeating gu), (m_mostCooling gu), (m_began gu), (m_walls gu), (m_wallRoom gu), (m_wallOther gu), (m_leads gu), (m_windows gu), (m_windowRoom gu), (m_windowSide gu), (m_windowArea gu), (m_windowLimit gu), (m_outside gu), (m_sun gu), (m_persons gu), (m_set gu), (m_cool gu), (m_low gu), (m_high gu)) = sguM_plan gu gv r h_ what v from by unfold sguM_plan; rw [if_neg c_1, if_neg c_4, if_pos c_7, if_pos c_48, if_neg c_56, if_neg c_73]))) ?_
                  exact kw_iret C hr hlocks (by unfold rM_plan; rw [if_neg c_1, if_neg c_4, if_pos c_7, if_pos c_48, if_neg c_56, if_neg c_73]) dM_plan_87
              · skip
                exact absurd (by decide) c_74
            · skip
              refine kw_iload C 4 dM_plan_43 rfl ?_
              refine kw_ldc (v := -1000000) C kt_555 dM_plan_45 ?_
              refine kw_icmp_eq (tgt := 58) C dM_plan_47 (by decide) (fun c_76 => ?_) (fun c_76 => ?_)
              · skip
                refine kw_iconst (v := 1) C dM_plan_58 (by decide) ?_
                refine kw_goto (tgt := 63) C dM_plan_59 (by decide) ?_
                refine kw_istore (lv' := [(5, .int 1), (0, .ref (am 0)), (1, .int r), (2, .int h_), (3, .int what), (4, .int v)]) C dM_plan_63 (by decide) rfl ?_
                refine kw_aload_n C 1 dM_plan_65 rfl rfl ?_
                refine kw_iload C 0 dM_plan_66 rfl ?_
                refine kw_if_eq (tgt := 75) C dM_plan_68 (by decide) (fun c_77 => ?_) (fun c_77 => ?_)
                · skip
                  exact absurd c_77 (by decide)
                · skip
                  refine kw_iconst (v := 0) C dM_plan_71 (by decide) ?_
                  refine kw_goto (tgt := 76) C dM_plan_72 (by decide) ?_
                  refine kw_put C 0 rfl rfl ku_M tM_ok nM 0 (by decide) kt_556 rfl (ty := .int) (by decide +kernel) rfl rfl (Nat.le_of_ble_eq_true rfl) dM_plan_76 (wM_gu k am 0 (m_rooms gu) (m_store gu) (m_mostHeating gu) (m_mostCooling gu) (m_began gu) (m_walls gu) (m_wallRoom gu) (m_wallOther gu) (m_leads gu) (m_windows gu) (m_windowRoom gu) (m_windowSide gu) (m_windowArea gu) (m_windowLimit gu) (m_outside gu) (m_sun gu) (m_persons gu) (m_set gu) (m_cool gu) (m_low gu) (m_high gu) gv) rfl ?_
                  refine kw_aload_n C 1 dM_plan_79 rfl rfl ?_
                  refine kw_get (v := .int 0) C 0 rfl rfl ku_M 0 (by decide) kt_556 rfl dM_plan_80 ?_
                  refine kw_if_le (tgt := 88) C dM_plan_83 (by decide) (fun c_78 => ?_) (fun c_78 => ?_)
                  · skip
                    refine kw_bipush (v := 24) C dM_plan_88 (by decide) ?_
                    refine kw_iload_n C 2 dM_plan_90 rfl rfl ?_
                    refine kw_imul C dM_plan_91 ?_
                    refine kw_iload_n C 3 dM_plan_92 rfl rfl ?_
                    refine kw_iadd C dM_plan_93 ?_
                    refine kw_istore (lv' := [(6, .int ((24 * r) + h_)), (5, .int 1), (0, .ref (am 0)), (1, .int r), (2, .int h_), (3, .int what), (4, .int v)]) C dM_plan_94 (by decide) rfl ?_
                    refine kw_iload_n C 5 dM_plan_96 rfl rfl ?_
                    refine kw_if_ne (tgt := 110) C dM_plan_97 (by decide) (fun c_79 => ?_) (fun c_79 => ?_)
                    · skip
                      exact absurd c_7 c_79
                    · skip
                      refine kw_aload_n C 2 dM_plan_100 rfl rfl ?_
                      refine kw_get (v := .ref (am 18)) C 0 rfl rfl ku_M 22 (by decide) kt_578 rfl dM_plan_101 ?_
                      refine kw_iload C 0 dM_plan_104 rfl ?_
                      refine kw_iald C 18 0 rfl rfl (kix_of (kplanM (kin_le (kroomM hI c_1) hI.1.2) (krin (N := 24) rfl (by decide) c_4))) dM_plan_106 ?_
                      refine kw_goto (tgt := 132) C dM_plan_107 (by decide) ?_
                      refine kw_istore (lv' := [(7, .int ((m_persons gu) ((24 * r + h_).toNatClampNeg))), (6, .int ((24 * r) + h_)), (5, .int 1), (0, .ref (am 0)), (1, .int r), (2, .int h_), (3, .int what), (4, .int v)]) C dM_plan_132 (by decide) rfl ?_
                      refine kw_aload_n C 3 dM_plan_134 rfl rfl ?_
                      refine kw_get (v := .ref (am 18)) C 0 rfl rfl ku_M 22 (by decide) kt_578 rfl dM_plan_135 ?_
                      refine kw_iload C 1 dM_plan_138 rfl ?_
                      refine kw_iload_n C 6 dM_plan_140 rfl rfl ?_
                      refine kw_if_ne (tgt := 149) C dM_plan_141 (by decide) (fun c_80 => ?_) (fun c_80 => ?_)
                      · skip
                        exact absurd c_7 c_80
                      · skip
                        refine kw_iload C 7 dM_plan_144 rfl ?_
                        refine kw_goto (tgt := 156) C dM_plan_146 (by decide) ?_
                        refine kw_iast C 18 0 rfl rfl (kix_of (kplanM (kin_le (kroomM hI c_1) hI.1.2) (krin (N := 24) rfl (by decide) c_4))) dM_plan_156 (wM_gu k am 0 (m_rooms gu) (m_store gu) (m_mostHeating gu) (m_mostCooling gu) (m_began gu) (m_walls gu) (m_wallRoom gu) (m_wallOther gu) (m_leads gu) (m_windows gu) (m_windowRoom gu) (m_windowSide gu) (m_windowArea gu) (m_windowLimit gu) (m_outside gu) (m_sun gu) (upd (m_persons gu) ((24 * r + h_).toNatClampNeg) v) (m_set gu) (m_cool gu) (m_low gu) (m_high gu) gv) rfl ?_
                        refine kw_aload_n C 3 dM_plan_157 rfl rfl ?_
                        refine kw_get (v := .ref (am 19)) C 0 rfl rfl ku_M 23 (by decide) kt_579 rfl dM_plan_158 ?_
                        refine kw_iload C 1 dM_plan_161 rfl ?_
                        refine kw_iload_n C 6 dM_plan_163 rfl rfl ?_
                        refine kw_iconst (v := 1) C dM_plan_164 (by decide) ?_
                        refine kw_icmp_ne (tgt := 173) C dM_plan_165 (by decide) (fun c_81 => ?_) (fun c_81 => ?_)
                        · skip
                          refine kw_aload_n C 3 dM_plan_173 rfl rfl ?_
                          refine kw_get (v := .ref (am 19)) C 0 rfl rfl ku_M 23 (by decide) kt_579 rfl dM_plan_174 ?_
                          refine kw_iload C 1 dM_plan_177 rfl ?_
                          refine kw_iald C 19 0 rfl rfl (kix_of (kplanM (kin_le (kroomM hI c_1) hI.1.2) (krin (N := 24) rfl (by decide) c_4))) dM_plan_179 ?_
                          refine kw_iast C 19 0 rfl rfl (kix_of (kplanM (kin_le (kroomM hI c_1) hI.1.2) (krin (N := 24) rfl (by decide) c_4))) dM_plan_180 (wM_gu k am 0 (m_rooms gu) (m_store gu) (m_mostHeating gu) (m_mostCooling gu) (m_began gu) (m_walls gu) (m_wallRoom gu) (m_wallOther gu) (m_leads gu) (m_windows gu) (m_windowRoom gu) (m_windowSide gu) (m_windowArea gu) (m_windowLimit gu) (m_outside gu) (m_sun gu) (upd (m_persons gu) ((24 * r + h_).toNatClampNeg) v) (upd (m_set gu) ((24 * r + h_).toNatClampNeg) ((m_set gu) ((24 * r + h_).toNatClampNeg))) (m_cool gu) (m_low gu) (m_high gu) gv) rfl ?_
                          refine kw_aload_n C 3 dM_plan_181 rfl rfl ?_
                          refine kw_get (v := .ref (am 20)) C 0 rfl rfl ku_M 24 (by decide) kt_580 rfl dM_plan_182 ?_
                          refine kw_iload C 1 dM_plan_185 rfl ?_
                          refine kw_iload_n C 6 dM_plan_187 rfl rfl ?_
                          refine kw_iconst (v := 2) C dM_plan_188 (by decide) ?_
                          refine kw_icmp_ne (tgt := 197) C dM_plan_189 (by decide) (fun c_82 => ?_) (fun c_82 => ?_)
                          · skip
                            exact absurd c_73 c_82
                          · skip
                            refine kw_iload C 7 dM_plan_192 rfl ?_
                            refine kw_goto (tgt := 204) C dM_plan_194 (by decide) ?_
                            refine kw_iast C 20 0 rfl rfl (kix_of (kplanM (kin_le (kroomM hI c_1) hI.1.2) (krin (N := 24) rfl (by decide) c_4))) dM_plan_204 (wM_gu k am 0 (m_rooms gu) (m_store gu) (m_mostHeating gu) (m_mostCooling gu) (m_began gu) (m_walls gu) (m_wallRoom gu) (m_wallOther gu) (m_leads gu) (m_windows gu) (m_windowRoom gu) (m_windowSide gu) (m_windowArea gu) (m_windowLimit gu) (m_outside gu) (m_sun gu) (upd (m_persons gu) ((24 * r + h_).toNatClampNeg) v) (upd (m_set gu) ((24 * r + h_).toNatClampNeg) ((m_set gu) ((24 * r + h_).toNatClampNeg))) (upd (m_cool gu) ((24 * r + h_).toNatClampNeg) v) (m_low gu) (m_high gu) gv) rfl ?_
                            refine kw_iload C 0 dM_plan_205 rfl ?_
                            refine kw_eq rfl rfl (mk_wM_gu.trans (congrArg (fun z90 => wM k am z90 gv) (show (0, (m_rooms gu), (m_store gu), (m_mostHeating gu), (m_mostCooling gu), (m_began gu), (m_walls gu), (m_wallRoom gu), (m_wallOther gu), (m_leads gu), (m_windows gu), (m_windowRoom gu), (m_windowSide gu), (m_windowArea gu), (m_windowLimit gu), (m_outside gu), (m_sun gu), (upd (m_persons gu) ((24 * r + h_).toNatClampNeg) v), (upd (m_set gu) ((24 * r + h_).toNatClampNeg) ((m_set gu) ((24 * r + h_).toNatClampNeg))), (upd (m_cool gu) ((24 * r + h_).toNatClampNeg) v), (m_low gu), (m_high gu)) = sguM_plan gu gv r h_ what v from by unfold sguM_plan; rw [if_neg c_1, if_neg c_4, if_pos c_7, if_pos c_48, if_neg c_56, if_pos c_73, if_pos c_76]))) ?_
                            exact kw_iret C hr hlocks (by unfold rM_plan; rw [if_neg c_1, if_neg c_4, if_pos c_7, if_pos c_48, if_neg c_56, if_pos c_73, if_pos c_76]) dM_plan_207
                        · skip
                          exact absurd c_81 c_56
                  · skip
                    exact absurd (by decide) c_78
              · skip
                refine kw_iload C 4 dM_plan_50 rfl ?_
                refine kw_callSi (st := []) C (cM_isWarmth l D k v) (va_cwS 1 C.1.2.2.2.2 (kgO kt_679 kt_680 kt_5 kt_681) rfl rfl rfl kdM_isWarmth ⟨Nat.le_of_ble_eq_true rfl, Nat.le_of_ble_eq_true rfl⟩) [] rfl rfl rfl rfl (Nat.le_of_ble_eq_true rfl) dM_plan_52 ⟨Nat.zero_le _, Nat.zero_le _⟩ rfl (wM k am gu gv) rfl ?_
                refine kw_if_eq (tgt := 62) C dM_plan_55 (by decide) (fun c_83 => ?_) (fun c_83 => ?_)
                · skip
                  refine kw_iconst (v := 0) C dM_plan_62 (by decide) ?_
                  refine kw_istore (lv' := [(5, .int 0), (0, .ref (am 0)), (1, .int r), (2, .int h_), (3, .int what), (4, .int v)]) C dM_plan_63 (by decide) rfl ?_
                  refine kw_aload_n C 1 dM_plan_65 rfl rfl ?_
                  refine kw_iload C 0 dM_plan_66 rfl ?_
                  refine kw_if_eq (tgt := 75) C dM_plan_68 (by decide) (fun c_84 => ?_) (fun c_84 => ?_)
                  · skip
                    refine kw_iconst (v := 1) C dM_plan_75 (by decide) ?_
                    refine kw_put C 0 rfl rfl ku_M tM_ok nM 0 (by decide) kt_556 rfl (ty := .int) (by decide +kernel) rfl rfl (Nat.le_of_ble_eq_true rfl) dM_plan_76 (wM_gu k am 1 (m_rooms gu) (m_store gu) (m_mostHeating gu) (m_mostCooling gu) (m_began gu) (m_walls gu) (m_wallRoom gu) (m_wallOther gu) (m_leads gu) (m_windows gu) (m_windowRoom gu) (m_windowSide gu) (m_windowArea gu) (m_windowLimit gu) (m_outside gu) (m_sun gu) (m_persons gu) (m_set gu) (m_cool gu) (m_low gu) (m_high gu) gv) rfl ?_
                    refine kw_aload_n C 1 dM_plan_79 rfl rfl ?_
                    refine kw_get (v := .int 1) C 0 rfl rfl ku_M 0 (by decide) kt_556 rfl dM_plan_80 ?_
                    refine kw_if_le (tgt := 88) C dM_plan_83 (by decide) (fun c_85 => ?_) (fun c_85 => ?_)
                    · skip
                      exact absurd c_85 (by decide)
                    · skip
                      refine kw_iconst (v := 0) C dM_plan_86 (by decide) ?_
                      refine kw_eq rfl rfl (mk_wM_gu.trans (congrArg (fun z90 => wM k am z90 gv) (show (1, (m_rooms gu), (m_store gu), (m_mostHeating gu), (m_mostCooling gu), (m_began gu), (m_walls gu), (m_wallRoom gu), (m_wallOther gu), (m_leads gu), (m_windows gu), (m_windowRoom gu), (m_windowSide gu), (m_windowArea gu), (m_windowLimit gu), (m_outside gu), (m_sun gu), (m_persons gu), (m_set gu), (m_cool gu), (m_low gu), (m_high gu)) = sguM_plan gu gv r h_ what v from by unfold sguM_plan; rw [if_neg c_1, if_neg c_4, if_pos c_7, if_pos c_48, if_neg c_56, if_pos c_73, if_neg c_76, if_pos c_83]))) ?_
                      exact kw_iret C hr hlocks (by unfold rM_plan; rw [if_neg c_1, if_neg c_4, if_pos c_7, if_pos c_48, if_neg c_56, if_pos c_73, if_neg c_76, if_pos c_83]) dM_plan_87
                  · skip
                    exact absurd (by decide) c_84
                · skip
                  refine kw_iconst (v := 1) C dM_plan_58 (by decide) ?_
                  refine kw_goto (tgt := 63) C dM_plan_59 (by decide) ?_
                  refine kw_istore (lv' := [(5, .int 1), (0, .ref (am 0)), (1, .int r), (2, .int h_), (3, .int what), (4, .int v)]) C dM_plan_63 (by decide) rfl ?_
                  refine kw_aload_n C 1 dM_plan_65 rfl rfl ?_
                  refine kw_iload C 0 dM_plan_66 rfl ?_
                  refine kw_if_eq (tgt := 75) C dM_plan_68 (by decide) (fun c_86 => ?_) (fun c_86 => ?_)
                  · skip
                    exact absurd c_86 (by decide)
                  · skip
                    refine kw_iconst (v := 0) C dM_plan_71 (by decide) ?_
                    refine kw_goto (tgt := 76) C dM_plan_72 (by decide) ?_
                    refine kw_put C 0 rfl rfl ku_M tM_ok nM 0 (by decide) kt_556 rfl (ty := .int) (by decide +kernel) rfl rfl (Nat.le_of_ble_eq_true rfl) dM_plan_76 (wM_gu k am 0 (m_rooms gu) (m_store gu) (m_mostHeating gu) (m_mostCooling gu) (m_began gu) (m_walls gu) (m_wallRoom gu) (m_wallOther gu) (m_leads gu) (m_windows gu) (m_windowRoom gu) (m_windowSide gu) (m_windowArea gu) (m_windowLimit gu) (m_outside gu) (m_sun gu) (m_persons gu) (m_set gu) (m_cool gu) (m_low gu) (m_high gu) gv) rfl ?_
                    refine kw_aload_n C 1 dM_plan_79 rfl rfl ?_
                    refine kw_get (v := .int 0) C 0 rfl rfl ku_M 0 (by decide) kt_556 rfl dM_plan_80 ?_
                    refine kw_if_le (tgt := 88) C dM_plan_83 (by decide) (fun c_87 => ?_) (fun c_87 => ?_)
                    · skip
                      refine kw_bipush (v := 24) C dM_plan_88 (by decide) ?_
                      refine kw_iload_n C 2 dM_plan_90 rfl rfl ?_
                      refine kw_imul C dM_plan_91 ?_
                      refine kw_iload_n C 3 dM_plan_92 rfl rfl ?_
                      refine kw_iadd C dM_plan_93 ?_
                      refine kw_istore (lv' := [(6, .int ((24 * r) + h_)), (5, .int 1), (0, .ref (am 0)), (1, .int r), (2, .int h_), (3, .int what), (4, .int v)]) C dM_plan_94 (by decide) rfl ?_
                      refine kw_iload_n C 5 dM_plan_96 rfl rfl ?_
                      refine kw_if_ne (tgt := 110) C dM_plan_97 (by decide) (fun c_88 => ?_) (fun c_88 => ?_)
                      · skip
                        exact absurd c_7 c_88
                      · skip
                        refine kw_aload_n C 2 dM_plan_100 rfl rfl ?_
                        refine kw_get (v := .ref (am 18)) C 0 rfl rfl ku_M 22 (by decide) kt_578 rfl dM_plan_101 ?_
                        refine kw_iload C 0 dM_plan_104 rfl ?_
                        refine kw_iald C 18 0 rfl rfl (kix_of (kplanM (kin_le (kroomM hI c_1) hI.1.2) (krin (N := 24) rfl (by decide) c_4))) dM_plan_106 ?_
                        refine kw_goto (tgt := 132) C dM_plan_107 (by decide) ?_
                        refine kw_istore (lv' := [(7, .int ((m_persons gu) ((24 * r + h_).toNatClampNeg))), (6, .int ((24 * r) + h_)), (5, .int 1), (0, .ref (am 0)), (1, .int r), (2, .int h_), (3, .int what), (4, .int v)]) C dM_plan_132 (by decide) rfl ?_
                        refine kw_aload_n C 3 dM_plan_134 rfl rfl ?_
                        refine kw_get (v := .ref (am 18)) C 0 rfl rfl ku_M 22 (by decide) kt_578 rfl dM_plan_135 ?_
                        refine kw_iload C 1 dM_plan_138 rfl ?_
                        refine kw_iload_n C 6 dM_plan_140 rfl rfl ?_
                        refine kw_if_ne (tgt := 149) C dM_plan_141 (by decide) (fun c_89 => ?_) (fun c_89 => ?_)
                        · skip
                          exact absurd c_7 c_89
                        · skip
                          refine kw_iload C 7 dM_plan_144 rfl ?_
                          refine kw_goto (tgt := 156) C dM_plan_146 (by decide) ?_
                          refine kw_iast C 18 0 rfl rfl (kix_of (kplanM (kin_le (kroomM hI c_1) hI.1.2) (krin (N := 24) rfl (by decide) c_4))) dM_plan_156 (wM_gu k am 0 (m_rooms gu) (m_store gu) (m_mostHeating gu) (m_mostCooling gu) (m_began gu) (m_walls gu) (m_wallRoom gu) (m_wallOther gu) (m_leads gu) (m_windows gu) (m_windowRoom gu) (m_windowSide gu) (m_windowArea gu) (m_windowLimit gu) (m_outside gu) (m_sun gu) (upd (m_persons gu) ((24 * r + h_).toNatClampNeg) v) (m_set gu) (m_cool gu) (m_low gu) (m_high gu) gv) rfl ?_
                          refine kw_aload_n C 3 dM_plan_157 rfl rfl ?_
                          refine kw_get (v := .ref (am 19)) C 0 rfl rfl ku_M 23 (by decide) kt_579 rfl dM_plan_158 ?_
                          refine kw_iload C 1 dM_plan_161 rfl ?_
                          refine kw_iload_n C 6 dM_plan_163 rfl rfl ?_
                          refine kw_iconst (v := 1) C dM_plan_164 (by decide) ?_
                          refine kw_icmp_ne (tgt := 173) C dM_plan_165 (by decide) (fun c_90 => ?_) (fun c_90 => ?_)
                          · skip
                            refine kw_aload_n C 3 dM_plan_173 rfl rfl ?_
                            refine kw_get (v := .ref (am 19)) C 0 rfl rfl ku_M 23 (by decide) kt_579 rfl dM_plan_174 ?_
                            refine kw_iload C 1 dM_plan_177 rfl ?_
                            refine kw_iald C 19 0 rfl rfl (kix_of (kplanM (kin_le (kroomM hI c_1) hI.1.2) (krin (N := 24) rfl (by decide) c_4))) dM_plan_179 ?_
                            refine kw_iast C 19 0 rfl rfl (kix_of (kplanM (kin_le (kroomM hI c_1) hI.1.2) (krin (N := 24) rfl (by decide) c_4))) dM_plan_180 (wM_gu k am 0 (m_rooms gu) (m_store gu) (m_mostHeating gu) (m_mostCooling gu) (m_began gu) (m_walls gu) (m_wallRoom gu) (m_wallOther gu) (m_leads gu) (m_windows gu) (m_windowRoom gu) (m_windowSide gu) (m_windowArea gu) (m_windowLimit gu) (m_outside gu) (m_sun gu) (upd (m_persons gu) ((24 * r + h_).toNatClampNeg) v) (upd (m_set gu) ((24 * r + h_).toNatClampNeg) ((m_set gu) ((24 * r + h_).toNatClampNeg))) (m_cool gu) (m_low gu) (m_high gu) gv) rfl ?_
                            refine kw_aload_n C 3 dM_plan_181 rfl rfl ?_
                            refine kw_get (v := .ref (am 20)) C 0 rfl rfl ku_M 24 (by decide) kt_580 rfl dM_plan_182 ?_
                            refine kw_iload C 1 dM_plan_185 rfl ?_
                            refine kw_iload_n C 6 dM_plan_187 rfl rfl ?_
                            refine kw_iconst (v := 2) C dM_plan_188 (by decide) ?_
                            refine kw_icmp_ne (tgt := 197) C dM_plan_189 (by decide) (fun c_91 => ?_) (fun c_91 => ?_)
                            · skip
                              exact absurd c_73 c_91
                            · skip
                              refine kw_iload C 7 dM_plan_192 rfl ?_
                              refine kw_goto (tgt := 204) C dM_plan_194 (by decide) ?_
                              refine kw_iast C 20 0 rfl rfl (kix_of (kplanM (kin_le (kroomM hI c_1) hI.1.2) (krin (N := 24) rfl (by decide) c_4))) dM_plan_204 (wM_gu k am 0 (m_rooms gu) (m_store gu) (m_mostHeating gu) (m_mostCooling gu) (m_began gu) (m_walls gu) (m_wallRoom gu) (m_wallOther gu) (m_leads gu) (m_windows gu) (m_windowRoom gu) (m_windowSide gu) (m_windowArea gu) (m_windowLimit gu) (m_outside gu) (m_sun gu) (upd (m_persons gu) ((24 * r + h_).toNatClampNeg) v) (upd (m_set gu) ((24 * r + h_).toNatClampNeg) ((m_set gu) ((24 * r + h_).toNatClampNeg))) (upd (m_cool gu) ((24 * r + h_).toNatClampNeg) v) (m_low gu) (m_high gu) gv) rfl ?_
                              refine kw_iload C 0 dM_plan_205 rfl ?_
                              refine kw_eq rfl rfl (mk_wM_gu.trans (congrArg (fun z90 => wM k am z90 gv) (show (0, (m_rooms gu), (m_store gu), (m_mostHeating gu), (m_mostCooling gu), (m_began gu), (m_walls gu), (m_wallRoom gu), (m_wallOther gu), (m_leads gu), (m_windows gu), (m_windowRoom gu), (m_windowSide gu), (m_windowArea gu), (m_windowLimit gu), (m_outside gu), (m_sun gu), (upd (m_persons gu) ((24 * r + h_).toNatClampNeg) v), (upd (m_set gu) ((24 * r + h_).toNatClampNeg) ((m_set gu) ((24 * r + h_).toNatClampNeg))), (upd (m_cool gu) ((24 * r + h_).toNatClampNeg) v), (m_low gu), (m_high gu)) = sguM_plan gu gv r h_ what v from by unfold sguM_plan; rw [if_neg c_1, if_neg c_4, if_pos c_7, if_pos c_48, if_neg c_56, if_pos c_73, if_neg c_76, if_neg c_83]))) ?_
                              exact kw_iret C hr hlocks (by unfold rM_plan; rw [if_neg c_1, if_neg c_4, if_pos c_7, if_pos c_48, if_neg c_56, if_pos c_73, if_neg c_76, if_neg c_83]) dM_plan_207
                          · skip
                            exact absurd c_90 c_56
                    · skip
                      exact absurd (by decide) c_87
