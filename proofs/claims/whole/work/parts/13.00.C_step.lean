theorem khour {c : CS} {h : HS} (ho : ¬ c_over c < 0) : vp_in (rC_hourOfDay c h) 24 := by
  obtain ⟨j, hj, e⟩ := nI_of ho
  have e4 : c_over c / 4 = nI (j / 4) := by rw [e, show (4 : Int32) = nI 4 from rfl, pk_div hj (by decide) (by decide)]
  have : rC_hourOfDay c h = nI (j / 4 % 24) := by
    show c_over c / 4 - c_over c / 4 / 24 * 24 = _
    rw [e4, show (24 : Int32) = nI 24 from rfl, pk_rem (by omega) (by decide) (by decide)]
  rw [this]
  exact vp_in_nI (Nat.mod_lt _ (by decide)) (by decide)
noncomputable def bC_step_7 (z : CS) (c : CS) (h : HS) (hour : Int32) (i : Nat) : CS := ((c_over z), (c_setRoom z), (c_setTried z), (c_setFrom z), (c_mostRoom z), (c_mostTried z), (c_fellShort z), (c_begun z), (c_fromSun z), (c_fromPersons z), (c_goneOut z), (c_heat z), (vp_updL (c_warmth z) i (rC_warmthOf z h (nI i))), (c_given z), (c_taken z), (c_greatest z), (c_uneasy z))
noncomputable def fC_step_7 (c : CS) (h : HS) (hour : Int32) (n : Nat) : CS := Nat.rec (motive := fun _ => CS) c (fun i z => bC_step_7 z c h hour i) n
set_option maxRecDepth 100000 in
set_option maxHeartbeats 4000000 in
theorem lC_step_7 {l : Launch} {p : Program} {e : Env} {s : State} {m : MethodId} {args : Array Value} {below : List Frame} {meth : Method} {c0 : Code} {D : va_G} {A : Nat → Prop} {Q : State → Prop} (k : Nat → ClassId) (ah : Nat → Nat) (ar : Nat → Nat → Nat) (ac : Nat → Nat) (c : CS) (h : HS) (hour : Int32) (hI : kInv h) (hh : vp_in hour 24) (C : kC p s m args c0 bC_step "RoomHours$Course" kT D kcl (kty k) A 3) (kk : kW p l e ({ frames := 3, cells := 0, slots := 0, locals := 74 }) s m args below meth c0 D kcl A 3 0 0 Q 35 [(2, .int (nI (hnR h))), (0, .ref (ac 0)), (1, .int hour)] [] (wC k ah ar ac (fC_step_7 c h hour (hnR h)) h)) : ∀ (n i : Nat), i ≤ hnR h → hnR h < i + n → kW p l e ({ frames := 3, cells := 0, slots := 0, locals := 74 }) s m args below meth c0 D kcl A 3 0 0 Q 7 [(2, .int (nI i)), (0, .ref (ac 0)), (1, .int hour)] [] (wC k ah ar ac (fC_step_7 c h hour i) h) := by
  intro n
  induction n with
  | zero => exact fun i h1 h2 => absurd h2 (by omega)
  | succ n ih =>
    intro i hi hin
    have hb8 := hI.1.2
    refine kw_iload_n C 0 dC_step_7 rfl rfl ?_
    refine kw_aload_n C 1 dC_step_8 rfl rfl ?_
    refine kw_get (v := .ref (ah 0)) C 0 rfl rfl ku_C 0 (by decide) kt_122 rfl dC_step_9 ?_
    refine kw_get (v := .int (h_rooms h)) C 7 rfl rfl ku_H 0 (by decide) kt_35 rfl dC_step_12 ?_
    refine kw_icmp_ge (tgt := 35) C dC_step_15 (by decide) (fun c_1 => ?_) (fun c_1 => ?_)
    · skip
      have e9 : i = hnR h := klp1 hI.1.1 (by omega) hi c_1
      subst e9
      refine kw_sub [0, 1, 2] rfl ?_
      exact kk
    · skip
      have hlt : i < hnR h := klp2 hI.1.1 (by omega) c_1
      refine kw_aload_n C 1 dC_step_18 rfl rfl ?_
      refine kw_get (v := .ref (ac 2)) C 0 rfl rfl ku_C 3 (by decide) kt_127 rfl dC_step_19 ?_
      refine kw_iload_n C 0 dC_step_22 rfl rfl ?_
      refine kw_aload_n C 1 dC_step_23 rfl rfl ?_
      refine kw_iload_n C 0 dC_step_24 rfl rfl ?_
      refine kw_callAl (w1 := (wC k ah ar ac (fC_step_7 c h hour i) h)) (st := [.int (nI i), .ref (ac 2)]) C (cC_warmthOf l D k ah ar ac (fC_step_7 c h hour i) h (nI i) (vp_in_nI (by omega) (by decide))) (cwV 1 C.1.2.2.2.2 (kgV kt_426 kt_427 kt_428 kt_4 kt_429) rfl rfl rfl kdC_warmthOf ⟨Nat.le_of_ble_eq_true rfl, Nat.le_of_ble_eq_true rfl⟩) 0 0 rfl rfl rfl rfl rfl (Nat.le_of_ble_eq_true rfl) dC_step_25 ⟨Nat.zero_le _, Nat.zero_le _⟩ (ad_wC.trans ad_wC.symm) ?_
      refine kw_last C 2 1 rfl rfl (kix_nI (by omega) (by decide)) dC_step_28 (wC_c k ah ar ac (c_over (fC_step_7 c h hour i)) (c_setRoom (fC_step_7 c h hour i)) (c_setTried (fC_step_7 c h hour i)) (c_setFrom (fC_step_7 c h hour i)) (c_mostRoom (fC_step_7 c h hour i)) (c_mostTried (fC_step_7 c h hour i)) (c_fellShort (fC_step_7 c h hour i)) (c_begun (fC_step_7 c h hour i)) (c_fromSun (fC_step_7 c h hour i)) (c_fromPersons (fC_step_7 c h hour i)) (c_goneOut (fC_step_7 c h hour i)) (c_heat (fC_step_7 c h hour i)) (vp_updL (c_warmth (fC_step_7 c h hour i)) i (rC_warmthOf (fC_step_7 c h hour i) h (nI i))) (c_given (fC_step_7 c h hour i)) (c_taken (fC_step_7 c h hour i)) (c_greatest (fC_step_7 c h hour i)) (c_uneasy (fC_step_7 c h hour i)) h) rfl ?_
      refine kw_iinc (v := nI (i + 1)) (lv' := [(2, .int (nI (i + 1))), (0, .ref (ac 0)), (1, .int hour)]) C 0 dC_step_29 rfl (nI_1 i) (by decide) rfl ?_
      refine kw_goto (tgt := 7) C dC_step_32 (by decide) ?_
      refine kw_sub [0, 1, 2] rfl ?_
      refine kw_eq rfl rfl (mk_wC_c.trans (congrArg (fun z90 => wC k ah ar ac z90 h) ((show ((c_over (fC_step_7 c h hour i)), (c_setRoom (fC_step_7 c h hour i)), (c_setTried (fC_step_7 c h hour i)), (c_setFrom (fC_step_7 c h hour i)), (c_mostRoom (fC_step_7 c h hour i)), (c_mostTried (fC_step_7 c h hour i)), (c_fellShort (fC_step_7 c h hour i)), (c_begun (fC_step_7 c h hour i)), (c_fromSun (fC_step_7 c h hour i)), (c_fromPersons (fC_step_7 c h hour i)), (c_goneOut (fC_step_7 c h hour i)), (c_heat (fC_step_7 c h hour i)), (vp_updL (c_warmth (fC_step_7 c h hour i)) i (rC_warmthOf (fC_step_7 c h hour i) h (nI i))), (c_given (fC_step_7 c h hour i)), (c_taken (fC_step_7 c h hour i)), (c_greatest (fC_step_7 c h hour i)), (c_uneasy (fC_step_7 c h hour i))) = (bC_step_7 (fC_step_7 c h hour i) c h hour i) from by unfold bC_step_7; rfl).trans (show (bC_step_7 (fC_step_7 c h hour i) c h hour i) = (fC_step_7 c h hour (i + 1)) from rfl)))) ?_
      exact ih (i + 1) (by omega) (by omega)
noncomputable def bC_step_47 (z : CS) (c : CS) (h : HS) (hour : Int32) (i : Nat) : CS := (scC_coolDown (scC_heatUp (scC_bringPersons z h (nI i) hour) h (nI i) hour) h (nI i) hour)
noncomputable def fC_step_47 (c : CS) (h : HS) (hour : Int32) (n : Nat) : CS := Nat.rec (motive := fun _ => CS) c (fun i z => bC_step_47 z c h hour i) n
set_option maxRecDepth 100000 in
set_option maxHeartbeats 4000000 in
theorem lC_step_47 {l : Launch} {p : Program} {e : Env} {s : State} {m : MethodId} {args : Array Value} {below : List Frame} {meth : Method} {c0 : Code} {D : va_G} {A : Nat → Prop} {Q : State → Prop} (k : Nat → ClassId) (ah : Nat → Nat) (ar : Nat → Nat → Nat) (ac : Nat → Nat) (c : CS) (h : HS) (hour : Int32) (hI : kInv h) (hh : vp_in hour 24) (C : kC p s m args c0 bC_step "RoomHours$Course" kT D kcl (kty k) A 3) (kk : kW p l e ({ frames := 3, cells := 0, slots := 0, locals := 74 }) s m args below meth c0 D kcl A 3 0 0 Q 82 [(2, .int (nI (hnR h))), (0, .ref (ac 0)), (1, .int hour)] [] (wC k ah ar ac (fC_step_47 c h hour (hnR h)) h)) : ∀ (n i : Nat), i ≤ hnR h → hnR h < i + n → kW p l e ({ frames := 3, cells := 0, slots := 0, locals := 74 }) s m args below meth c0 D kcl A 3 0 0 Q 47 [(2, .int (nI i)), (0, .ref (ac 0)), (1, .int hour)] [] (wC k ah ar ac (fC_step_47 c h hour i) h) := by
  intro n
  induction n with
  | zero => exact fun i h1 h2 => absurd h2 (by omega)
  | succ n ih =>
    intro i hi hin
    have hb8 := hI.1.2
    refine kw_iload_n C 0 dC_step_47 rfl rfl ?_
    refine kw_aload_n C 1 dC_step_48 rfl rfl ?_
    refine kw_get (v := .ref (ah 0)) C 0 rfl rfl ku_C 0 (by decide) kt_122 rfl dC_step_49 ?_
    refine kw_get (v := .int (h_rooms h)) C 7 rfl rfl ku_H 0 (by decide) kt_35 rfl dC_step_52 ?_
    refine kw_icmp_ge (tgt := 82) C dC_step_55 (by decide) (fun c_1 => ?_) (fun c_1 => ?_)
    · skip
      have e9 : i = hnR h := klp1 hI.1.1 (by omega) hi c_1
      subst e9
      refine kw_sub [0, 1, 2] rfl ?_
      exact kk
    · skip
      have hlt : i < hnR h := klp2 hI.1.1 (by omega) c_1
      refine kw_aload_n C 1 dC_step_58 rfl rfl ?_
      refine kw_iload_n C 0 dC_step_59 rfl rfl ?_
      refine kw_iload_n C 2 dC_step_60 rfl rfl ?_
      refine kw_callAv (w1 := (wC k ah ar ac (scC_bringPersons (fC_step_47 c h hour i) h (nI i) hour) h)) (st := []) C (cC_bringPersons l D k ah ar ac (fC_step_47 c h hour i) h (nI i) hour (vp_in_nI (by omega) (by decide)) (kplan (by omega) hh)) (cwV 2 C.1.2.2.2.2 (kgV kt_442 kt_444 ks_C_bringPersons kt_4 kt_445) rfl rfl rfl kdC_bringPersons ⟨Nat.le_of_ble_eq_true rfl, Nat.le_of_ble_eq_true rfl⟩) 0 0 rfl rfl rfl rfl rfl (Nat.le_of_ble_eq_true rfl) dC_step_61 ⟨Nat.zero_le _, Nat.zero_le _⟩ (ad_wC.trans ad_wC.symm) ?_
      refine kw_aload_n C 1 dC_step_64 rfl rfl ?_
      refine kw_iload_n C 0 dC_step_65 rfl rfl ?_
      refine kw_iload_n C 2 dC_step_66 rfl rfl ?_
      refine kw_callAv (w1 := (wC k ah ar ac (scC_heatUp (scC_bringPersons (fC_step_47 c h hour i) h (nI i) hour) h (nI i) hour) h)) (st := []) C (cC_heatUp l D k ah ar ac (scC_bringPersons (fC_step_47 c h hour i) h (nI i) hour) h (nI i) hour (vp_in_nI (by omega) (by decide)) (kplan (by omega) hh)) (cwV 2 C.1.2.2.2.2 (kgV kt_450 kt_452 ks_C_heatUp kt_4 kt_453) rfl rfl rfl kdC_heatUp ⟨Nat.le_of_ble_eq_true rfl, Nat.le_of_ble_eq_true rfl⟩) 0 0 rfl rfl rfl rfl rfl (Nat.le_of_ble_eq_true rfl) dC_step_67 ⟨Nat.zero_le _, Nat.zero_le _⟩ (ad_wC.trans ad_wC.symm) ?_
      refine kw_aload_n C 1 dC_step_70 rfl rfl ?_
      refine kw_iload_n C 0 dC_step_71 rfl rfl ?_
      refine kw_iload_n C 2 dC_step_72 rfl rfl ?_
      refine kw_callAv (w1 := (wC k ah ar ac (scC_coolDown (scC_heatUp (scC_bringPersons (fC_step_47 c h hour i) h (nI i) hour) h (nI i) hour) h (nI i) hour) h)) (st := []) C (cC_coolDown l D k ah ar ac (scC_heatUp (scC_bringPersons (fC_step_47 c h hour i) h (nI i) hour) h (nI i) hour) h (nI i) hour (vp_in_nI (by omega) (by decide)) (kplan (by omega) hh)) (cwV 2 C.1.2.2.2.2 (kgV kt_469 kt_471 ks_C_coolDown kt_4 kt_472) rfl rfl rfl kdC_coolDown ⟨Nat.le_of_ble_eq_true rfl, Nat.le_of_ble_eq_true rfl⟩) 0 0 rfl rfl rfl rfl rfl (Nat.le_of_ble_eq_true rfl) dC_step_73 ⟨Nat.zero_le _, Nat.zero_le _⟩ (ad_wC.trans ad_wC.symm) ?_
      refine kw_iinc (v := nI (i + 1)) (lv' := [(2, .int (nI (i + 1))), (0, .ref (ac 0)), (1, .int hour)]) C 0 dC_step_76 rfl (nI_1 i) (by decide) rfl ?_
      refine kw_goto (tgt := 47) C dC_step_79 (by decide) ?_
      refine kw_sub [0, 1, 2] rfl ?_
      refine kw_eq rfl rfl ((congrArg (fun z90 => wC k ah ar ac z90 h) ((show (scC_coolDown (scC_heatUp (scC_bringPersons (fC_step_47 c h hour i) h (nI i) hour) h (nI i) hour) h (nI i) hour) = (bC_step_47 (fC_step_47 c h hour i) c h hour i) from by unfold bC_step_47; rfl).trans (show (bC_step_47 (fC_step_47 c h hour i) c h hour i) = (fC_step_47 c h hour (i + 1)) from rfl)))) ?_
      exact ih (i + 1) (by omega) (by omega)
noncomputable def scC_step_z (z1 : CS) (c : CS) (h : HS) : CS := if (rC_hourEnds (((c_over z1) + 1), (c_setRoom z1), (c_setTried z1), (c_setFrom z1), (c_mostRoom z1), (c_mostTried z1), (c_fellShort z1), (c_begun z1), (c_fromSun z1), (c_fromPersons z1), (c_goneOut z1), (c_heat z1), (c_warmth z1), (c_given z1), (c_taken z1), (c_greatest z1), (c_uneasy z1)) h) = 0 then (((c_over z1) + 1), (c_setRoom z1), (c_setTried z1), (c_setFrom z1), (c_mostRoom z1), (c_mostTried z1), (c_fellShort z1), (c_begun z1), (c_fromSun z1), (c_fromPersons z1), (c_goneOut z1), (c_heat z1), (c_warmth z1), (c_given z1), (c_taken z1), (c_greatest z1), (c_uneasy z1)) else (scC_countUneasy (((c_over z1) + 1), (c_setRoom z1), (c_setTried z1), (c_setFrom z1), (c_mostRoom z1), (c_mostTried z1), (c_fellShort z1), (c_begun z1), (c_fromSun z1), (c_fromPersons z1), (c_goneOut z1), (c_heat z1), (c_warmth z1), (c_given z1), (c_taken z1), (c_greatest z1), (c_uneasy z1)) h (rC_hourOfDay c h))
noncomputable def scC_step (c : CS) (h : HS) : CS := scC_step_z (fC_step_47 (scC_passWindows (scC_passWalls (fC_step_7 c h (rC_hourOfDay c h) (hnR h)) h (rC_hourOfDay c h)) h (rC_hourOfDay c h)) h (rC_hourOfDay c h) (hnR h)) c h
set_option maxRecDepth 100000 in
set_option maxHeartbeats 4000000 in
theorem cC_step (l : Launch) (D : va_G) (k : Nat → ClassId) (ah : Nat → Nat) (ar : Nat → Nat → Nat) (ac : Nat → Nat) (c : CS) (h : HS)  (hI : kInv h) (ho : ¬ c_over c < 0) : kMv l yC_step (kwm yC_step bC_step 3 none) ({ frames := 3, cells := 0, slots := 0, locals := 74 }) D kcl (kty k) (wC k ah ar ac c h) (wC k ah ar ac (scC_step c h) h) [.ref (ac 0)] := by
  refine k_entry_v (lv0 := [(0, .ref (ac 0))]) rfl (by decide +kernel) (Nat.le_of_ble_eq_true rfl) rfl ?_
  intro p e s m args below meth c0 C hr hlocks
  have hb8 := hI.1.2
  refine kw_aload_n C 0 dC_step_0 rfl rfl ?_
  refine kw_callAi (w1 := (wC k ah ar ac c h)) (st := []) C (cC_hourOfDay l D k ah ar ac c h) (cwV 0 C.1.2.2.2.2 (kgV kt_422 kt_424 ks_C_hourOfDay kt_4 kt_425) rfl rfl rfl kdC_hourOfDay ⟨Nat.le_of_ble_eq_true rfl, Nat.le_of_ble_eq_true rfl⟩) 0 0 rfl rfl rfl rfl rfl (Nat.le_of_ble_eq_true rfl) dC_step_1 ⟨Nat.zero_le _, Nat.zero_le _⟩ (ad_wC.trans ad_wC.symm) ?_
  refine kw_istore_n (lv' := [(1, .int (rC_hourOfDay c h)), (0, .ref (ac 0))]) C dC_step_4 rfl (by decide) rfl ?_
  refine kw_iconst (v := 0) C dC_step_5 (by decide) ?_
  refine kw_istore_n (lv' := [(2, .int 0), (1, .int (rC_hourOfDay c h)), (0, .ref (ac 0))]) C dC_step_6 rfl (by decide) rfl ?_
  refine kw_sub [0, 2, 1] rfl ?_
  refine lC_step_7 k ah ar ac c h (rC_hourOfDay c h) hI (khour ho) C ?_ (hnR h + 1) 0 (Nat.zero_le _) (by omega)
  refine kw_aload_n C 1 dC_step_35 rfl rfl ?_
  refine kw_iload_n C 2 dC_step_36 rfl rfl ?_
  refine kw_callAv (w1 := (wC k ah ar ac (scC_passWalls (fC_step_7 c h (rC_hourOfDay c h) (hnR h)) h (rC_hourOfDay c h)) h)) (st := []) C (cC_passWalls l D k ah ar ac (fC_step_7 c h (rC_hourOfDay c h) (hnR h)) h (rC_hourOfDay c h) hI (khour ho)) (cwV 1 C.1.2.2.2.2 (kgV kt_433 kt_435 ks_C_passWalls kt_4 kt_436) rfl rfl rfl kdC_passWalls ⟨Nat.le_of_ble_eq_true rfl, Nat.le_of_ble_eq_true rfl⟩) 0 0 rfl rfl rfl rfl rfl (Nat.le_of_ble_eq_true rfl) dC_step_37 ⟨Nat.zero_le _, Nat.zero_le _⟩ (ad_wC.trans ad_wC.symm) ?_
  refine kw_aload_n C 1 dC_step_40 rfl rfl ?_
  refine kw_iload_n C 2 dC_step_41 rfl rfl ?_
  refine kw_callAv (w1 := (wC k ah ar ac (scC_passWindows (scC_passWalls (fC_step_7 c h (rC_hourOfDay c h) (hnR h)) h (rC_hourOfDay c h)) h (rC_hourOfDay c h)) h)) (st := []) C (cC_passWindows l D k ah ar ac (scC_passWalls (fC_step_7 c h (rC_hourOfDay c h) (hnR h)) h (rC_hourOfDay c h)) h (rC_hourOfDay c h) hI (khour ho)) (cwV 1 C.1.2.2.2.2 (kgV kt_438 kt_440 ks_C_passWindows kt_4 kt_441) rfl rfl rfl kdC_passWindows ⟨Nat.le_of_ble_eq_true rfl, Nat.le_of_ble_eq_true rfl⟩) 0 0 rfl rfl rfl rfl rfl (Nat.le_of_ble_eq_true rfl) dC_step_42 ⟨Nat.zero_le _, Nat.zero_le _⟩ (ad_wC.trans ad_wC.symm) ?_
  refine kw_iconst (v := 0) C dC_step_45 (by decide) ?_
  refine kw_istore_n (lv' := [(2, .int 0), (0, .ref (ac 0)), (1, .int (rC_hourOfDay c h))]) C dC_step_46 rfl (by decide) rfl ?_
  refine kw_sub [0, 1, 2] rfl ?_
  refine lC_step_47 k ah ar ac (scC_passWindows (scC_passWalls (fC_step_7 c h (rC_hourOfDay c h) (hnR h)) h (rC_hourOfDay c h)) h (rC_hourOfDay c h)) h (rC_hourOfDay c h) hI (khour ho) C ?_ (hnR h + 1) 0 (Nat.zero_le _) (by omega)
  generalize ez1 : (fC_step_47 (scC_passWindows (scC_passWalls (fC_step_7 c h (rC_hourOfDay c h) (hnR h)) h (rC_hourOfDay c h)) h (rC_hourOfDay c h)) h (rC_hourOfDay c h) (hnR h)) = z1
  refine kw_aload_n C 1 dC_step_82 rfl rfl ?_
  refine kw_dup C dC_step_83 rfl ?_
  refine kw_get (v := .int (c_over z1)) C 0 rfl rfl ku_C 1 (by decide) kt_123 rfl dC_step_84 ?_
  refine kw_iconst (v := 1) C dC_step_87 (by decide) ?_
  refine kw_iadd C dC_step_88 ?_
  refine kw_put C 0 rfl rfl ku_C tC_ok nC 1 (by decide) kt_123 rfl (ty := .int) (by decide +kernel) rfl rfl (Nat.le_of_ble_eq_true rfl) dC_step_89 (wC_c k ah ar ac ((c_over z1) + 1) (c_setRoom z1) (c_setTried z1) (c_setFrom z1) (c_mostRoom z1) (c_mostTried z1) (c_fellShort z1) (c_begun z1) (c_fromSun z1) (c_fromPersons z1) (c_goneOut z1) (c_heat z1) (c_warmth z1) (c_given z1) (c_taken z1) (c_greatest z1) (c_uneasy z1) h) rfl ?_
  refine kw_aload_n C 1 dC_step_92 rfl rfl ?_
  refine kw_callAi (w1 := (wC_c k ah ar ac ((c_over z1) + 1) (c_setRoom z1) (c_setTried z1) (c_setFrom z1) (c_mostRoom z1) (c_mostTried z1) (c_fellShort z1) (c_begun z1) (c_fromSun z1) (c_fromPersons z1) (c_goneOut z1) (c_heat z1) (c_warmth z1) (c_given z1) (c_taken z1) (c_greatest z1) (c_uneasy z1) h)) (st := []) C (cC_hourEnds l D k ah ar ac (((c_over z1) + 1), (c_setRoom z1), (c_setTried z1), (c_setFrom z1), (c_mostRoom z1), (c_mostTried z1), (c_fellShort z1), (c_begun z1), (c_fromSun z1), (c_fromPersons z1), (c_goneOut z1), (c_heat z1), (c_warmth z1), (c_given z1), (c_taken z1), (c_greatest z1), (c_uneasy z1)) h) (cwV 0 C.1.2.2.2.2 (kgV kt_473 kt_475 ks_C_hourEnds kt_4 kt_476) rfl rfl rfl kdC_hourEnds ⟨Nat.le_of_ble_eq_true rfl, Nat.le_of_ble_eq_true rfl⟩) 0 0 rfl rfl rfl rfl rfl (Nat.le_of_ble_eq_true rfl) dC_step_93 ⟨Nat.zero_le _, Nat.zero_le _⟩ (ad_wC_c.trans ad_wC_c.symm) ?_
  refine kw_if_eq (tgt := 104) C dC_step_96 (by decide) (fun c_1 => ?_) (fun c_1 => ?_)
  · skip
    refine kw_eq rfl rfl (mk_wC_c.trans (congrArg (fun z90 => wC k ah ar ac z90 h) ((show (((c_over z1) + 1), (c_setRoom z1), (c_setTried z1), (c_setFrom z1), (c_mostRoom z1), (c_mostTried z1), (c_fellShort z1), (c_begun z1), (c_fromSun z1), (c_fromPersons z1), (c_goneOut z1), (c_heat z1), (c_warmth z1), (c_given z1), (c_taken z1), (c_greatest z1), (c_uneasy z1)) = scC_step_z z1 c h from by unfold scC_step_z; rw [if_pos c_1]).trans (show scC_step_z z1 c h = scC_step c h from by rw [← ez1]; rfl)))) ?_
    exact kw_vret C hr hlocks dC_step_104
  · skip
    refine kw_aload_n C 1 dC_step_99 rfl rfl ?_
    refine kw_iload_n C 2 dC_step_100 rfl rfl ?_
    refine kw_callAv (w1 := (wC k ah ar ac (scC_countUneasy (((c_over z1) + 1), (c_setRoom z1), (c_setTried z1), (c_setFrom z1), (c_mostRoom z1), (c_mostTried z1), (c_fellShort z1), (c_begun z1), (c_fromSun z1), (c_fromPersons z1), (c_goneOut z1), (c_heat z1), (c_warmth z1), (c_given z1), (c_taken z1), (c_greatest z1), (c_uneasy z1)) h (rC_hourOfDay c h)) h)) (st := []) C (cC_countUneasy l D k ah ar ac (((c_over z1) + 1), (c_setRoom z1), (c_setTried z1), (c_setFrom z1), (c_mostRoom z1), (c_mostTried z1), (c_fellShort z1), (c_begun z1), (c_fromSun z1), (c_fromPersons z1), (c_goneOut z1), (c_heat z1), (c_warmth z1), (c_given z1), (c_taken z1), (c_greatest z1), (c_uneasy z1)) h (rC_hourOfDay c h) hI (khour ho)) (cwV 1 C.1.2.2.2.2 (kgV kt_477 kt_479 ks_C_countUneasy kt_4 kt_480) rfl rfl rfl kdC_countUneasy ⟨Nat.le_of_ble_eq_true rfl, Nat.le_of_ble_eq_true rfl⟩) 0 0 rfl rfl rfl rfl rfl (Nat.le_of_ble_eq_true rfl) dC_step_101 ⟨Nat.zero_le _, Nat.zero_le _⟩ (ad_wC.trans ad_wC_c.symm) ?_
    refine kw_eq rfl rfl ((congrArg (fun z90 => wC k ah ar ac z90 h) ((show (scC_countUneasy (((c_over z1) + 1), (c_setRoom z1), (c_setTried z1), (c_setFrom z1), (c_mostRoom z1), (c_mostTried z1), (c_fellShort z1), (c_begun z1), (c_fromSun z1), (c_fromPersons z1), (c_goneOut z1), (c_heat z1), (c_warmth z1), (c_given z1), (c_taken z1), (c_greatest z1), (c_uneasy z1)) h (rC_hourOfDay c h)) = scC_step_z z1 c h from by unfold scC_step_z; rw [if_neg c_1]).trans (show scC_step_z z1 c h = scC_step c h from by rw [← ez1]; rfl)))) ?_
    exact kw_vret C hr hlocks dC_step_104
