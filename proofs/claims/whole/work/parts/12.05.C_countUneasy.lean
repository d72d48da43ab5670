noncomputable def bC_countUneasy_2 (z : CS) (c : CS) (h : HS) (hour : Int32) (i : Nat) : CS := if (rC_hasPersons z h (nI i) hour) = 0 then z else (if (lg_cmp (rC_warmthOf z h (nI i)) ((h_low h).toInt64)) < 0 then ((c_over z), (c_setRoom z), (c_setTried z), (c_setFrom z), (c_mostRoom z), (c_mostTried z), (c_fellShort z), (c_begun z), (c_fromSun z), (c_fromPersons z), (c_goneOut z), (c_heat z), (c_warmth z), (c_given z), (c_taken z), (c_greatest z), (upd (c_uneasy z) i (((c_uneasy z) i) + 1))) else (if (lg_cmp (rC_warmthOf z h (nI i)) ((h_high h).toInt64)) ≤ 0 then z else ((c_over z), (c_setRoom z), (c_setTried z), (c_setFrom z), (c_mostRoom z), (c_mostTried z), (c_fellShort z), (c_begun z), (c_fromSun z), (c_fromPersons z), (c_goneOut z), (c_heat z), (c_warmth z), (c_given z), (c_taken z), (c_greatest z), (upd (c_uneasy z) i (((c_uneasy z) i) + 1)))))
noncomputable def fC_countUneasy_2 (c : CS) (h : HS) (hour : Int32) (n : Nat) : CS := Nat.rec (motive := fun _ => CS) c (fun i z => bC_countUneasy_2 z c h hour i) n
set_option maxRecDepth 100000 in
set_option maxHeartbeats 4000000 in
theorem lC_countUneasy_2 {l : Launch} {p : Program} {e : Env} {s : State} {m : MethodId} {args : Array Value} {below : List Frame} {meth : Method} {c0 : Code} {D : va_G} {A : Nat → Prop} {Q : State → Prop} (k : Nat → ClassId) (ah : Nat → Nat) (ar : Nat → Nat → Nat) (ac : Nat → Nat) (c : CS) (h : HS) (hour : Int32) (hI : kInv h) (hh : vp_in hour 24) (C : kC p s m args c0 bC_countUneasy "RoomHours$Course" kT D kcl (kty k) A 5) (kk : kW p l e ({ frames := 2, cells := 0, slots := 0, locals := 48 }) s m args below meth c0 D kcl A 5 0 0 Q 70 [(2, .int (nI (hnR h))), (0, .ref (ac 0)), (1, .int hour)] [] (wC k ah ar ac (fC_countUneasy_2 c h hour (hnR h)) h)) : ∀ (n i : Nat), i ≤ hnR h → hnR h < i + n → kW p l e ({ frames := 2, cells := 0, slots := 0, locals := 48 }) s m args below meth c0 D kcl A 5 0 0 Q 2 [(2, .int (nI i)), (0, .ref (ac 0)), (1, .int hour)] [] (wC k ah ar ac (fC_countUneasy_2 c h hour i) h) := by
  intro n
  induction n with
  | zero => exact fun i h1 h2 => absurd h2 (by omega)
  | succ n ih =>
    intro i hi hin
    have hb8 := hI.1.2
    refine kw_iload_n C 0 dC_countUneasy_2 rfl rfl ?_
    refine kw_aload_n C 1 dC_countUneasy_3 rfl rfl ?_
    refine kw_get (v := .ref (ah 0)) C 0 rfl rfl ku_C 0 (by decide) kt_122 rfl dC_countUneasy_4 ?_
    refine kw_get (v := .int (h_rooms h)) C 7 rfl rfl ku_H 0 (by decide) kt_35 rfl dC_countUneasy_7 ?_
    refine kw_icmp_ge (tgt := 70) C dC_countUneasy_10 (by decide) (fun c_1 => ?_) (fun c_1 => ?_)
    · skip
      have e9 : i = hnR h := klp1 hI.1.1 (by omega) hi c_1
      subst e9
      refine kw_sub [0, 1, 2] rfl ?_
      exact kk
    · skip
      have hlt : i < hnR h := klp2 hI.1.1 (by omega) c_1
      refine kw_aload_n C 1 dC_countUneasy_13 rfl rfl ?_
      refine kw_iload_n C 0 dC_countUneasy_14 rfl rfl ?_
      refine kw_callAl (w1 := (wC k ah ar ac (fC_countUneasy_2 c h hour i) h)) (st := []) C (cC_warmthOf l D k ah ar ac (fC_countUneasy_2 c h hour i) h (nI i) (vp_in_nI (by omega) (by decide))) (cwV 1 C.1.2.2.2.2 (kgV kt_426 kt_427 kt_428 kt_4 kt_429) rfl rfl rfl kdC_warmthOf ⟨Nat.le_of_ble_eq_true rfl, Nat.le_of_ble_eq_true rfl⟩) 0 0 rfl rfl rfl rfl rfl (Nat.le_of_ble_eq_true rfl) dC_countUneasy_15 ⟨Nat.zero_le _, Nat.zero_le _⟩ (ad_wC.trans ad_wC.symm) ?_
      refine kw_lstore_n (lv' := [(3, .long (rC_warmthOf (fC_countUneasy_2 c h hour i) h (nI i))), (2, .int (nI i)), (0, .ref (ac 0)), (1, .int hour)]) C dC_countUneasy_18 rfl (by decide) rfl ?_
      refine kw_aload_n C 2 dC_countUneasy_19 rfl rfl ?_
      refine kw_iload_n C 1 dC_countUneasy_20 rfl rfl ?_
      refine kw_iload_n C 3 dC_countUneasy_21 rfl rfl ?_
      refine kw_callAi (w1 := (wC k ah ar ac (fC_countUneasy_2 c h hour i) h)) (st := []) C (cC_hasPersons l D k ah ar ac (fC_countUneasy_2 c h hour i) h (nI i) hour (kplan (by omega) hh)) (cwV 2 C.1.2.2.2.2 (kgV kt_481 kt_483 ks_C_hasPersons kt_4 kt_484) rfl rfl rfl kdC_hasPersons ⟨Nat.le_of_ble_eq_true rfl, Nat.le_of_ble_eq_true rfl⟩) 0 0 rfl rfl rfl rfl rfl (Nat.le_of_ble_eq_true rfl) dC_countUneasy_22 ⟨Nat.zero_le _, Nat.zero_le _⟩ (ad_wC.trans ad_wC.symm) ?_
      refine kw_if_eq (tgt := 64) C dC_countUneasy_25 (by decide) (fun c_2 => ?_) (fun c_2 => ?_)
      · skip
        refine kw_iinc (v := nI (i + 1)) (lv' := [(2, .int (nI (i + 1))), (3, .long (rC_warmthOf (fC_countUneasy_2 c h hour i) h (nI i))), (0, .ref (ac 0)), (1, .int hour)]) C 1 dC_countUneasy_64 rfl (nI_1 i) (by decide) rfl ?_
        refine kw_goto (tgt := 2) C dC_countUneasy_67 (by decide) ?_
        refine kw_sub [0, 2, 3] rfl ?_
        refine kw_eq rfl rfl ((congrArg (fun z90 => wC k ah ar ac z90 h) ((show (fC_countUneasy_2 c h hour i) = (bC_countUneasy_2 (fC_countUneasy_2 c h hour i) c h hour i) from by unfold bC_countUneasy_2; rw [if_pos c_2]).trans (show (bC_countUneasy_2 (fC_countUneasy_2 c h hour i) c h hour i) = (fC_countUneasy_2 c h hour (i + 1)) from rfl)))) ?_
        exact ih (i + 1) (by omega) (by omega)
      · skip
        refine kw_lload_n C 0 dC_countUneasy_28 rfl rfl ?_
        refine kw_aload_n C 2 dC_countUneasy_29 rfl rfl ?_
        refine kw_get (v := .ref (ah 0)) C 0 rfl rfl ku_C 0 (by decide) kt_122 rfl dC_countUneasy_30 ?_
        refine kw_get (v := .int (h_low h)) C 7 rfl rfl ku_H 16 (by decide) kt_74 rfl dC_countUneasy_33 ?_
        refine kw_i2l C dC_countUneasy_36 ?_
        refine kw_lcmp C dC_countUneasy_37 ?_
        refine kw_if_lt (tgt := 54) C dC_countUneasy_38 (by decide) (fun c_3 => ?_) (fun c_3 => ?_)
        · skip
          refine kw_aload_n C 2 dC_countUneasy_54 rfl rfl ?_
          refine kw_get (v := .ref (ac 6)) C 0 rfl rfl ku_C 7 (by decide) kt_134 rfl dC_countUneasy_55 ?_
          refine kw_iload_n C 1 dC_countUneasy_58 rfl rfl ?_
          refine kw_dup2_11 C dC_countUneasy_59 rfl rfl ?_
          refine kw_iald C 6 0 rfl rfl (kix_nI (by omega) (by decide)) dC_countUneasy_60 ?_
          refine kw_iconst (v := 1) C dC_countUneasy_61 (by decide) ?_
          refine kw_iadd C dC_countUneasy_62 ?_
          refine kw_iast C 6 0 rfl rfl (kix_nI (by omega) (by decide)) dC_countUneasy_63 (wC_c k ah ar ac (c_over (fC_countUneasy_2 c h hour i)) (c_setRoom (fC_countUneasy_2 c h hour i)) (c_setTried (fC_countUneasy_2 c h hour i)) (c_setFrom (fC_countUneasy_2 c h hour i)) (c_mostRoom (fC_countUneasy_2 c h hour i)) (c_mostTried (fC_countUneasy_2 c h hour i)) (c_fellShort (fC_countUneasy_2 c h hour i)) (c_begun (fC_countUneasy_2 c h hour i)) (c_fromSun (fC_countUneasy_2 c h hour i)) (c_fromPersons (fC_countUneasy_2 c h hour i)) (c_goneOut (fC_countUneasy_2 c h hour i)) (c_heat (fC_countUneasy_2 c h hour i)) (c_warmth (fC_countUneasy_2 c h hour i)) (c_given (fC_countUneasy_2 c h hour i)) (c_taken (fC_countUneasy_2 c h hour i)) (c_greatest (fC_countUneasy_2 c h hour i)) (upd (c_uneasy (fC_countUneasy_2 c h hour i)) i (((c_uneasy (fC_countUneasy_2 c h hour i)) i) + 1)) h) rfl ?_
          refine kw_iinc (v := nI (i + 1)) (lv' := [(2, .int (nI (i + 1))), (3, .long (rC_warmthOf (fC_countUneasy_2 c h hour i) h (nI i))), (0, .ref (ac 0)), (1, .int hour)]) C 1 dC_countUneasy_64 rfl (nI_1 i) (by decide) rfl ?_
          refine kw_goto (tgt := 2) C dC_countUneasy_67 (by decide) ?_
          refine kw_sub [0, 2, 3] rfl ?_
          refine kw_eq rfl rfl (mk_wC_c.trans (congrArg (fun z90 => wC k ah ar ac z90 h) ((show ((c_over (fC_countUneasy_2 c h hour i)), (c_setRoom (fC_countUneasy_2 c h hour i)), (c_setTried (fC_countUneasy_2 c h hour i)), (c_setFrom (fC_countUneasy_2 c h hour i)), (c_mostRoom (fC_countUneasy_2 c h hour i)), (c_mostTried (fC_countUneasy_2 c h hour i)), (c_fellShort (fC_countUneasy_2 c h hour i)), (c_begun (fC_countUneasy_2 c h hour i)), (c_fromSun (fC_countUneasy_2 c h hour i)), (c_fromPersons (fC_countUneasy_2 c h hour i)), (c_goneOut (fC_countUneasy_2 c h hour i)), (c_heat (fC_countUneasy_2 c h hour i)), (c_warmth (fC_countUneasy_2 c h hour i)), (c_given (fC_countUneasy_2 c h hour i)), (c_taken (fC_countUneasy_2 c h hour i)), (c_greatest (fC_countUneasy_2 c h hour i)), (upd (c_uneasy (fC_countUneasy_2 c h hour i)) i (((c_uneasy (fC_countUneasy_2 c h hour i)) i) + 1))) = (bC_countUneasy_2 (fC_countUneasy_2 c h hour i) c h hour i) from by unfold bC_countUneasy_2; rw [if_neg c_2, if_pos c_3]).trans (show (bC_countUneasy_2 (fC_countUneasy_2 c h hour i) c h hour i) = (fC_countUneasy_2 c h hour (i + 1)) from rfl)))) ?_
          exact ih (i + 1) (by omega) (by omega)
        · skip
          refine kw_lload_n C 0 dC_countUneasy_41 rfl rfl ?_
          refine kw_aload_n C 2 dC_countUneasy_42 rfl rfl ?_
          refine kw_get (v := .ref (ah 0)) C 0 rfl rfl ku_C 0 (by decide) kt_122 rfl dC_countUneasy_43 ?_
          refine kw_get (v := .int (h_high h)) C 7 rfl rfl ku_H 17 (by decide) kt_77 rfl dC_countUneasy_46 ?_
          refine kw_i2l C dC_countUneasy_49 ?_
          refine kw_lcmp C dC_countUneasy_50 ?_
          refine kw_if_le (tgt := 64) C dC_countUneasy_51 (by decide) (fun c_4 => ?_) (fun c_4 => ?_)
          · skip
            refine kw_iinc (v := nI (i + 1)) (lv' := [(2, .int (nI (i + 1))), (3, .long (rC_warmthOf (fC_countUneasy_2 c h hour i) h (nI i))), (0, .ref (ac 0)), (1, .int hour)]) C 1 dC_countUneasy_64 rfl (nI_1 i) (by decide) rfl ?_
            refine kw_goto (tgt := 2) C dC_countUneasy_67 (by decide) ?_
            refine kw_sub [0, 2, 3] rfl ?_
            refine kw_eq rfl rfl ((congrArg (fun z90 => wC k ah ar ac z90 h) ((show (fC_countUneasy_2 c h hour i) = (bC_countUneasy_2 (fC_countUneasy_2 c h hour i) c h hour i) from by unfold bC_countUneasy_2; rw [if_neg c_2, if_neg c_3, if_pos c_4]).trans (show (bC_countUneasy_2 (fC_countUneasy_2 c h hour i) c h hour i) = (fC_countUneasy_2 c h hour (i + 1)) from rfl)))) ?_
            exact ih (i + 1) (by omega) (by omega)
          · skip
            refine kw_aload_n C 2 dC_countUneasy_54 rfl rfl ?_
            refine kw_get (v := .ref (ac 6)) C 0 rfl rfl ku_C 7 (by decide) kt_134 rfl dC_countUneasy_55 ?_
            refine kw_iload_n C 1 dC_countUneasy_58 rfl rfl ?_
            refine kw_dup2_11 C dC_countUneasy_59 rfl rfl ?_
            refine kw_iald C 6 0 rfl rfl (kix_nI (by omega) (by decide)) dC_countUneasy_60 ?_
            refine kw_iconst (v := 1) C dC_countUneasy_61 (by decide) ?_
            refine kw_iadd C dC_countUneasy_62 ?_
            refine kw_iast C 6 0 rfl rfl (kix_nI (by omega) (by decide)) dC_countUneasy_63 (wC_c k ah ar ac (c_over (fC_countUneasy_2 c h hour i)) (c_setRoom (fC_countUneasy_2 c h hour i)) (c_setTried (fC_countUneasy_2 c h hour i)) (c_setFrom (fC_countUneasy_2 c h hour i)) (c_mostRoom (fC_countUneasy_2 c h hour i)) (c_mostTried (fC_countUneasy_2 c h hour i)) (c_fellShort (fC_countUneasy_2 c h hour i)) (c_begun (fC_countUneasy_2 c h hour i)) (c_fromSun (fC_countUneasy_2 c h hour i)) (c_fromPersons (fC_countUneasy_2 c h hour i)) (c_goneOut (fC_countUneasy_2 c h hour i)) (c_heat (fC_countUneasy_2 c h hour i)) (c_warmth (fC_countUneasy_2 c h hour i)) (c_given (fC_countUneasy_2 c h hour i)) (c_taken (fC_countUneasy_2 c h hour i)) (c_greatest (fC_countUneasy_2 c h hour i)) (upd (c_uneasy (fC_countUneasy_2 c h hour i)) i (((c_uneasy (fC_countUneasy_2 c h hour i)) i) + 1)) h) rfl ?_
            refine kw_iinc (v := nI (i + 1)) (lv' := [(2, .int (nI (i + 1))), (3, .long (rC_warmthOf (fC_countUneasy_2 c h hour i) h (nI i))), (0, .ref (ac 0)), (1, .int hour)]) C 1 dC_countUneasy_64 rfl (nI_1 i) (by decide) rfl ?_
            refine kw_goto (tgt := 2) C dC_countUneasy_67 (by decide) ?_
            refine kw_sub [0, 2, 3] rfl ?_
            refine kw_eq rfl rfl (mk_wC_c.trans (congrArg (fun z90 => wC k ah ar ac z90 h) ((show ((c_over (fC_countUneasy_2 c h hour i)), (c_setRoom (fC_countUneasy_2 c h hour i)), (c_setTried (fC_countUneasy_2 c h hour i)), (c_setFrom (fC_countUneasy_2 c h hour i)), (c_mostRoom (fC_countUneasy_2 c h hour i)), (c_mostTried (fC_countUneasy_2 c h hour i)), (c_fellShort (fC_countUneasy_2 c h hour i)), (c_begun (fC_countUneasy_2 c h hour i)), (c_fromSun (fC_countUneasy_2 c h hour i)), (c_fromPersons (fC_countUneasy_2 c h hour i)), (c_goneOut (fC_countUneasy_2 c h hour i)), (c_heat (fC_countUneasy_2 c h hour i)), (c_warmth (fC_countUneasy_2 c h hour i)), (c_given (fC_countUneasy_2 c h hour i)), (c_taken (fC_countUneasy_2 c h hour i)), (c_greatest (fC_countUneasy_2 c h hour i)), (upd (c_uneasy (fC_countUneasy_2 c h hour i)) i (((c_uneasy (fC_countUneasy_2 c h hour i)) i) + 1))) = (bC_countUneasy_2 (fC_countUneasy_2 c h hour i) c h hour i) from by unfold bC_countUneasy_2; rw [if_neg c_2, if_neg c_3, if_neg c_4]).trans (show (bC_countUneasy_2 (fC_countUneasy_2 c h hour i) c h hour i) = (fC_countUneasy_2 c h hour (i + 1)) from rfl)))) ?_
            exact ih (i + 1) (by omega) (by omega)
noncomputable def scC_countUneasy (c : CS) (h : HS) (hour : Int32) : CS := (fC_countUneasy_2 c h hour (hnR h))
set_option maxRecDepth 100000 in
set_option maxHeartbeats 4000000 in
theorem cC_countUneasy (l : Launch) (D : va_G) (k : Nat → ClassId) (ah : Nat → Nat) (ar : Nat → Nat → Nat) (ac : Nat → Nat) (c : CS) (h : HS) (hour : Int32) (hI : kInv h) (hh : vp_in hour 24) : kMv l yC_countUneasy (kwm yC_countUneasy bC_countUneasy 5 none) ({ frames := 2, cells := 0, slots := 0, locals := 48 }) D kcl (kty k) (wC k ah ar ac c h) (wC k ah ar ac (scC_countUneasy c h hour) h) [.ref (ac 0), .int hour] := by
  refine k_entry_v (lv0 := [(0, .ref (ac 0)), (1, .int hour)]) rfl (by decide +kernel) (Nat.le_of_ble_eq_true rfl) rfl ?_
  intro p e s m args below meth c0 C hr hlocks
  have hb8 := hI.1.2
  refine kw_iconst (v := 0) C dC_countUneasy_0 (by decide) ?_
  refine kw_istore_n (lv' := [(2, .int 0), (0, .ref (ac 0)), (1, .int hour)]) C dC_countUneasy_1 rfl (by decide) rfl ?_
  refine kw_sub [0, 1, 2] rfl ?_
  refine lC_countUneasy_2 k ah ar ac c h hour hI hh C ?_ (hnR h + 1) 0 (Nat.zero_le _) (by omega)
  refine kw_eq rfl rfl ((congrArg (fun z90 => wC k ah ar ac z90 h) (show (fC_countUneasy_2 c h hour (hnR h)) = scC_countUneasy c h hour from rfl))) ?_
  exact kw_vret C hr hlocks dC_countUneasy_70
