noncomputable def bC_passWindows_2 (z : CS) (c : CS) (h : HS) (hour : Int32) (i : Nat) : CS := if (lg_cmp ((c_warmth z) (((h_windowRoom h) i).toNatClampNeg)) (((h_windowLimit h) i).toInt64)) ≤ 0 then ((c_over z), (c_setRoom z), (c_setTried z), (c_setFrom z), (c_mostRoom z), (c_mostTried z), (c_fellShort z), (c_begun z), ((c_fromSun z) + (((((h_windowArea h) i) * (((h_suns h) (((h_windowSide h) i).toNatClampNeg)) hour.toNatClampNeg)) / 10).toInt64)), (c_fromPersons z), (c_goneOut z), (vp_updL (c_heat z) (((h_windowRoom h) i).toNatClampNeg) (((c_heat z) (((h_windowRoom h) i).toNatClampNeg)) + (((((h_windowArea h) i) * (((h_suns h) (((h_windowSide h) i).toNatClampNeg)) hour.toNatClampNeg)) / 10).toInt64))), (c_warmth z), (c_given z), (c_taken z), (c_greatest z), (c_uneasy z)) else ((c_over z), (c_setRoom z), (c_setTried z), (c_setFrom z), (c_mostRoom z), (c_mostTried z), (c_fellShort z), (c_begun z), ((c_fromSun z) + ((((((h_windowArea h) i) * (((h_suns h) (((h_windowSide h) i).toNatClampNeg)) hour.toNatClampNeg)) / 10) / 4).toInt64)), (c_fromPersons z), (c_goneOut z), (vp_updL (c_heat z) (((h_windowRoom h) i).toNatClampNeg) (((c_heat z) (((h_windowRoom h) i).toNatClampNeg)) + ((((((h_windowArea h) i) * (((h_suns h) (((h_windowSide h) i).toNatClampNeg)) hour.toNatClampNeg)) / 10) / 4).toInt64))), (c_warmth z), (c_given z), (c_taken z), (c_greatest z), (c_uneasy z))
noncomputable def fC_passWindows_2 (c : CS) (h : HS) (hour : Int32) (n : Nat) : CS := Nat.rec (motive := fun _ => CS) c (fun i z => bC_passWindows_2 z c h hour i) n
set_option maxRecDepth 100000 in
set_option maxHeartbeats 4000000 in
theorem lC_passWindows_2 {l : Launch} {p : Program} {e : Env} {s : State} {m : MethodId} {args : Array Value} {below : List Frame} {meth : Method} {c0 : Code} {D : va_G} {A : Nat → Prop} {Q : State → Prop} (k : Nat → ClassId) (ah : Nat → Nat) (ar : Nat → Nat → Nat) (ac : Nat → Nat) (c : CS) (h : HS) (hour : Int32) (hI : kInv h) (hh : vp_in hour 24) (C : kC p s m args c0 bC_passWindows "RoomHours$Course" kT D kcl (kty k) A 5) (kk : kW p l e ({ frames := 0, cells := 0, slots := 0, locals := 0 }) s m args below meth c0 D kcl A 5 0 0 Q 113 [(2, .int (nI (hnN h))), (0, .ref (ac 0)), (1, .int hour)] [] (wC k ah ar ac (fC_passWindows_2 c h hour (hnN h)) h)) : ∀ (n i : Nat), i ≤ hnN h → hnN h < i + n → kW p l e ({ frames := 0, cells := 0, slots := 0, locals := 0 }) s m args below meth c0 D kcl A 5 0 0 Q 2 [(2, .int (nI i)), (0, .ref (ac 0)), (1, .int hour)] [] (wC k ah ar ac (fC_passWindows_2 c h hour i) h) := by
  intro n
  induction n with
  | zero => exact fun i h1 h2 => absurd h2 (by omega)
  | succ n ih =>
    intro i hi hin
    have hb8 := hI.2.2.1.2
    refine kw_iload_n C 0 dC_passWindows_2 rfl rfl ?_
    refine kw_aload_n C 1 dC_passWindows_3 rfl rfl ?_
    refine kw_get (v := .ref (ah 0)) C 0 rfl rfl ku_C 0 (by decide) kt_122 rfl dC_passWindows_4 ?_
    refine kw_get (v := .int (h_windows h)) C 7 rfl rfl ku_H 9 (by decide) kt_59 rfl dC_passWindows_7 ?_
    refine kw_icmp_ge (tgt := 113) C dC_passWindows_10 (by decide) (fun c_1 => ?_) (fun c_1 => ?_)
    · skip
      have e9 : i = hnN h := klp1 hI.2.2.1.1 (by omega) hi c_1
      subst e9
      refine kw_sub [0, 1, 2] rfl ?_
      exact kk
    · skip
      have hlt : i < hnN h := klp2 hI.2.2.1.1 (by omega) c_1
      refine kw_aload_n C 1 dC_passWindows_13 rfl rfl ?_
      refine kw_get (v := .ref (ah 0)) C 0 rfl rfl ku_C 0 (by decide) kt_122 rfl dC_passWindows_14 ?_
      refine kw_get (v := .ref (ah 8)) C 7 rfl rfl ku_H 10 (by decide) kt_61 rfl dC_passWindows_17 ?_
      refine kw_iload_n C 0 dC_passWindows_20 rfl rfl ?_
      refine kw_iald C 13 0 rfl rfl (kix_nI (by omega) (by decide)) dC_passWindows_21 ?_
      refine kw_istore_n (lv' := [(3, .int ((h_windowRoom h) i)), (2, .int (nI i)), (0, .ref (ac 0)), (1, .int hour)]) C dC_passWindows_22 rfl (by decide) rfl ?_
      refine kw_aload_n C 2 dC_passWindows_23 rfl rfl ?_
      refine kw_get (v := .ref (ah 0)) C 0 rfl rfl ku_C 0 (by decide) kt_122 rfl dC_passWindows_24 ?_
      refine kw_get (v := .ref (ah 10)) C 7 rfl rfl ku_H 12 (by decide) kt_65 rfl dC_passWindows_27 ?_
      refine kw_iload_n C 1 dC_passWindows_30 rfl rfl ?_
      refine kw_iald C 15 0 rfl rfl (kix_nI (by omega) (by decide)) dC_passWindows_31 ?_
      refine kw_aload_n C 2 dC_passWindows_32 rfl rfl ?_
      refine kw_get (v := .ref (ah 0)) C 0 rfl rfl ku_C 0 (by decide) kt_122 rfl dC_passWindows_33 ?_
      refine kw_get (v := .ref (ah 13)) C 7 rfl rfl ku_H 15 (by decide) kt_73 rfl dC_passWindows_36 ?_
      refine kw_aload_n C 2 dC_passWindows_39 rfl rfl ?_
      refine kw_get (v := .ref (ah 0)) C 0 rfl rfl ku_C 0 (by decide) kt_122 rfl dC_passWindows_40 ?_
      refine kw_get (v := .ref (ah 9)) C 7 rfl rfl ku_H 11 (by decide) kt_63 rfl dC_passWindows_43 ?_
      refine kw_iload_n C 1 dC_passWindows_46 rfl rfl ?_
      refine kw_iald C 14 0 rfl rfl (kix_nI (by omega) (by decide)) dC_passWindows_47 ?_
      refine kw_aldA (b := ar 2 (((h_windowSide h) i).toNatClampNeg)) C 25 2 rfl rfl (kix_of (hI.2.2.2.2.2.2 i hlt)) (if_pos (kin_lt (hI.2.2.2.2.2.2 i hlt))) dC_passWindows_48 ?_
      refine kw_iload_n C 3 dC_passWindows_49 rfl rfl ?_
      refine kw_iald C (26 + (((h_windowSide h) i).toNatClampNeg)) 0 (pC_suns k ah ar ac _ h _ (kin_lt (hI.2.2.2.2.2.2 i hlt))) rfl (kix_of hh) dC_passWindows_50 ?_
      refine kw_imul C dC_passWindows_51 ?_
      refine kw_bipush (v := 10) C dC_passWindows_52 (by decide) ?_
      refine kw_idiv C dC_passWindows_54 (by decide) ?_
      refine kw_istore (lv' := [(4, .int ((((h_windowArea h) i) * (((h_suns h) (((h_windowSide h) i).toNatClampNeg)) hour.toNatClampNeg)) / 10)), (3, .int ((h_windowRoom h) i)), (2, .int (nI i)), (0, .ref (ac 0)), (1, .int hour)]) C dC_passWindows_55 (by decide) rfl ?_
      refine kw_aload_n C 3 dC_passWindows_57 rfl rfl ?_
      refine kw_get (v := .ref (ac 2)) C 0 rfl rfl ku_C 3 (by decide) kt_127 rfl dC_passWindows_58 ?_
      refine kw_iload_n C 1 dC_passWindows_61 rfl rfl ?_
      refine kw_lald C 2 1 rfl rfl (kix_of (hI.2.2.2.2.2.1 i hlt)) dC_passWindows_62 ?_
      refine kw_aload_n C 3 dC_passWindows_63 rfl rfl ?_
      refine kw_get (v := .ref (ah 0)) C 0 rfl rfl ku_C 0 (by decide) kt_122 rfl dC_passWindows_64 ?_
      refine kw_get (v := .ref (ah 11)) C 7 rfl rfl ku_H 13 (by decide) kt_67 rfl dC_passWindows_67 ?_
      refine kw_iload_n C 2 dC_passWindows_70 rfl rfl ?_
      refine kw_iald C 16 0 rfl rfl (kix_nI (by omega) (by decide)) dC_passWindows_71 ?_
      refine kw_i2l C dC_passWindows_72 ?_
      refine kw_lcmp C dC_passWindows_73 ?_
      refine kw_if_le (tgt := 83) C dC_passWindows_74 (by decide) (fun c_2 => ?_) (fun c_2 => ?_)
      · skip
        refine kw_aload_n C 3 dC_passWindows_83 rfl rfl ?_
        refine kw_get (v := .ref (ac 1)) C 0 rfl rfl ku_C 2 (by decide) kt_125 rfl dC_passWindows_84 ?_
        refine kw_iload_n C 1 dC_passWindows_87 rfl rfl ?_
        refine kw_dup2_11 C dC_passWindows_88 rfl rfl ?_
        refine kw_lald C 1 1 rfl rfl (kix_of (hI.2.2.2.2.2.1 i hlt)) dC_passWindows_89 ?_
        refine kw_iload C 0 dC_passWindows_90 rfl ?_
        refine kw_i2l C dC_passWindows_92 ?_
        refine kw_ladd C dC_passWindows_93 ?_
        refine kw_last C 1 1 rfl rfl (kix_of (hI.2.2.2.2.2.1 i hlt)) dC_passWindows_94 (wC_c k ah ar ac (c_over (fC_passWindows_2 c h hour i)) (c_setRoom (fC_passWindows_2 c h hour i)) (c_setTried (fC_passWindows_2 c h hour i)) (c_setFrom (fC_passWindows_2 c h hour i)) (c_mostRoom (fC_passWindows_2 c h hour i)) (c_mostTried (fC_passWindows_2 c h hour i)) (c_fellShort (fC_passWindows_2 c h hour i)) (c_begun (fC_passWindows_2 c h hour i)) (c_fromSun (fC_passWindows_2 c h hour i)) (c_fromPersons (fC_passWindows_2 c h hour i)) (c_goneOut (fC_passWindows_2 c h hour i)) (vp_updL (c_heat (fC_passWindows_2 c h hour i)) (((h_windowRoom h) i).toNatClampNeg) (((c_heat (fC_passWindows_2 c h hour i)) (((h_windowRoom h) i).toNatClampNeg)) + (((((h_windowArea h) i) * (((h_suns h) (((h_windowSide h) i).toNatClampNeg)) hour.toNatClampNeg)) / 10).toInt64))) (c_warmth (fC_passWindows_2 c h hour i)) (c_given (fC_passWindows_2 c h hour i)) (c_taken (fC_passWindows_2 c h hour i)) (c_greatest (fC_passWindows_2 c h hour i)) (c_uneasy (fC_passWindows_2 c h hour i)) h) rfl ?_
        refine kw_aload_n C 3 dC_passWindows_95 rfl rfl ?_
        refine kw_dup C dC_passWindows_96 rfl ?_
        refine kw_get (v := .long (c_fromSun (fC_passWindows_2 c h hour i))) C 0 rfl rfl ku_C 9 (by decide) kt_139 rfl dC_passWindows_97 ?_
        refine kw_iload C 0 dC_passWindows_100 rfl ?_
        refine kw_i2l C dC_passWindows_102 ?_
        refine kw_ladd C dC_passWindows_103 ?_
        refine kw_put C 0 rfl rfl ku_C tC_ok nC 9 (by decide) kt_139 rfl (ty := .long) (by decide +kernel) rfl rfl (Nat.le_of_ble_eq_true rfl) dC_passWindows_104 (wC_c k ah ar ac (c_over (fC_passWindows_2 c h hour i)) (c_setRoom (fC_passWindows_2 c h hour i)) (c_setTried (fC_passWindows_2 c h hour i)) (c_setFrom (fC_passWindows_2 c h hour i)) (c_mostRoom (fC_passWindows_2 c h hour i)) (c_mostTried (fC_passWindows_2 c h hour i)) (c_fellShort (fC_passWindows_2 c h hour i)) (c_begun (fC_passWindows_2 c h hour i)) ((c_fromSun (fC_passWindows_2 c h hour i)) + (((((h_windowArea h) i) * (((h_suns h) (((h_windowSide h) i).toNatClampNeg)) hour.toNatClampNeg)) / 10).toInt64)) (c_fromPersons (fC_passWindows_2 c h hour i)) (c_goneOut (fC_passWindows_2 c h hour i)) (vp_updL (c_heat (fC_passWindows_2 c h hour i)) (((h_windowRoom h) i).toNatClampNeg) (((c_heat (fC_passWindows_2 c h hour i)) (((h_windowRoom h) i).toNatClampNeg)) + (((((h_windowArea h) i) * (((h_suns h) (((h_windowSide h) i).toNatClampNeg)) hour.toNatClampNeg)) / 10).toInt64))) (c_warmth (fC_passWindows_2 c h hour i)) (c_given (fC_passWindows_2 c h hour i)) (c_taken (fC_passWindows_2 c h hour i)) (c_greatest (fC_passWindows_2 c h hour i)) (c_uneasy (fC_passWindows_2 c h hour i)) h) rfl ?_
        refine kw_iinc (v := nI (i + 1)) (lv' := [(2, .int (nI (i + 1))), (4, .int ((((h_windowArea h) i) * (((h_suns h) (((h_windowSide h) i).toNatClampNeg)) hour.toNatClampNeg)) / 10)), (3, .int ((h_windowRoom h) i)), (0, .ref (ac 0)), (1, .int hour)]) C 2 dC_passWindows_107 rfl (nI_1 i) (by decide) rfl ?_
        refine kw_goto (tgt := 2) C dC_passWindows_110 (by decide) ?_
        refine kw_sub [0, 3, 4] rfl ?_
        refine kw_eq rfl rfl (mk_wC_c.trans (congrArg (fun z90 => wC k ah ar ac z90 h) ((show ((c_over (fC_passWindows_2 c h hour i)), (c_setRoom (fC_passWindows_2 c h hour i)), (c_setTried (fC_passWindows_2 c h hour i)), (c_setFrom (fC_passWindows_2 c h hour i)), (c_mostRoom (fC_passWindows_2 c h hour i)), (c_mostTried (fC_passWindows_2 c h hour i)), (c_fellShort (fC_passWindows_2 c h hour i)), (c_begun (fC_passWindows_2 c h hour i)), ((c_fromSun (fC_passWindows_2 c h hour i)) + (((((h_windowArea h) i) * (((h_suns h) (((h_windowSide h) i).toNatClampNeg)) hour.toNatClampNeg)) / 10).toInt64)), (c_fromPersons (fC_passWindows_2 c h hour i)), (c_goneOut (fC_passWindows_2 c h hour i)), (vp_updL (c_heat (fC_passWindows_2 c h hour i)) (((h_windowRoom h) i).toNatClampNeg) (((c_heat (fC_passWindows_2 c h hour i)) (((h_windowRoom h) i).toNatClampNeg)) + (((((h_windowArea h) i) * (((h_suns h) (((h_windowSide h) i).toNatClampNeg)) hour.toNatClampNeg)) / 10).toInt64))), (c_warmth (fC_passWindows_2 c h hour i)), (c_given (fC_passWindows_2 c h hour i)), (c_taken (fC_passWindows_2 c h hour i)), (c_greatest (fC_passWindows_2 c h hour i)), (c_uneasy (fC_passWindows_2 c h hour i))) = (bC_passWindows_2 (fC_passWindows_2 c h hour i) c h hour i) from by unfold bC_passWindows_2; rw [if_pos c_2]).trans (show (bC_passWindows_2 (fC_passWindows_2 c h hour i) c h hour i) = (fC_passWindows_2 c h hour (i + 1)) from rfl)))) ?_
        exact ih (i + 1) (by omega) (by omega)
      · skip
        refine kw_iload C 0 dC_passWindows_77 rfl ?_
        refine kw_iconst (v := 4) C dC_passWindows_79 (by decide) ?_
        refine kw_idiv C dC_passWindows_80 (by decide) ?_
        refine kw_istore (lv' := [(4, .int (((((h_windowArea h) i) * (((h_suns h) (((h_windowSide h) i).toNatClampNeg)) hour.toNatClampNeg)) / 10) / 4)), (3, .int ((h_windowRoom h) i)), (2, .int (nI i)), (0, .ref (ac 0)), (1, .int hour)]) C dC_passWindows_81 (by decide) rfl ?_
        refine kw_aload_n C 3 dC_passWindows_83 rfl rfl ?_
        refine kw_get (v := .ref (ac 1)) C 0 rfl rfl ku_C 2 (by decide) kt_125 rfl dC_passWindows_84 ?_
        refine kw_iload_n C 1 dC_passWindows_87 rfl rfl ?_
        refine kw_dup2_11 C dC_passWindows_88 rfl rfl ?_
        refine kw_lald C 1 1 rfl rfl (kix_of (hI.2.2.2.2.2.1 i hlt)) dC_passWindows_89 ?_
        refine kw_iload C 0 dC_passWindows_90 rfl ?_
        refine kw_i2l C dC_passWindows_92 ?_
        refine kw_ladd C dC_passWindows_93 ?_
        refine kw_last C 1 1 rfl rfl (kix_of (hI.2.2.2.2.2.1 i hlt)) dC_passWindows_94 (wC_c k ah ar ac (c_over (fC_passWindows_2 c h hour i)) (c_setRoom (fC_passWindows_2 c h hour i)) (c_setTried (fC_passWindows_2 c h hour i)) (c_setFrom (fC_passWindows_2 c h hour i)) (c_mostRoom (fC_passWindows_2 c h hour i)) (c_mostTried (fC_passWindows_2 c h hour i)) (c_fellShort (fC_passWindows_2 c h hour i)) (c_begun (fC_passWindows_2 c h hour i)) (c_fromSun (fC_passWindows_2 c h hour i)) (c_fromPersons (fC_passWindows_2 c h hour i)) (c_goneOut (fC_passWindows_2 c h hour i)) (vp_updL (c_heat (fC_passWindows_2 c h hour i)) (((h_windowRoom h) i).toNatClampNeg) (((c_heat (fC_passWindows_2 c h hour i)) (((h_windowRoom h) i).toNatClampNeg)) + ((((((h_windowArea h) i) * (((h_suns h) (((h_windowSide h) i).toNatClampNeg)) hour.toNatClampNeg)) / 10) / 4).toInt64))) (c_warmth (fC_passWindows_2 c h hour i)) (c_given (fC_passWindows_2 c h hour i)) (c_taken (fC_passWindows_2 c h hour i)) (c_greatest (fC_passWindows_2 c h hour i)) (c_uneasy (fC_passWindows_2 c h hour i)) h) rfl ?_
        refine kw_aload_n C 3 dC_passWindows_95 rfl rfl ?_
        refine kw_dup C dC_passWindows_96 rfl ?_
        refine kw_get (v := .long (c_fromSun (fC_passWindows_2 c h hour i))) C 0 rfl rfl ku_C 9 (by decide) kt_139 rfl dC_passWindows_97 ?_
        refine kw_iload C 0 dC_passWindows_100 rfl ?_
        refine kw_i2l C dC_passWindows_102 ?_
        refine kw_ladd C dC_passWindows_103 ?_
        refine kw_put C 0 rfl rfl ku_C tC_ok nC 9 (by decide) kt_139 rfl (ty := .long) (by decide +kernel) rfl rfl (Nat.le_of_ble_eq_true rfl) dC_passWindows_104 (wC_c k ah ar ac (c_over (fC_passWindows_2 c h hour i)) (c_setRoom (fC_passWindows_2 c h hour i)) (c_setTried (fC_passWindows_2 c h hour i)) (c_setFrom (fC_passWindows_2 c h hour i)) (c_mostRoom (fC_passWindows_2 c h hour i)) (c_mostTried (fC_passWindows_2 c h hour i)) (c_fellShort (fC_passWindows_2 c h hour i)) (c_begun (fC_passWindows_2 c h hour i)) ((c_fromSun (fC_passWindows_2 c h hour i)) + ((((((h_windowArea h) i) * (((h_suns h) (((h_windowSide h) i).toNatClampNeg)) hour.toNatClampNeg)) / 10) / 4).toInt64)) (c_fromPersons (fC_passWindows_2 c h hour i)) (c_goneOut (fC_passWindows_2 c h hour i)) (vp_updL (c_heat (fC_passWindows_2 c h hour i)) (((h_windowRoom h) i).toNatClampNeg) (((c_heat (fC_passWindows_2 c h hour i)) (((h_windowRoom h) i).toNatClampNeg)) + ((((((h_windowArea h) i) * (((h_suns h) (((h_windowSide h) i).toNatClampNeg)) hour.toNatClampNeg)) / 10) / 4).toInt64))) (c_warmth (fC_passWindows_2 c h hour i)) (c_given (fC_passWindows_2 c h hour i)) (c_taken (fC_passWindows_2 c h hour i)) (c_greatest (fC_passWindows_2 c h hour i)) (c_uneasy (fC_passWindows_2 c h hour i)) h) rfl ?_
        refine kw_iinc (v := nI (i + 1)) (lv' := [(2, .int (nI (i + 1))), (4, .int (((((h_windowArea h) i) * (((h_suns h) (((h_windowSide h) i).toNatClampNeg)) hour.toNatClampNeg)) / 10) / 4)), (3, .int ((h_windowRoom h) i)), (0, .ref (ac 0)), (1, .int hour)]) C 2 dC_passWindows_107 rfl (nI_1 i) (by decide) rfl ?_
        refine kw_goto (tgt := 2) C dC_passWindows_110 (by decide) ?_
        refine kw_sub [0, 3, 4] rfl ?_
        refine kw_eq rfl rfl (mk_wC_c.trans (congrArg (fun z90 => wC k ah ar ac z90 h) ((show ((c_over (fC_passWindows_2 c h hour i)), (c_setRoom (fC_passWindows_2 c h hour i)), (c_setTried (fC_passWindows_2 c h hour i)), (c_setFrom (fC_passWindows_2 c h hour i)), (c_mostRoom (fC_passWindows_2 c h hour i)), (c_mostTried (fC_passWindows_2 c h hour i)), (c_fellShort (fC_passWindows_2 c h hour i)), (c_begun (fC_passWindows_2 c h hour i)), ((c_fromSun (fC_passWindows_2 c h hour i)) + ((((((h_windowArea h) i) * (((h_suns h) (((h_windowSide h) i).toNatClampNeg)) hour.toNatClampNeg)) / 10) / 4).toInt64)), (c_fromPersons (fC_passWindows_2 c h hour i)), (c_goneOut (fC_passWindows_2 c h hour i)), (vp_updL (c_heat (fC_passWindows_2 c h hour i)) (((h_windowRoom h) i).toNatClampNeg) (((c_heat (fC_passWindows_2 c h hour i)) (((h_windowRoom h) i).toNatClampNeg)) + ((((((h_windowArea h) i) * (((h_suns h) (((h_windowSide h) i).toNatClampNeg)) hour.toNatClampNeg)) / 10) / 4).toInt64))), (c_warmth (fC_passWindows_2 c h hour i)), (c_given (fC_passWindows_2 c h hour i)), (c_taken (fC_passWindows_2 c h hour i)), (c_greatest (fC_passWindows_2 c h hour i)), (c_uneasy (fC_passWindows_2 c h hour i))) = (bC_passWindows_2 (fC_passWindows_2 c h hour i) c h hour i) from by unfold bC_passWindows_2; rw [if_neg c_2]).trans (show (bC_passWindows_2 (fC_passWindows_2 c h hour i) c h hour i) = (fC_passWindows_2 c h hour (i + 1)) from rfl)))) ?_
        exact ih (i + 1) (by omega) (by omega)
noncomputable def scC_passWindows (c : CS) (h : HS) (hour : Int32) : CS := (fC_passWindows_2 c h hour (hnN h))
set_option maxRecDepth 100000 in
set_option maxHeartbeats 4000000 in
theorem cC_passWindows (l : Launch) (D : va_G) (k : Nat → ClassId) (ah : Nat → Nat) (ar : Nat → Nat → Nat) (ac : Nat → Nat) (c : CS) (h : HS) (hour : Int32) (hI : kInv h) (hh : vp_in hour 24) : kMv l yC_passWindows (kwm yC_passWindows bC_passWindows 5 none) ({ frames := 0, cells := 0, slots := 0, locals := 0 }) D kcl (kty k) (wC k ah ar ac c h) (wC k ah ar ac (scC_passWindows c h hour) h) [.ref (ac 0), .int hour] := by
  refine k_entry_v (lv0 := [(0, .ref (ac 0)), (1, .int hour)]) rfl (by decide +kernel) (Nat.le_of_ble_eq_true rfl) rfl ?_
  intro p e s m args below meth c0 C hr hlocks
  have hb8 := hI.2.2.1.2
  refine kw_iconst (v := 0) C dC_passWindows_0 (by decide) ?_
  refine kw_istore_n (lv' := [(2, .int 0), (0, .ref (ac 0)), (1, .int hour)]) C dC_passWindows_1 rfl (by decide) rfl ?_
  refine kw_sub [0, 1, 2] rfl ?_
  refine lC_passWindows_2 k ah ar ac c h hour hI hh C ?_ (hnN h + 1) 0 (Nat.zero_le _) (by omega)
  refine kw_eq rfl rfl ((congrArg (fun z90 => wC k ah ar ac z90 h) (show (fC_passWindows_2 c h hour (hnN h)) = scC_passWindows c h hour from rfl))) ?_
  exact kw_vret C hr hlocks dC_passWindows_113
