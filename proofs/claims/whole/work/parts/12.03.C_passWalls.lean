noncomputable def bC_passWalls_2 (z : CS) (c : CS) (h : HS) (hour : Int32) (i : Nat) : CS := if ((h_wallTo h) i) = (-1) then ((c_over z), (c_setRoom z), (c_setTried z), (c_setFrom z), (c_mostRoom z), (c_mostTried z), (c_fellShort z), (c_begun z), (c_fromSun z), (c_fromPersons z), ((c_goneOut z) + (((((c_warmth z) (((h_wallFrom h) i).toNatClampNeg)) - (((h_outsides h) hour.toNatClampNeg).toInt64)) * (((h_wallLeads h) i).toInt64)) / 100)), (vp_updL (c_heat z) (((h_wallFrom h) i).toNatClampNeg) (((c_heat z) (((h_wallFrom h) i).toNatClampNeg)) - (((((c_warmth z) (((h_wallFrom h) i).toNatClampNeg)) - (((h_outsides h) hour.toNatClampNeg).toInt64)) * (((h_wallLeads h) i).toInt64)) / 100))), (c_warmth z), (c_given z), (c_taken z), (c_greatest z), (c_uneasy z)) else ((c_over z), (c_setRoom z), (c_setTried z), (c_setFrom z), (c_mostRoom z), (c_mostTried z), (c_fellShort z), (c_begun z), (c_fromSun z), (c_fromPersons z), (c_goneOut z), (vp_updL (vp_updL (c_heat z) (((h_wallFrom h) i).toNatClampNeg) (((c_heat z) (((h_wallFrom h) i).toNatClampNeg)) - (((((c_warmth z) (((h_wallFrom h) i).toNatClampNeg)) - ((c_warmth z) (((h_wallTo h) i).toNatClampNeg))) * (((h_wallLeads h) i).toInt64)) / 100))) (((h_wallTo h) i).toNatClampNeg) (((vp_updL (c_heat z) (((h_wallFrom h) i).toNatClampNeg) (((c_heat z) (((h_wallFrom h) i).toNatClampNeg)) - (((((c_warmth z) (((h_wallFrom h) i).toNatClampNeg)) - ((c_warmth z) (((h_wallTo h) i).toNatClampNeg))) * (((h_wallLeads h) i).toInt64)) / 100))) (((h_wallTo h) i).toNatClampNeg)) + (((((c_warmth z) (((h_wallFrom h) i).toNatClampNeg)) - ((c_warmth z) (((h_wallTo h) i).toNatClampNeg))) * (((h_wallLeads h) i).toInt64)) / 100))), (c_warmth z), (c_given z), (c_taken z), (c_greatest z), (c_uneasy z))
noncomputable def fC_passWalls_2 (c : CS) (h : HS) (hour : Int32) (n : Nat) : CS := Nat.rec (motive := fun _ => CS) c (fun i z => bC_passWalls_2 z c h hour i) n
set_option maxRecDepth 100000 in
set_option maxHeartbeats 4000000 in
theorem lC_passWalls_2 {l : Launch} {p : Program} {e : Env} {s : State} {m : MethodId} {args : Array Value} {below : List Frame} {meth : Method} {c0 : Code} {D : va_G} {A : Nat → Prop} {Q : State → Prop} (k : Nat → ClassId) (ah : Nat → Nat) (ar : Nat → Nat → Nat) (ac : Nat → Nat) (c : CS) (h : HS) (hour : Int32) (hI : kInv h) (hh : vp_in hour 24) (C : kC p s m args c0 bC_passWalls "RoomHours$Course" kT D kcl (kty k) A 9) (kk : kW p l e ({ frames := 0, cells := 0, slots := 0, locals := 0 }) s m args below meth c0 D kcl A 9 0 0 Q 137 [(2, .int (nI (hnW h))), (0, .ref (ac 0)), (1, .int hour)] [] (wC k ah ar ac (fC_passWalls_2 c h hour (hnW h)) h)) : ∀ (n i : Nat), i ≤ hnW h → hnW h < i + n → kW p l e ({ frames := 0, cells := 0, slots := 0, locals := 0 }) s m args below meth c0 D kcl A 9 0 0 Q 2 [(2, .int (nI i)), (0, .ref (ac 0)), (1, .int hour)] [] (wC k ah ar ac (fC_passWalls_2 c h hour i) h) := by
  intro n
  induction n with
  | zero => exact fun i h1 h2 => absurd h2 (by omega)
  | succ n ih =>
    intro i hi hin
    have hb8 := hI.2.1.2
    refine kw_iload_n C 0 dC_passWalls_2 rfl rfl ?_
    refine kw_aload_n C 1 dC_passWalls_3 rfl rfl ?_
    refine kw_get (v := .ref (ah 0)) C 0 rfl rfl ku_C 0 (by decide) kt_122 rfl dC_passWalls_4 ?_
    refine kw_get (v := .int (h_walls h)) C 7 rfl rfl ku_H 5 (by decide) kt_47 rfl dC_passWalls_7 ?_
    refine kw_icmp_ge (tgt := 137) C dC_passWalls_10 (by decide) (fun c_1 => ?_) (fun c_1 => ?_)
    · skip
      have e9 : i = hnW h := klp1 hI.2.1.1 (by omega) hi c_1
      subst e9
      refine kw_sub [0, 1, 2] rfl ?_
      exact kk
    · skip
      have hlt : i < hnW h := klp2 hI.2.1.1 (by omega) c_1
      refine kw_aload_n C 1 dC_passWalls_13 rfl rfl ?_
      refine kw_get (v := .ref (ah 0)) C 0 rfl rfl ku_C 0 (by decide) kt_122 rfl dC_passWalls_14 ?_
      refine kw_get (v := .ref (ah 5)) C 7 rfl rfl ku_H 6 (by decide) kt_50 rfl dC_passWalls_17 ?_
      refine kw_iload_n C 0 dC_passWalls_20 rfl rfl ?_
      refine kw_iald C 10 0 rfl rfl (kix_nI (by omega) (by decide)) dC_passWalls_21 ?_
      refine kw_istore_n (lv' := [(3, .int ((h_wallFrom h) i)), (2, .int (nI i)), (0, .ref (ac 0)), (1, .int hour)]) C dC_passWalls_22 rfl (by decide) rfl ?_
      refine kw_aload_n C 2 dC_passWalls_23 rfl rfl ?_
      refine kw_get (v := .ref (ah 0)) C 0 rfl rfl ku_C 0 (by decide) kt_122 rfl dC_passWalls_24 ?_
      refine kw_get (v := .ref (ah 6)) C 7 rfl rfl ku_H 7 (by decide) kt_53 rfl dC_passWalls_27 ?_
      refine kw_iload_n C 1 dC_passWalls_30 rfl rfl ?_
      refine kw_iald C 11 0 rfl rfl (kix_nI (by omega) (by decide)) dC_passWalls_31 ?_
      refine kw_istore (lv' := [(4, .int ((h_wallTo h) i)), (3, .int ((h_wallFrom h) i)), (2, .int (nI i)), (0, .ref (ac 0)), (1, .int hour)]) C dC_passWalls_32 (by decide) rfl ?_
      refine kw_iload C 0 dC_passWalls_34 rfl ?_
      refine kw_iconst (v := -1) C dC_passWalls_36 (by decide) ?_
      refine kw_icmp_ne (tgt := 53) C dC_passWalls_37 (by decide) (fun c_2 => ?_) (fun c_2 => ?_)
      · skip
        refine kw_aload_n C 3 dC_passWalls_53 rfl rfl ?_
        refine kw_get (v := .ref (ac 2)) C 0 rfl rfl ku_C 3 (by decide) kt_127 rfl dC_passWalls_54 ?_
        refine kw_iload C 0 dC_passWalls_57 rfl ?_
        refine kw_lald C 2 1 rfl rfl (kix_of (kInv_to hI hlt c_2)) dC_passWalls_59 ?_
        refine kw_lstore (lv' := [(5, .long ((c_warmth (fC_passWalls_2 c h hour i)) (((h_wallTo h) i).toNatClampNeg))), (4, .int ((h_wallTo h) i)), (3, .int ((h_wallFrom h) i)), (2, .int (nI i)), (0, .ref (ac 0)), (1, .int hour)]) C dC_passWalls_60 (by decide) rfl ?_
        refine kw_aload_n C 4 dC_passWalls_62 rfl rfl ?_
        refine kw_get (v := .ref (ac 2)) C 0 rfl rfl ku_C 3 (by decide) kt_127 rfl dC_passWalls_63 ?_
        refine kw_iload_n C 2 dC_passWalls_66 rfl rfl ?_
        refine kw_lald C 2 1 rfl rfl (kix_of (hI.2.2.2.1 i hlt)) dC_passWalls_67 ?_
        refine kw_lload C 0 dC_passWalls_68 rfl ?_
        refine kw_lsub C dC_passWalls_70 ?_
        refine kw_aload_n C 4 dC_passWalls_71 rfl rfl ?_
        refine kw_get (v := .ref (ah 0)) C 0 rfl rfl ku_C 0 (by decide) kt_122 rfl dC_passWalls_72 ?_
        refine kw_get (v := .ref (ah 7)) C 7 rfl rfl ku_H 8 (by decide) kt_56 rfl dC_passWalls_75 ?_
        refine kw_iload_n C 3 dC_passWalls_78 rfl rfl ?_
        refine kw_iald C 12 0 rfl rfl (kix_nI (by omega) (by decide)) dC_passWalls_79 ?_
        refine kw_i2l C dC_passWalls_80 ?_
        refine kw_lmul C dC_passWalls_81 ?_
        refine kw_ldc2 (v := 100) C kt_437 dC_passWalls_82 ?_
        refine kw_ldiv C dC_passWalls_85 (by decide) ?_
        refine kw_lstore (lv' := [(7, .long (((((c_warmth (fC_passWalls_2 c h hour i)) (((h_wallFrom h) i).toNatClampNeg)) - ((c_warmth (fC_passWalls_2 c h hour i)) (((h_wallTo h) i).toNatClampNeg))) * (((h_wallLeads h) i).toInt64)) / 100)), (5, .long ((c_warmth (fC_passWalls_2 c h hour i)) (((h_wallTo h) i).toNatClampNeg))), (4, .int ((h_wallTo h) i)), (3, .int ((h_wallFrom h) i)), (2, .int (nI i)), (0, .ref (ac 0)), (1, .int hour)]) C dC_passWalls_86 (by decide) rfl ?_
        refine kw_aload_n C 5 dC_passWalls_88 rfl rfl ?_
        refine kw_get (v := .ref (ac 1)) C 0 rfl rfl ku_C 2 (by decide) kt_125 rfl dC_passWalls_89 ?_
        refine kw_iload_n C 3 dC_passWalls_92 rfl rfl ?_
        refine kw_dup2_11 C dC_passWalls_93 rfl rfl ?_
        refine kw_lald C 1 1 rfl rfl (kix_of (hI.2.2.2.1 i hlt)) dC_passWalls_94 ?_
        refine kw_lload C 0 dC_passWalls_95 rfl ?_
        refine kw_lsub C dC_passWalls_97 ?_
        refine kw_last C 1 1 rfl rfl (kix_of (hI.2.2.2.1 i hlt)) dC_passWalls_98 (wC_c k ah ar ac (c_over (fC_passWalls_2 c h hour i)) (c_setRoom (fC_passWalls_2 c h hour i)) (c_setTried (fC_passWalls_2 c h hour i)) (c_setFrom (fC_passWalls_2 c h hour i)) (c_mostRoom (fC_passWalls_2 c h hour i)) (c_mostTried (fC_passWalls_2 c h hour i)) (c_fellShort (fC_passWalls_2 c h hour i)) (c_begun (fC_passWalls_2 c h hour i)) (c_fromSun (fC_passWalls_2 c h hour i)) (c_fromPersons (fC_passWalls_2 c h hour i)) (c_goneOut (fC_passWalls_2 c h hour i)) (vp_updL (c_heat (fC_passWalls_2 c h hour i)) (((h_wallFrom h) i).toNatClampNeg) (((c_heat (fC_passWalls_2 c h hour i)) (((h_wallFrom h) i).toNatClampNeg)) - (((((c_warmth (fC_passWalls_2 c h hour i)) (((h_wallFrom h) i).toNatClampNeg)) - ((c_warmth (fC_passWalls_2 c h hour i)) (((h_wallTo h) i).toNatClampNeg))) * (((h_wallLeads h) i).toInt64)) / 100))) (c_warmth (fC_passWalls_2 c h hour i)) (c_given (fC_passWalls_2 c h hour i)) (c_taken (fC_passWalls_2 c h hour i)) (c_greatest (fC_passWalls_2 c h hour i)) (c_uneasy (fC_passWalls_2 c h hour i)) h) rfl ?_
        refine kw_iload C 2 dC_passWalls_99 rfl ?_
        refine kw_iconst (v := -1) C dC_passWalls_101 (by decide) ?_
        refine kw_icmp_ne (tgt := 119) C dC_passWalls_102 (by decide) (fun c_3 => ?_) (fun c_3 => ?_)
        · skip
          refine kw_aload_n C 5 dC_passWalls_119 rfl rfl ?_
          refine kw_get (v := .ref (ac 1)) C 0 rfl rfl ku_C 2 (by decide) kt_125 rfl dC_passWalls_120 ?_
          refine kw_iload C 2 dC_passWalls_123 rfl ?_
          refine kw_dup2_11 C dC_passWalls_125 rfl rfl ?_
          refine kw_lald C 1 1 rfl rfl (kix_of (kInv_to hI hlt c_2)) dC_passWalls_126 ?_
          refine kw_lload C 0 dC_passWalls_127 rfl ?_
          refine kw_ladd C dC_passWalls_129 ?_
          refine kw_last C 1 1 rfl rfl (kix_of (kInv_to hI hlt c_2)) dC_passWalls_130 (wC_c k ah ar ac (c_over (fC_passWalls_2 c h hour i)) (c_setRoom (fC_passWalls_2 c h hour i)) (c_setTried (fC_passWalls_2 c h hour i)) (c_setFrom (fC_passWalls_2 c h hour i)) (c_mostRoom (fC_passWalls_2 c h hour i)) (c_mostTried (fC_passWalls_2 c h hour i)) (c_fellShort (fC_passWalls_2 c h hour i)) (c_begun (fC_passWalls_2 c h hour i)) (c_fromSun (fC_passWalls_2 c h hour i)) (c_fromPersons (fC_passWalls_2 c h hour i)) (c_goneOut (fC_passWalls_2 c h hour i)) (vp_updL (vp_updL (c_heat (fC_passWalls_2 c h hour i)) (((h_wallFrom h) i).toNatClampNeg) (((c_heat (fC_passWalls_2 c h hour i)) (((h_wallFrom h) i).toNatClampNeg)) - (((((c_warmth (fC_passWalls_2 c h hour i)) (((h_wallFrom h) i).toNatClampNeg)) - ((c_warmth (fC_passWalls_2 c h hour i)) (((h_wallTo h) i).toNatClampNeg))) * (((h_wallLeads h) i).toInt64)) / 100))) (((h_wallTo h) i).toNatClampNeg) (((vp_updL (c_heat (fC_passWalls_2 c h hour i)) (((h_wallFrom h) i).toNatClampNeg) (((c_heat (fC_passWalls_2 c h hour i)) (((h_wallFrom h) i).toNatClampNeg)) - (((((c_warmth (fC_passWalls_2 c h hour i)) (((h_wallFrom h) i).toNatClampNeg)) - ((c_warmth (fC_passWalls_2 c h hour i)) (((h_wallTo h) i).toNatClampNeg))) * (((h_wallLeads h) i).toInt64)) / 100))) (((h_wallTo h) i).toNatClampNeg)) + (((((c_warmth (fC_passWalls_2 c h hour i)) (((h_wallFrom h) i).toNatClampNeg)) - ((c_warmth (fC_passWalls_2 c h hour i)) (((h_wallTo h) i).toNatClampNeg))) * (((h_wallLeads h) i).toInt64)) / 100))) (c_warmth (fC_passWalls_2 c h hour i)) (c_given (fC_passWalls_2 c h hour i)) (c_taken (fC_passWalls_2 c h hour i)) (c_greatest (fC_passWalls_2 c h hour i)) (c_uneasy (fC_passWalls_2 c h hour i)) h) rfl ?_
          refine kw_iinc (v := nI (i + 1)) (lv' := [(2, .int (nI (i + 1))), (7, .long (((((c_warmth (fC_passWalls_2 c h hour i)) (((h_wallFrom h) i).toNatClampNeg)) - ((c_warmth (fC_passWalls_2 c h hour i)) (((h_wallTo h) i).toNatClampNeg))) * (((h_wallLeads h) i).toInt64)) / 100)), (5, .long ((c_warmth (fC_passWalls_2 c h hour i)) (((h_wallTo h) i).toNatClampNeg))), (4, .int ((h_wallTo h) i)), (3, .int ((h_wallFrom h) i)), (0, .ref (ac 0)), (1, .int hour)]) C 4 dC_passWalls_131 rfl (nI_1 i) (by decide) rfl ?_
          refine kw_goto (tgt := 2) C dC_passWalls_134 (by decide) ?_
          refine kw_sub [0, 5, 6] rfl ?_
          refine kw_eq rfl rfl (mk_wC_c.trans (congrArg (fun z90 => wC k ah ar ac z90 h) ((show ((c_over (fC_passWalls_2 c h hour i)), (c_setRoom (fC_passWalls_2 c h hour i)), (c_setTried (fC_passWalls_2 c h hour i)), (c_setFrom (fC_passWalls_2 c h hour i)), (c_mostRoom (fC_passWalls_2 c h hour i)), (c_mostTried (fC_passWalls_2 c h hour i)), (c_fellShort (fC_passWalls_2 c h hour i)), (c_begun (fC_passWalls_2 c h hour i)), (c_fromSun (fC_passWalls_2 c h hour i)), (c_fromPersons (fC_passWalls_2 c h hour i)), (c_goneOut (fC_passWalls_2 c h hour i)), (vp_updL (vp_updL (c_heat (fC_passWalls_2 c h hour i)) (((h_wallFrom h) i).toNatClampNeg) (((c_heat (fC_passWalls_2 c h hour i)) (((h_wallFrom h) i).toNatClampNeg)) - (((((c_warmth (fC_passWalls_2 c h hour i)) (((h_wallFrom h) i).toNatClampNeg)) - ((c_warmth (fC_passWalls_2 c h hour i)) (((h_wallTo h) i).toNatClampNeg))) * (((h_wallLeads h) i).toInt64)) / 100))) (((h_wallTo h) i).toNatClampNeg) (((vp_updL (c_heat (fC_passWalls_2 c h hour i)) (((h_wallFrom h) i).toNatClampNeg) (((c_heat (fC_passWalls_2 c h hour i)) (((h_wallFrom h) i).toNatClampNeg)) - (((((c_warmth (fC_passWalls_2 c h hour i)) (((h_wallFrom h) i).toNatClampNeg)) - ((c_warmth (fC_passWalls_2 c h hour i)) (((h_wallTo h) i).toNatClampNeg))) * (((h_wallLeads h) i).toInt64)) / 100))) (((h_wallTo h) i).toNatClampNeg)) + (((((c_warmth (fC_passWalls_2 c h hour i)) (((h_wallFrom h) i).toNatClampNeg)) - ((c_warmth (fC_passWalls_2 c h hour i)) (((h_wallTo h) i).toNatClampNeg))) * (((h_wallLeads h) i).toInt64)) / 100))), (c_warmth (fC_passWalls_2 c h hour i)), (c_given (fC_passWalls_2 c h hour i)), (c_taken (fC_passWalls_2 c h hour i)), (c_greatest (fC_passWalls_2 c h hour i)), (c_uneasy (fC_passWalls_2 c h hour i))) = (bC_passWalls_2 (fC_passWalls_2 c h hour i) c h hour i) from by unfold bC_passWalls_2; rw [if_neg c_2]).trans (show (bC_passWalls_2 (fC_passWalls_2 c h hour i) c h hour i) = (fC_passWalls_2 c h hour (i + 1)) from rfl)))) ?_
          exact ih (i + 1) (by omega) (by omega)
        · skip
          exact absurd c_3 c_2
      · skip
        refine kw_aload_n C 3 dC_passWalls_40 rfl rfl ?_
        refine kw_get (v := .ref (ah 0)) C 0 rfl rfl ku_C 0 (by decide) kt_122 rfl dC_passWalls_41 ?_
        refine kw_get (v := .ref (ah 12)) C 7 rfl rfl ku_H 14 (by decide) kt_70 rfl dC_passWalls_44 ?_
        refine kw_iload_n C 4 dC_passWalls_47 rfl rfl ?_
        refine kw_iald C 17 0 rfl rfl (kix_of hh) dC_passWalls_48 ?_
        refine kw_i2l C dC_passWalls_49 ?_
        refine kw_goto (tgt := 60) C dC_passWalls_50 (by decide) ?_
        refine kw_lstore (lv' := [(5, .long (((h_outsides h) hour.toNatClampNeg).toInt64)), (4, .int ((h_wallTo h) i)), (3, .int ((h_wallFrom h) i)), (2, .int (nI i)), (0, .ref (ac 0)), (1, .int hour)]) C dC_passWalls_60 (by decide) rfl ?_
        refine kw_aload_n C 4 dC_passWalls_62 rfl rfl ?_
        refine kw_get (v := .ref (ac 2)) C 0 rfl rfl ku_C 3 (by decide) kt_127 rfl dC_passWalls_63 ?_
        refine kw_iload_n C 2 dC_passWalls_66 rfl rfl ?_
        refine kw_lald C 2 1 rfl rfl (kix_of (hI.2.2.2.1 i hlt)) dC_passWalls_67 ?_
        refine kw_lload C 0 dC_passWalls_68 rfl ?_
        refine kw_lsub C dC_passWalls_70 ?_
        refine kw_aload_n C 4 dC_passWalls_71 rfl rfl ?_
        refine kw_get (v := .ref (ah 0)) C 0 rfl rfl ku_C 0 (by decide) kt_122 rfl dC_passWalls_72 ?_
        refine kw_get (v := .ref (ah 7)) C 7 rfl rfl ku_H 8 (by decide) kt_56 rfl dC_passWalls_75 ?_
        refine kw_iload_n C 3 dC_passWalls_78 rfl rfl ?_
        refine kw_iald C 12 0 rfl rfl (kix_nI (by omega) (by decide)) dC_passWalls_79 ?_
        refine kw_i2l C dC_passWalls_80 ?_
        refine kw_lmul C dC_passWalls_81 ?_
        refine kw_ldc2 (v := 100) C kt_437 dC_passWalls_82 ?_
        refine kw_ldiv C dC_passWalls_85 (by decide) ?_
        refine kw_lstore (lv' := [(7, .long (((((c_warmth (fC_passWalls_2 c h hour i)) (((h_wallFrom h) i).toNatClampNeg)) - (((h_outsides h) hour.toNatClampNeg).toInt64)) * (((h_wallLeads h) i).toInt64)) / 100)), (5, .long (((h_outsides h) hour.toNatClampNeg).toInt64)), (4, .int ((h_wallTo h) i)), (3, .int ((h_wallFrom h) i)), (2, .int (nI i)), (0, .ref (ac 0)), (1, .int hour)]) C dC_passWalls_86 (by decide) rfl ?_
        refine kw_aload_n C 5 dC_passWalls_88 rfl rfl ?_
        refine kw_get (v := .ref (ac 1)) C 0 rfl rfl ku_C 2 (by decide) kt_125 rfl dC_passWalls_89 ?_
        refine kw_iload_n C 3 dC_passWalls_92 rfl rfl ?_
        refine kw_dup2_11 C dC_passWalls_93 rfl rfl ?_
        refine kw_lald C 1 1 rfl rfl (kix_of (hI.2.2.2.1 i hlt)) dC_passWalls_94 ?_
        refine kw_lload C 0 dC_passWalls_95 rfl ?_
        refine kw_lsub C dC_passWalls_97 ?_
        refine kw_last C 1 1 rfl rfl (kix_of (hI.2.2.2.1 i hlt)) dC_passWalls_98 (wC_c k ah ar ac (c_over (fC_passWalls_2 c h hour i)) (c_setRoom (fC_passWalls_2 c h hour i)) (c_setTried (fC_passWalls_2 c h hour i)) (c_setFrom (fC_passWalls_2 c h hour i)) (c_mostRoom (fC_passWalls_2 c h hour i)) (c_mostTried (fC_passWalls_2 c h hour i)) (c_fellShort (fC_passWalls_2 c h hour i)) (c_begun (fC_passWalls_2 c h hour i)) (c_fromSun (fC_passWalls_2 c h hour i)) (c_fromPersons (fC_passWalls_2 c h hour i)) (c_goneOut (fC_passWalls_2 c h hour i)) (vp_updL (c_heat (fC_passWalls_2 c h hour i)) (((h_wallFrom h) i).toNatClampNeg) (((c_heat (fC_passWalls_2 c h hour i)) (((h_wallFrom h) i).toNatClampNeg)) - (((((c_warmth (fC_passWalls_2 c h hour i)) (((h_wallFrom h) i).toNatClampNeg)) - (((h_outsides h) hour.toNatClampNeg).toInt64)) * (((h_wallLeads h) i).toInt64)) / 100))) (c_warmth (fC_passWalls_2 c h hour i)) (c_given (fC_passWalls_2 c h hour i)) (c_taken (fC_passWalls_2 c h hour i)) (c_greatest (fC_passWalls_2 c h hour i)) (c_uneasy (fC_passWalls_2 c h hour i)) h) rfl ?_
        refine kw_iload C 2 dC_passWalls_99 rfl ?_
        refine kw_iconst (v := -1) C dC_passWalls_101 (by decide) ?_
        refine kw_icmp_ne (tgt := 119) C dC_passWalls_102 (by decide) (fun c_4 => ?_) (fun c_4 => ?_)
        · skip
          exact absurd c_2 c_4
        · skip
          refine kw_aload_n C 5 dC_passWalls_105 rfl rfl ?_
          refine kw_dup C dC_passWalls_106 rfl ?_
          refine kw_get (v := .long (c_goneOut (fC_passWalls_2 c h hour i))) C 0 rfl rfl ku_C 11 (by decide) kt_143 rfl dC_passWalls_107 ?_
          refine kw_lload C 0 dC_passWalls_110 rfl ?_
          refine kw_ladd C dC_passWalls_112 ?_
          refine kw_put C 0 rfl rfl ku_C tC_ok nC 11 (by decide) kt_143 rfl (ty := .long) (by decide +kernel) rfl rfl (Nat.le_of_ble_eq_true rfl) dC_passWalls_113 (wC_c k ah ar ac (c_over (fC_passWalls_2 c h hour i)) (c_setRoom (fC_passWalls_2 c h hour i)) (c_setTried (fC_passWalls_2 c h hour i)) (c_setFrom (fC_passWalls_2 c h hour i)) (c_mostRoom (fC_passWalls_2 c h hour i)) (c_mostTried (fC_passWalls_2 c h hour i)) (c_fellShort (fC_passWalls_2 c h hour i)) (c_begun (fC_passWalls_2 c h hour i)) (c_fromSun (fC_passWalls_2 c h hour i)) (c_fromPersons (fC_passWalls_2 c h hour i)) ((c_goneOut (fC_passWalls_2 c h hour i)) + (((((c_warmth (fC_passWalls_2 c h hour i)) (((h_wallFrom h) i).toNatClampNeg)) - (((h_outsides h) hour.toNatClampNeg).toInt64)) * (((h_wallLeads h) i).toInt64)) / 100)) (vp_updL (c_heat (fC_passWalls_2 c h hour i)) (((h_wallFrom h) i).toNatClampNeg) (((c_heat (fC_passWalls_2 c h hour i)) (((h_wallFrom h) i).toNatClampNeg)) - (((((c_warmth (fC_passWalls_2 c h hour i)) (((h_wallFrom h) i).toNatClampNeg)) - (((h_outsides h) hour.toNatClampNeg).toInt64)) * (((h_wallLeads h) i).toInt64)) / 100))) (c_warmth (fC_passWalls_2 c h hour i)) (c_given (fC_passWalls_2 c h hour i)) (c_taken (fC_passWalls_2 c h hour i)) (c_greatest (fC_passWalls_2 c h hour i)) (c_uneasy (fC_passWalls_2 c h hour i)) h) rfl ?_
          refine kw_goto (tgt := 131) C dC_passWalls_116 (by decide) ?_
          refine kw_iinc (v := nI (i + 1)) (lv' := [(2, .int (nI (i + 1))), (7, .long (((((c_warmth (fC_passWalls_2 c h hour i)) (((h_wallFrom h) i).toNatClampNeg)) - (((h_outsides h) hour.toNatClampNeg).toInt64)) * (((h_wallLeads h) i).toInt64)) / 100)), (5, .long (((h_outsides h) hour.toNatClampNeg).toInt64)), (4, .int ((h_wallTo h) i)), (3, .int ((h_wallFrom h) i)), (0, .ref (ac 0)), (1, .int hour)]) C 4 dC_passWalls_131 rfl (nI_1 i) (by decide) rfl ?_
          refine kw_goto (tgt := 2) C dC_passWalls_134 (by decide) ?_
          refine kw_sub [0, 5, 6] rfl ?_
          refine kw_eq rfl rfl (mk_wC_c.trans (congrArg (fun z90 => wC k ah ar ac z90 h) ((show ((c_over (fC_passWalls_2 c h hour i)), (c_setRoom (fC_passWalls_2 c h hour i)), (c_setTried (fC_passWalls_2 c h hour i)), (c_setFrom (fC_passWalls_2 c h hour i)), (c_mostRoom (fC_passWalls_2 c h hour i)), (c_mostTried (fC_passWalls_2 c h hour i)), (c_fellShort (fC_passWalls_2 c h hour i)), (c_begun (fC_passWalls_2 c h hour i)), (c_fromSun (fC_passWalls_2 c h hour i)), (c_fromPersons (fC_passWalls_2 c h hour i)), ((c_goneOut (fC_passWalls_2 c h hour i)) + (((((c_warmth (fC_passWalls_2 c h hour i)) (((h_wallFrom h) i).toNatClampNeg)) - (((h_outsides h) hour.toNatClampNeg).toInt64)) * (((h_wallLeads h) i).toInt64)) / 100)), (vp_updL (c_heat (fC_passWalls_2 c h hour i)) (((h_wallFrom h) i).toNatClampNeg) (((c_heat (fC_passWalls_2 c h hour i)) (((h_wallFrom h) i).toNatClampNeg)) - (((((c_warmth (fC_passWalls_2 c h hour i)) (((h_wallFrom h) i).toNatClampNeg)) - (((h_outsides h) hour.toNatClampNeg).toInt64)) * (((h_wallLeads h) i).toInt64)) / 100))), (c_warmth (fC_passWalls_2 c h hour i)), (c_given (fC_passWalls_2 c h hour i)), (c_taken (fC_passWalls_2 c h hour i)), (c_greatest (fC_passWalls_2 c h hour i)), (c_uneasy (fC_passWalls_2 c h hour i))) = (bC_passWalls_2 (fC_passWalls_2 c h hour i) c h hour i) from by unfold bC_passWalls_2; rw [if_pos c_2]).trans (show (bC_passWalls_2 (fC_passWalls_2 c h hour i) c h hour i) = (fC_passWalls_2 c h hour (i + 1)) from rfl)))) ?_
          exact ih (i + 1) (by omega) (by omega)
noncomputable def scC_passWalls (c : CS) (h : HS) (hour : Int32) : CS := (fC_passWalls_2 c h hour (hnW h))
set_option maxRecDepth 100000 in
set_option maxHeartbeats 4000000 in
theorem cC_passWalls (l : Launch) (D : va_G) (k : Nat → ClassId) (ah : Nat → Nat) (ar : Nat → Nat → Nat) (ac : Nat → Nat) (c : CS) (h : HS) (hour : Int32) (hI : kInv h) (hh : vp_in hour 24) : kMv l yC_passWalls (kwm yC_passWalls bC_passWalls 9 none) ({ frames := 0, cells := 0, slots := 0, locals := 0 }) D kcl (kty k) (wC k ah ar ac c h) (wC k ah ar ac (scC_passWalls c h hour) h) [.ref (ac 0), .int hour] := by
  refine k_entry_v (lv0 := [(0, .ref (ac 0)), (1, .int hour)]) rfl (by decide +kernel) (Nat.le_of_ble_eq_true rfl) rfl ?_
  intro p e s m args below meth c0 C hr hlocks
  have hb8 := hI.2.1.2
  refine kw_iconst (v := 0) C dC_passWalls_0 (by decide) ?_
  refine kw_istore_n (lv' := [(2, .int 0), (0, .ref (ac 0)), (1, .int hour)]) C dC_passWalls_1 rfl (by decide) rfl ?_
  refine kw_sub [0, 1, 2] rfl ?_
  refine lC_passWalls_2 k ah ar ac c h hour hI hh C ?_ (hnW h + 1) 0 (Nat.zero_le _) (by omega)
  refine kw_eq rfl rfl ((congrArg (fun z90 => wC k ah ar ac z90 h) (show (fC_passWalls_2 c h hour (hnW h)) = scC_passWalls c h hour from rfl))) ?_
  exact kw_vret C hr hlocks dC_passWalls_137
