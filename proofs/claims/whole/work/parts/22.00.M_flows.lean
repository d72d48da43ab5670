theorem kneg {x : Int32} (h : 0 ≤ x) : ¬ x = -1 := by
  intro e
  subst e
  revert h
  decide
noncomputable def bM_flows_2 (z : MV) (gu : MU) (gv : MV) (h_ : Int32) (i : Nat) : MV := ((m_heat z), (m_uneasy z), (m_gave z), (m_taken z), (m_greatest z), (m_now z), (m_bySun z), (m_byPersons z), (m_out z), (vp_updL (m_warmth z) i (rM_warmthOf gu z (nI i))), (m_triedRoom z), (m_triedWarmth z), (m_triedFrom z), (m_wasLow z), (m_kept z))
noncomputable def fM_flows_2 (gu : MU) (gv : MV) (h_ : Int32) (n : Nat) : MV := Nat.rec (motive := fun _ => MV) gv (fun i z => bM_flows_2 z gu gv h_ i) n
set_option maxRecDepth 100000 in
set_option maxHeartbeats 4000000 in
theorem lM_flows_2 {l : Launch} {p : Program} {e : Env} {s : State} {m : MethodId} {args : Array Value} {below : List Frame} {meth : Method} {c0 : Code} {D : va_G} {A : Nat → Prop} {Q : State → Prop} (k : Nat → ClassId) (am : Nat → Nat) (gu : MU) (gv : MV) (h_ : Int32) (hI : mInv gu) (hh : vp_in h_ 24) (C : kC p s m args c0 bM_flows "RoomHoursModel" kT D kcl (kty k) A 7) (kk : kW p l e ({ frames := 2, cells := 0, slots := 0, locals := 45 }) s m args below meth c0 D kcl A 7 0 0 Q 27 [(2, .int (nI (mnR gu))), (0, .ref (am 0)), (1, .int h_)] [] (wM k am gu (fM_flows_2 gu gv h_ (mnR gu)))) : ∀ (n i : Nat), i ≤ mnR gu → mnR gu < i + n → kW p l e ({ frames := 2, cells := 0, slots := 0, locals := 45 }) s m args below meth c0 D kcl A 7 0 0 Q 2 [(2, .int (nI i)), (0, .ref (am 0)), (1, .int h_)] [] (wM k am gu (fM_flows_2 gu gv h_ i)) := by
  intro n
  induction n with
  | zero => exact fun i h1 h2 => absurd h2 (by omega)
  | succ n ih =>
    intro i hi hin
    have hb8 := hI.1.2
    have hb20 := hI.2.1.2
    have hb12 := hI.2.2.1.2
    refine kw_iload_n C 0 dM_flows_2 rfl rfl ?_
    refine kw_aload_n C 1 dM_flows_3 rfl rfl ?_
    refine kw_get (v := .int (m_rooms gu)) C 0 rfl rfl ku_M 1 (by decide) kt_557 rfl dM_flows_4 ?_
    refine kw_icmp_ge (tgt := 27) C dM_flows_7 (by decide) (fun c_1 => ?_) (fun c_1 => ?_)
    · skip
      have e9 : i = mnR gu := klp1 hI.1.1 (by omega) hi c_1
      subst e9
      refine kw_sub [0, 1, 2] rfl ?_
      exact kk
    · skip
      have hlt : i < mnR gu := klp2 hI.1.1 (by omega) c_1
      refine kw_aload_n C 1 dM_flows_10 rfl rfl ?_
      refine kw_get (v := .ref (am 21)) C 0 rfl rfl ku_M 31 (by decide) kt_587 rfl dM_flows_11 ?_
      refine kw_iload_n C 0 dM_flows_14 rfl rfl ?_
      refine kw_aload_n C 1 dM_flows_15 rfl rfl ?_
      refine kw_iload_n C 0 dM_flows_16 rfl rfl ?_
      refine kw_callAl (w1 := (wM k am gu (fM_flows_2 gu gv h_ i))) (st := [.int (nI i), .ref (am 21)]) C (cM_warmthOf l D k am gu (fM_flows_2 gu gv h_ i) (nI i) hI (vp_in_nI hlt (by omega))) (cwV 1 C.1.2.2.2.2 (kgV kt_737 kt_739 ks_M_warmthOf kt_5 kt_740) rfl rfl rfl kdM_warmthOf ⟨Nat.le_of_ble_eq_true rfl, Nat.le_of_ble_eq_true rfl⟩) 0 3 rfl rfl rfl rfl rfl (Nat.le_of_ble_eq_true rfl) dM_flows_17 ⟨Nat.zero_le _, Nat.zero_le _⟩ (ad_wM.trans ad_wM.symm) ?_
      refine kw_last C 21 1 rfl rfl (kix_nI (by omega) (by decide)) dM_flows_20 (wM_gv k am gu (m_heat (fM_flows_2 gu gv h_ i)) (m_uneasy (fM_flows_2 gu gv h_ i)) (m_gave (fM_flows_2 gu gv h_ i)) (m_taken (fM_flows_2 gu gv h_ i)) (m_greatest (fM_flows_2 gu gv h_ i)) (m_now (fM_flows_2 gu gv h_ i)) (m_bySun (fM_flows_2 gu gv h_ i)) (m_byPersons (fM_flows_2 gu gv h_ i)) (m_out (fM_flows_2 gu gv h_ i)) (vp_updL (m_warmth (fM_flows_2 gu gv h_ i)) i (rM_warmthOf gu (fM_flows_2 gu gv h_ i) (nI i))) (m_triedRoom (fM_flows_2 gu gv h_ i)) (m_triedWarmth (fM_flows_2 gu gv h_ i)) (m_triedFrom (fM_flows_2 gu gv h_ i)) (m_wasLow (fM_flows_2 gu gv h_ i)) (m_kept (fM_flows_2 gu gv h_ i))) rfl ?_
      refine kw_iinc (v := nI (i + 1)) (lv' := [(2, .int (nI (i + 1))), (0, .ref (am 0)), (1, .int h_)]) C 0 dM_flows_21 rfl (nI_1 i) (by decide) rfl ?_
      refine kw_goto (tgt := 2) C dM_flows_24 (by decide) ?_
      refine kw_sub [0, 1, 2] rfl ?_
      refine kw_eq rfl rfl (mk_wM_gv.trans (congrArg (fun z90 => wM k am gu z90) ((show ((m_heat (fM_flows_2 gu gv h_ i)), (m_uneasy (fM_flows_2 gu gv h_ i)), (m_gave (fM_flows_2 gu gv h_ i)), (m_taken (fM_flows_2 gu gv h_ i)), (m_greatest (fM_flows_2 gu gv h_ i)), (m_now (fM_flows_2 gu gv h_ i)), (m_bySun (fM_flows_2 gu gv h_ i)), (m_byPersons (fM_flows_2 gu gv h_ i)), (m_out (fM_flows_2 gu gv h_ i)), (vp_updL (m_warmth (fM_flows_2 gu gv h_ i)) i (rM_warmthOf gu (fM_flows_2 gu gv h_ i) (nI i))), (m_triedRoom (fM_flows_2 gu gv h_ i)), (m_triedWarmth (fM_flows_2 gu gv h_ i)), (m_triedFrom (fM_flows_2 gu gv h_ i)), (m_wasLow (fM_flows_2 gu gv h_ i)), (m_kept (fM_flows_2 gu gv h_ i))) = (bM_flows_2 (fM_flows_2 gu gv h_ i) gu gv h_ i) from by unfold bM_flows_2; rfl).trans (show (bM_flows_2 (fM_flows_2 gu gv h_ i) gu gv h_ i) = (fM_flows_2 gu gv h_ (i + 1)) from rfl)))) ?_
      exact ih (i + 1) (by omega) (by omega)
noncomputable def bM_flows_29 (z : MV) (gu : MU) (gv : MV) (h_ : Int32) (i : Nat) : MV := if 0 ≤ ((m_wallOther gu) i) then ((vp_updL (vp_updL (m_heat z) (((m_wallRoom gu) i).toNatClampNeg) (((m_heat z) (((m_wallRoom gu) i).toNatClampNeg)) - (((((m_warmth z) (((m_wallRoom gu) i).toNatClampNeg)) - ((m_warmth z) (((m_wallOther gu) i).toNatClampNeg))) * (((m_leads gu) i).toInt64)) / 100))) (((m_wallOther gu) i).toNatClampNeg) (((vp_updL (m_heat z) (((m_wallRoom gu) i).toNatClampNeg) (((m_heat z) (((m_wallRoom gu) i).toNatClampNeg)) - (((((m_warmth z) (((m_wallRoom gu) i).toNatClampNeg)) - ((m_warmth z) (((m_wallOther gu) i).toNatClampNeg))) * (((m_leads gu) i).toInt64)) / 100))) (((m_wallOther gu) i).toNatClampNeg)) + (((((m_warmth z) (((m_wallRoom gu) i).toNatClampNeg)) - ((m_warmth z) (((m_wallOther gu) i).toNatClampNeg))) * (((m_leads gu) i).toInt64)) / 100))), (m_uneasy z), (m_gave z), (m_taken z), (m_greatest z), (m_now z), (m_bySun z), (m_byPersons z), (m_out z), (m_warmth z), (m_triedRoom z), (m_triedWarmth z), (m_triedFrom z), (m_wasLow z), (m_kept z)) else ((vp_updL (m_heat z) (((m_wallRoom gu) i).toNatClampNeg) (((m_heat z) (((m_wallRoom gu) i).toNatClampNeg)) - (((((m_warmth z) (((m_wallRoom gu) i).toNatClampNeg)) - (((m_outside gu) h_.toNatClampNeg).toInt64)) * (((m_leads gu) i).toInt64)) / 100))), (m_uneasy z), (m_gave z), (m_taken z), (m_greatest z), (m_now z), (m_bySun z), (m_byPersons z), ((m_out z) + (((((m_warmth z) (((m_wallRoom gu) i).toNatClampNeg)) - (((m_outside gu) h_.toNatClampNeg).toInt64)) * (((m_leads gu) i).toInt64)) / 100)), (m_warmth z), (m_triedRoom z), (m_triedWarmth z), (m_triedFrom z), (m_wasLow z), (m_kept z))
noncomputable def fM_flows_29 (gu : MU) (gv : MV) (h_ : Int32) (n : Nat) : MV := Nat.rec (motive := fun _ => MV) gv (fun i z => bM_flows_29 z gu gv h_ i) n
set_option maxRecDepth 100000 in
set_option maxHeartbeats 4000000 in
theorem lM_flows_29 {l : Launch} {p : Program} {e : Env} {s : State} {m : MethodId} {args : Array Value} {below : List Frame} {meth : Method} {c0 : Code} {D : va_G} {A : Nat → Prop} {Q : State → Prop} (k : Nat → ClassId) (am : Nat → Nat) (gu : MU) (gv : MV) (h_ : Int32) (hI : mInv gu) (hh : vp_in h_ 24) (C : kC p s m args c0 bM_flows "RoomHoursModel" kT D kcl (kty k) A 7) (kk : kW p l e ({ frames := 2, cells := 0, slots := 0, locals := 45 }) s m args below meth c0 D kcl A 7 0 0 Q 143 [(2, .int (nI (mnW gu))), (0, .ref (am 0)), (1, .int h_)] [] (wM k am gu (fM_flows_29 gu gv h_ (mnW gu)))) : ∀ (n i : Nat), i ≤ mnW gu → mnW gu < i + n → kW p l e ({ frames := 2, cells := 0, slots := 0, locals := 45 }) s m args below meth c0 D kcl A 7 0 0 Q 29 [(2, .int (nI i)), (0, .ref (am 0)), (1, .int h_)] [] (wM k am gu (fM_flows_29 gu gv h_ i)) := by
  intro n
  induction n with
  | zero => exact fun i h1 h2 => absurd h2 (by omega)
  | succ n ih =>
    intro i hi hin
    have hb8 := hI.1.2
    have hb20 := hI.2.1.2
    have hb12 := hI.2.2.1.2
    refine kw_iload_n C 0 dM_flows_29 rfl rfl ?_
    refine kw_aload_n C 1 dM_flows_30 rfl rfl ?_
    refine kw_get (v := .int (m_walls gu)) C 0 rfl rfl ku_M 11 (by decide) kt_567 rfl dM_flows_31 ?_
    refine kw_icmp_ge (tgt := 143) C dM_flows_34 (by decide) (fun c_1 => ?_) (fun c_1 => ?_)
    · skip
      have e9 : i = mnW gu := klp1 hI.2.1.1 (by omega) hi c_1
      subst e9
      refine kw_sub [0, 1, 2] rfl ?_
      exact kk
    · skip
      have hlt : i < mnW gu := klp2 hI.2.1.1 (by omega) c_1
      refine kw_aload_n C 1 dM_flows_37 rfl rfl ?_
      refine kw_get (v := .ref (am 9)) C 0 rfl rfl ku_M 12 (by decide) kt_568 rfl dM_flows_38 ?_
      refine kw_iload_n C 0 dM_flows_41 rfl rfl ?_
      refine kw_iald C 9 0 rfl rfl (kix_nI (by omega) (by decide)) dM_flows_42 ?_
      refine kw_istore_n (lv' := [(3, .int ((m_wallRoom gu) i)), (2, .int (nI i)), (0, .ref (am 0)), (1, .int h_)]) C dM_flows_43 rfl (by decide) rfl ?_
      refine kw_aload_n C 2 dM_flows_44 rfl rfl ?_
      refine kw_get (v := .ref (am 10)) C 0 rfl rfl ku_M 13 (by decide) kt_569 rfl dM_flows_45 ?_
      refine kw_iload_n C 1 dM_flows_48 rfl rfl ?_
      refine kw_iald C 10 0 rfl rfl (kix_nI (by omega) (by decide)) dM_flows_49 ?_
      refine kw_istore (lv' := [(4, .int ((m_wallOther gu) i)), (3, .int ((m_wallRoom gu) i)), (2, .int (nI i)), (0, .ref (am 0)), (1, .int h_)]) C dM_flows_50 (by decide) rfl ?_
      refine kw_aload_n C 3 dM_flows_52 rfl rfl ?_
      refine kw_get (v := .ref (am 21)) C 0 rfl rfl ku_M 31 (by decide) kt_587 rfl dM_flows_53 ?_
      refine kw_iload_n C 1 dM_flows_56 rfl rfl ?_
      refine kw_lald C 21 1 rfl rfl (kix_of (hI.2.2.2.1 i hlt)) dM_flows_57 ?_
      refine kw_iload C 0 dM_flows_58 rfl ?_
      refine kw_if_ge (tgt := 73) C dM_flows_60 (by decide) (fun c_2 => ?_) (fun c_2 => ?_)
      · skip
        refine kw_aload_n C 3 dM_flows_73 rfl rfl ?_
        refine kw_get (v := .ref (am 21)) C 0 rfl rfl ku_M 31 (by decide) kt_587 rfl dM_flows_74 ?_
        refine kw_iload C 0 dM_flows_77 rfl ?_
        refine kw_lald C 21 1 rfl rfl (kix_of ((hI.2.2.2.2.1 i hlt).resolve_left (kneg c_2))) dM_flows_79 ?_
        refine kw_lsub C dM_flows_80 ?_
        refine kw_aload_n C 3 dM_flows_81 rfl rfl ?_
        refine kw_get (v := .ref (am 11)) C 0 rfl rfl ku_M 14 (by decide) kt_570 rfl dM_flows_82 ?_
        refine kw_iload_n C 2 dM_flows_85 rfl rfl ?_
        refine kw_iald C 11 0 rfl rfl (kix_nI (by omega) (by decide)) dM_flows_86 ?_
        refine kw_i2l C dM_flows_87 ?_
        refine kw_lmul C dM_flows_88 ?_
        refine kw_ldc2 (v := 100) C kt_694 dM_flows_89 ?_
        refine kw_ldiv C dM_flows_92 (by decide) ?_
        refine kw_lstore (lv' := [(5, .long (((((m_warmth (fM_flows_29 gu gv h_ i)) (((m_wallRoom gu) i).toNatClampNeg)) - ((m_warmth (fM_flows_29 gu gv h_ i)) (((m_wallOther gu) i).toNatClampNeg))) * (((m_leads gu) i).toInt64)) / 100)), (4, .int ((m_wallOther gu) i)), (3, .int ((m_wallRoom gu) i)), (2, .int (nI i)), (0, .ref (am 0)), (1, .int h_)]) C dM_flows_93 (by decide) rfl ?_
        refine kw_aload_n C 4 dM_flows_95 rfl rfl ?_
        refine kw_get (v := .ref (am 2)) C 0 rfl rfl ku_M 3 (by decide) kt_559 rfl dM_flows_96 ?_
        refine kw_iload_n C 2 dM_flows_99 rfl rfl ?_
        refine kw_dup2_11 C dM_flows_100 rfl rfl ?_
        refine kw_lald C 2 1 rfl rfl (kix_of (hI.2.2.2.1 i hlt)) dM_flows_101 ?_
        refine kw_lload C 0 dM_flows_102 rfl ?_
        refine kw_lsub C dM_flows_104 ?_
        refine kw_last C 2 1 rfl rfl (kix_of (hI.2.2.2.1 i hlt)) dM_flows_105 (wM_gv k am gu (vp_updL (m_heat (fM_flows_29 gu gv h_ i)) (((m_wallRoom gu) i).toNatClampNeg) (((m_heat (fM_flows_29 gu gv h_ i)) (((m_wallRoom gu) i).toNatClampNeg)) - (((((m_warmth (fM_flows_29 gu gv h_ i)) (((m_wallRoom gu) i).toNatClampNeg)) - ((m_warmth (fM_flows_29 gu gv h_ i)) (((m_wallOther gu) i).toNatClampNeg))) * (((m_leads gu) i).toInt64)) / 100))) (m_uneasy (fM_flows_29 gu gv h_ i)) (m_gave (fM_flows_29 gu gv h_ i)) (m_taken (fM_flows_29 gu gv h_ i)) (m_greatest (fM_flows_29 gu gv h_ i)) (m_now (fM_flows_29 gu gv h_ i)) (m_bySun (fM_flows_29 gu gv h_ i)) (m_byPersons (fM_flows_29 gu gv h_ i)) (m_out (fM_flows_29 gu gv h_ i)) (m_warmth (fM_flows_29 gu gv h_ i)) (m_triedRoom (fM_flows_29 gu gv h_ i)) (m_triedWarmth (fM_flows_29 gu gv h_ i)) (m_triedFrom (fM_flows_29 gu gv h_ i)) (m_wasLow (fM_flows_29 gu gv h_ i)) (m_kept (fM_flows_29 gu gv h_ i))) rfl ?_
        refine kw_iload C 1 dM_flows_106 rfl ?_
        refine kw_if_ge (tgt := 125) C dM_flows_108 (by decide) (fun c_3 => ?_) (fun c_3 => ?_)
        · skip
          refine kw_aload_n C 4 dM_flows_125 rfl rfl ?_
          refine kw_get (v := .ref (am 2)) C 0 rfl rfl ku_M 3 (by decide) kt_559 rfl dM_flows_126 ?_
          refine kw_iload C 1 dM_flows_129 rfl ?_
          refine kw_dup2_11 C dM_flows_131 rfl rfl ?_
          refine kw_lald C 2 1 rfl rfl (kix_of ((hI.2.2.2.2.1 i hlt).resolve_left (kneg c_2))) dM_flows_132 ?_
          refine kw_lload C 0 dM_flows_133 rfl ?_
          refine kw_ladd C dM_flows_135 ?_
          refine kw_last C 2 1 rfl rfl (kix_of ((hI.2.2.2.2.1 i hlt).resolve_left (kneg c_2))) dM_flows_136 (wM_gv k am gu (vp_updL (vp_updL (m_heat (fM_flows_29 gu gv h_ i)) (((m_wallRoom gu) i).toNatClampNeg) (((m_heat (fM_flows_29 gu gv h_ i)) (((m_wallRoom gu) i).toNatClampNeg)) - (((((m_warmth (fM_flows_29 gu gv h_ i)) (((m_wallRoom gu) i).toNatClampNeg)) - ((m_warmth (fM_flows_29 gu gv h_ i)) (((m_wallOther gu) i).toNatClampNeg))) * (((m_leads gu) i).toInt64)) / 100))) (((m_wallOther gu) i).toNatClampNeg) (((vp_updL (m_heat (fM_flows_29 gu gv h_ i)) (((m_wallRoom gu) i).toNatClampNeg) (((m_heat (fM_flows_29 gu gv h_ i)) (((m_wallRoom gu) i).toNatClampNeg)) - (((((m_warmth (fM_flows_29 gu gv h_ i)) (((m_wallRoom gu) i).toNatClampNeg)) - ((m_warmth (fM_flows_29 gu gv h_ i)) (((m_wallOther gu) i).toNatClampNeg))) * (((m_leads gu) i).toInt64)) / 100))) (((m_wallOther gu) i).toNatClampNeg)) + (((((m_warmth (fM_flows_29 gu gv h_ i)) (((m_wallRoom gu) i).toNatClampNeg)) - ((m_warmth (fM_flows_29 gu gv h_ i)) (((m_wallOther gu) i).toNatClampNeg))) * (((m_leads gu) i).toInt64)) / 100))) (m_uneasy (fM_flows_29 gu gv h_ i)) (m_gave (fM_flows_29 gu gv h_ i)) (m_taken (fM_flows_29 gu gv h_ i)) (m_greatest (fM_flows_29 gu gv h_ i)) (m_now (fM_flows_29 gu gv h_ i)) (m_bySun (fM_flows_29 gu gv h_ i)) (m_byPersons (fM_flows_29 gu gv h_ i)) (m_out (fM_flows_29 gu gv h_ i)) (m_warmth (fM_flows_29 gu gv h_ i)) (m_triedRoom (fM_flows_29 gu gv h_ i)) (m_triedWarmth (fM_flows_29 gu gv h_ i)) (m_triedFrom (fM_flows_29 gu gv h_ i)) (m_wasLow (fM_flows_29 gu gv h_ i)) (m_kept (fM_flows_29 gu gv h_ i))) rfl ?_
          refine kw_iinc (v := nI (i + 1)) (lv' := [(2, .int (nI (i + 1))), (5, .long (((((m_warmth (fM_flows_29 gu gv h_ i)) (((m_wallRoom gu) i).toNatClampNeg)) - ((m_warmth (fM_flows_29 gu gv h_ i)) (((m_wallOther gu) i).toNatClampNeg))) * (((m_leads gu) i).toInt64)) / 100)), (4, .int ((m_wallOther gu) i)), (3, .int ((m_wallRoom gu) i)), (0, .ref (am 0)), (1, .int h_)]) C 3 dM_flows_137 rfl (nI_1 i) (by decide) rfl ?_
          refine kw_goto (tgt := 29) C dM_flows_140 (by decide) ?_
          refine kw_sub [0, 4, 5] rfl ?_
          refine kw_eq rfl rfl (mk_wM_gv.trans (congrArg (fun z90 => wM k am gu z90) ((show ((vp_updL (vp_updL (m_heat (fM_flows_29 gu gv h_ i)) (((m_wallRoom gu) i).toNatClampNeg) (((m_heat (fM_flows_29 gu gv h_ i)) (((m_wallRoom gu) i).toNatClampNeg)) - (((((m_warmth (fM_flows_29 gu gv h_ i)) (((m_wallRoom gu) i).toNatClampNeg)) - ((m_warmth (fM_flows_29 gu gv h_ i)) (((m_wallOther gu) i).toNatClampNeg))) * (((m_leads gu) i).toInt64)) / 100))) (((m_wallOther gu) i).toNatClampNeg) (((vp_updL (m_heat (fM_flows_29 gu gv h_ i)) (((m_wallRoom gu) i).toNatClampNeg) (((m_heat (fM_flows_29 gu gv h_ i)) (((m_wallRoom gu) i).toNatClampNeg)) - (((((m_warmth (fM_flows_29 gu gv h_ i)) (((m_wallRoom gu) i).toNatClampNeg)) - ((m_warmth (fM_flows_29 gu gv h_ i)) (((m_wallOther gu) i).toNatClampNeg))) * (((m_leads gu) i).toInt64)) / 100))) (((m_wallOther gu) i).toNatClampNeg)) + (((((m_warmth (fM_flows_29 gu gv h_ i)) (((m_wallRoom gu) i).toNatClampNeg)) - ((m_warmth (fM_flows_29 gu gv h_ i)) (((m_wallOther gu) i).toNatClampNeg))) * (((m_leads gu) i).toInt64)) / 100))), (m_uneasy (fM_flows_29 gu gv h_ i)), (m_gave (fM_flows_29 gu gv h_ i)), (m_taken (fM_flows_29 gu gv h_ i)), (m_greatest (fM_flows_29 gu gv h_ i)), (m_now (fM_flows_29 gu gv h_ i)), (m_bySun (fM_flows_29 gu gv h_ i)), (m_byPersons (fM_flows_29 gu gv h_ i)), (m_out (fM_flows_29 gu gv h_ i)), (m_warmth (fM_flows_29 gu gv h_ i)), (m_triedRoom (fM_flows_29 gu gv h_ i)), (m_triedWarmth (fM_flows_29 gu gv h_ i)), (m_triedFrom (fM_flows_29 gu gv h_ i)), (m_wasLow (fM_flows_29 gu gv h_ i)), (m_kept (fM_flows_29 gu gv h_ i))) = (bM_flows_29 (fM_flows_29 gu gv h_ i) gu gv h_ i) from by unfold bM_flows_29; rw [if_pos c_2]).trans (show (bM_flows_29 (fM_flows_29 gu gv h_ i) gu gv h_ i) = (fM_flows_29 gu gv h_ (i + 1)) from rfl)))) ?_
          exact ih (i + 1) (by omega) (by omega)
        · skip
          exact absurd c_2 c_3
      · skip
        refine kw_aload_n C 3 dM_flows_63 rfl rfl ?_
        refine kw_get (v := .ref (am 16)) C 0 rfl rfl ku_M 20 (by decide) kt_576 rfl dM_flows_64 ?_
        refine kw_iload_n C 4 dM_flows_67 rfl rfl ?_
        refine kw_iald C 16 0 rfl rfl (kix_of hh) dM_flows_68 ?_
        refine kw_i2l C dM_flows_69 ?_
        refine kw_goto (tgt := 80) C dM_flows_70 (by decide) ?_
        refine kw_lsub C dM_flows_80 ?_
        refine kw_aload_n C 3 dM_flows_81 rfl rfl ?_
        refine kw_get (v := .ref (am 11)) C 0 rfl rfl ku_M 14 (by decide) kt_570 rfl dM_flows_82 ?_
        refine kw_iload_n C 2 dM_flows_85 rfl rfl ?_
        refine kw_iald C 11 0 rfl rfl (kix_nI (by omega) (by decide)) dM_flows_86 ?_
        refine kw_i2l C dM_flows_87 ?_
        refine kw_lmul C dM_flows_88 ?_
        refine kw_ldc2 (v := 100) C kt_694 dM_flows_89 ?_
        refine kw_ldiv C dM_flows_92 (by decide) ?_
        refine kw_lstore (lv' := [(5, .long (((((m_warmth (fM_flows_29 gu gv h_ i)) (((m_wallRoom gu) i).toNatClampNeg)) - (((m_outside gu) h_.toNatClampNeg).toInt64)) * (((m_leads gu) i).toInt64)) / 100)), (4, .int ((m_wallOther gu) i)), (3, .int ((m_wallRoom gu) i)), (2, .int (nI i)), (0, .ref (am 0)), (1, .int h_)]) C dM_flows_93 (by decide) rfl ?_
        refine kw_aload_n C 4 dM_flows_95 rfl rfl ?_
        refine kw_get (v := .ref (am 2)) C 0 rfl rfl ku_M 3 (by decide) kt_559 rfl dM_flows_96 ?_
        refine kw_iload_n C 2 dM_flows_99 rfl rfl ?_
        refine kw_dup2_11 C dM_flows_100 rfl rfl ?_
        refine kw_lald C 2 1 rfl rfl (kix_of (hI.2.2.2.1 i hlt)) dM_flows_101 ?_
        refine kw_lload C 0 dM_flows_102 rfl ?_
        refine kw_lsub C dM_flows_104 ?_
        refine kw_last C 2 1 rfl rfl (kix_of (hI.2.2.2.1 i hlt)) dM_flows_105 (wM_gv k am gu (vp_updL (m_heat (fM_flows_29 gu gv h_ i)) (((m_wallRoom gu) i).toNatClampNeg) (((m_heat (fM_flows_29 gu gv h_ i)) (((m_wallRoom gu) i).toNatClampNeg)) - (((((m_warmth (fM_flows_29 gu gv h_ i)) (((m_wallRoom gu) i).toNatClampNeg)) - (((m_outside gu) h_.toNatClampNeg).toInt64)) * (((m_leads gu) i).toInt64)) / 100))) (m_uneasy (fM_flows_29 gu gv h_ i)) (m_gave (fM_flows_29 gu gv h_ i)) (m_taken (fM_flows_29 gu gv h_ i)) (m_greatest (fM_flows_29 gu gv h_ i)) (m_now (fM_flows_29 gu gv h_ i)) (m_bySun (fM_flows_29 gu gv h_ i)) (m_byPersons (fM_flows_29 gu gv h_ i)) (m_out (fM_flows_29 gu gv h_ i)) (m_warmth (fM_flows_29 gu gv h_ i)) (m_triedRoom (fM_flows_29 gu gv h_ i)) (m_triedWarmth (fM_flows_29 gu gv h_ i)) (m_triedFrom (fM_flows_29 gu gv h_ i)) (m_wasLow (fM_flows_29 gu gv h_ i)) (m_kept (fM_flows_29 gu gv h_ i))) rfl ?_
        refine kw_iload C 1 dM_flows_106 rfl ?_
        refine kw_if_ge (tgt := 125) C dM_flows_108 (by decide) (fun c_4 => ?_) (fun c_4 => ?_)
        · skip
          exact absurd c_4 c_2
        · skip
          refine kw_aload_n C 4 dM_flows_111 rfl rfl ?_
          refine kw_dup C dM_flows_112 rfl ?_
          refine kw_get (v := .long (m_out (fM_flows_29 gu gv h_ i))) C 0 rfl rfl ku_M 30 (by decide) kt_586 rfl dM_flows_113 ?_
          refine kw_lload C 0 dM_flows_116 rfl ?_
          refine kw_ladd C dM_flows_118 ?_
          refine kw_put C 0 rfl rfl ku_M tM_ok nM 30 (by decide) kt_586 rfl (ty := .long) (by decide +kernel) rfl rfl (Nat.le_of_ble_eq_true rfl) dM_flows_119 (wM_gv k am gu (vp_updL (m_heat (fM_flows_29 gu gv h_ i)) (((m_wallRoom gu) i).toNatClampNeg) (((m_heat (fM_flows_29 gu gv h_ i)) (((m_wallRoom gu) i).toNatClampNeg)) - (((((m_warmth (fM_flows_29 gu gv h_ i)) (((m_wallRoom gu) i).toNatClampNeg)) - (((m_outside gu) h_.toNatClampNeg).toInt64)) * (((m_leads gu) i).toInt64)) / 100))) (m_uneasy (fM_flows_29 gu gv h_ i)) (m_gave (fM_flows_29 gu gv h_ i)) (m_taken (fM_flows_29 gu gv h_ i)) (m_greatest (fM_flows_29 gu gv h_ i)) (m_now (fM_flows_29 gu gv h_ i)) (m_bySun (fM_flows_29 gu gv h_ i)) (m_byPersons (fM_flows_29 gu gv h_ i)) ((m_out (fM_flows_29 gu gv h_ i)) + (((((m_warmth (fM_flows_29 gu gv h_ i)) (((m_wallRoom gu) i).toNatClampNeg)) - (((m_outside gu) h_.toNatClampNeg).toInt64)) * (((m_leads gu) i).toInt64)) / 100)) (m_warmth (fM_flows_29 gu gv h_ i)) (m_triedRoom (fM_flows_29 gu gv h_ i)) (m_triedWarmth (fM_flows_29 gu gv h_ i)) (m_triedFrom (fM_flows_29 gu gv h_ i)) (m_wasLow (fM_flows_29 gu gv h_ i)) (m_kept (fM_flows_29 gu gv h_ i))) rfl ?_
          refine kw_goto (tgt := 137) C dM_flows_122 (by decide) ?_
          refine kw_iinc (v := nI (i + 1)) (lv' := [(2, .int (nI (i + 1))), (5, .long (((((m_warmth (fM_flows_29 gu gv h_ i)) (((m_wallRoom gu) i).toNatClampNeg)) - (((m_outside gu) h_.toNatClampNeg).toInt64)) * (((m_leads gu) i).toInt64)) / 100)), (4, .int ((m_wallOther gu) i)), (3, .int ((m_wallRoom gu) i)), (0, .ref (am 0)), (1, .int h_)]) C 3 dM_flows_137 rfl (nI_1 i) (by decide) rfl ?_
          refine kw_goto (tgt := 29) C dM_flows_140 (by decide) ?_
          refine kw_sub [0, 4, 5] rfl ?_
          refine kw_eq rfl rfl (mk_wM_gv.trans (congrArg (fun z90 => wM k am gu z90) ((show ((vp_updL (m_heat (fM_flows_29 gu gv h_ i)) (((m_wallRoom gu) i).toNatClampNeg) (((m_heat (fM_flows_29 gu gv h_ i)) (((m_wallRoom gu) i).toNatClampNeg)) - (((((m_warmth (fM_flows_29 gu gv h_ i)) (((m_wallRoom gu) i).toNatClampNeg)) - (((m_outside gu) h_.toNatClampNeg).toInt64)) * (((m_leads gu) i).toInt64)) / 100))), (m_uneasy (fM_flows_29 gu gv h_ i)), (m_gave (fM_flows_29 gu gv h_ i)), (m_taken (fM_flows_29 gu gv h_ i)), (m_greatest (fM_flows_29 gu gv h_ i)), (m_now (fM_flows_29 gu gv h_ i)), (m_bySun (fM_flows_29 gu gv h_ i)), (m_byPersons (fM_flows_29 gu gv h_ i)), ((m_out (fM_flows_29 gu gv h_ i)) + (((((m_warmth (fM_flows_29 gu gv h_ i)) (((m_wallRoom gu) i).toNatClampNeg)) - (((m_outside gu) h_.toNatClampNeg).toInt64)) * (((m_leads gu) i).toInt64)) / 100)), (m_warmth (fM_flows_29 gu gv h_ i)), (m_triedRoom (fM_flows_29 gu gv h_ i)), (m_triedWarmth (fM_flows_29 gu gv h_ i)), (m_triedFrom (fM_flows_29 gu gv h_ i)), (m_wasLow (fM_flows_29 gu gv h_ i)), (m_kept (fM_flows_29 gu gv h_ i))) = (bM_flows_29 (fM_flows_29 gu gv h_ i) gu gv h_ i) from by unfold bM_flows_29; rw [if_neg c_2]).trans (show (bM_flows_29 (fM_flows_29 gu gv h_ i) gu gv h_ i) = (fM_flows_29 gu gv h_ (i + 1)) from rfl)))) ?_
          exact ih (i + 1) (by omega) (by omega)
noncomputable def bM_flows_145 (z : MV) (gu : MU) (gv : MV) (h_ : Int32) (i : Nat) : MV := if (lg_cmp ((m_warmth z) (((m_windowRoom gu) i).toNatClampNeg)) (((m_windowLimit gu) i).toInt64)) ≤ 0 then ((vp_updL (m_heat z) (((m_windowRoom gu) i).toNatClampNeg) (((m_heat z) (((m_windowRoom gu) i).toNatClampNeg)) + (((((m_windowArea gu) i) * ((m_sun gu) ((24 * ((m_windowSide gu) i) + h_).toNatClampNeg))) / 10).toInt64))), (m_uneasy z), (m_gave z), (m_taken z), (m_greatest z), (m_now z), ((m_bySun z) + (((((m_windowArea gu) i) * ((m_sun gu) ((24 * ((m_windowSide gu) i) + h_).toNatClampNeg))) / 10).toInt64)), (m_byPersons z), (m_out z), (m_warmth z), (m_triedRoom z), (m_triedWarmth z), (m_triedFrom z), (m_wasLow z), (m_kept z)) else ((vp_updL (m_heat z) (((m_windowRoom gu) i).toNatClampNeg) (((m_heat z) (((m_windowRoom gu) i).toNatClampNeg)) + ((((((m_windowArea gu) i) * ((m_sun gu) ((24 * ((m_windowSide gu) i) + h_).toNatClampNeg))) / 10) / 4).toInt64))), (m_uneasy z), (m_gave z), (m_taken z), (m_greatest z), (m_now z), ((m_bySun z) + ((((((m_windowArea gu) i) * ((m_sun gu) ((24 * ((m_windowSide gu) i) + h_).toNatClampNeg))) / 10) / 4).toInt64)), (m_byPersons z), (m_out z), (m_warmth z), (m_triedRoom z), (m_triedWarmth z), (m_triedFrom z), (m_wasLow z), (m_kept z))
noncomputable def fM_flows_145 (gu : MU) (gv : MV) (h_ : Int32) (n : Nat) : MV := Nat.rec (motive := fun _ => MV) gv (fun i z => bM_flows_145 z gu gv h_ i) n
set_option maxRecDepth 100000 in
set_option maxHeartbeats 4000000 in
theorem lM_flows_145 {l : Launch} {p : Program} {e : Env} {s : State} {m : MethodId} {args : Array Value} {below : List Frame} {meth : Method} {c0 : Code} {D : va_G} {A : Nat → Prop} {Q : State → Prop} (k : Nat → ClassId) (am : Nat → Nat) (gu : MU) (gv : MV) (h_ : Int32) (hI : mInv gu) (hh : vp_in h_ 24) (C : kC p s m args c0 bM_flows "RoomHoursModel" kT D kcl (kty k) A 7) (kk : kW p l e ({ frames := 2, cells := 0, slots := 0, locals := 45 }) s m args below meth c0 D kcl A 7 0 0 Q 246 [(2, .int (nI (mnN gu))), (0, .ref (am 0)), (1, .int h_)] [] (wM k am gu (fM_flows_145 gu gv h_ (mnN gu)))) : ∀ (n i : Nat), i ≤ mnN gu → mnN gu < i + n → kW p l e ({ frames := 2, cells := 0, slots := 0, locals := 45 }) s m args below meth c0 D kcl A 7 0 0 Q 145 [(2, .int (nI i)), (0, .ref (am 0)), (1, .int h_)] [] (wM k am gu (fM_flows_145 gu gv h_ i)) := by
  intro n
  induction n with
  | zero => exact fun i h1 h2 => absurd h2 (by omega)
  | succ n ih =>
    intro i hi hin
    have hb8 := hI.1.2
    have hb20 := hI.2.1.2
    have hb12 := hI.2.2.1.2
    refine kw_iload_n C 0 dM_flows_145 rfl rfl ?_
    refine kw_aload_n C 1 dM_flows_146 rfl rfl ?_
    refine kw_get (v := .int (m_windows gu)) C 0 rfl rfl ku_M 15 (by decide) kt_571 rfl dM_flows_147 ?_
    refine kw_icmp_ge (tgt := 246) C dM_flows_150 (by decide) (fun c_1 => ?_) (fun c_1 => ?_)
    · skip
      have e9 : i = mnN gu := klp1 hI.2.2.1.1 (by omega) hi c_1
      subst e9
      refine kw_sub [0, 1, 2] rfl ?_
      exact kk
    · skip
      have hlt : i < mnN gu := klp2 hI.2.2.1.1 (by omega) c_1
      refine kw_aload_n C 1 dM_flows_153 rfl rfl ?_
      refine kw_get (v := .ref (am 12)) C 0 rfl rfl ku_M 16 (by decide) kt_572 rfl dM_flows_154 ?_
      refine kw_iload_n C 0 dM_flows_157 rfl rfl ?_
      refine kw_iald C 12 0 rfl rfl (kix_nI (by omega) (by decide)) dM_flows_158 ?_
      refine kw_istore_n (lv' := [(3, .int ((m_windowRoom gu) i)), (2, .int (nI i)), (0, .ref (am 0)), (1, .int h_)]) C dM_flows_159 rfl (by decide) rfl ?_
      refine kw_aload_n C 2 dM_flows_160 rfl rfl ?_
      refine kw_get (v := .ref (am 14)) C 0 rfl rfl ku_M 18 (by decide) kt_574 rfl dM_flows_161 ?_
      refine kw_iload_n C 1 dM_flows_164 rfl rfl ?_
      refine kw_iald C 14 0 rfl rfl (kix_nI (by omega) (by decide)) dM_flows_165 ?_
      refine kw_aload_n C 2 dM_flows_166 rfl rfl ?_
      refine kw_get (v := .ref (am 17)) C 0 rfl rfl ku_M 21 (by decide) kt_577 rfl dM_flows_167 ?_
      refine kw_bipush (v := 24) C dM_flows_170 (by decide) ?_
      refine kw_aload_n C 2 dM_flows_172 rfl rfl ?_
      refine kw_get (v := .ref (am 13)) C 0 rfl rfl ku_M 17 (by decide) kt_573 rfl dM_flows_173 ?_
      refine kw_iload_n C 1 dM_flows_176 rfl rfl ?_
      refine kw_iald C 13 0 rfl rfl (kix_nI (by omega) (by decide)) dM_flows_177 ?_
      refine kw_imul C dM_flows_178 ?_
      refine kw_iload_n C 3 dM_flows_179 rfl rfl ?_
      refine kw_iadd C dM_flows_180 ?_
      refine kw_iald C 17 0 rfl rfl (kix_of (ksunM (hI.2.2.2.2.2.2.1 i hlt) hh)) dM_flows_181 ?_
      refine kw_imul C dM_flows_182 ?_
      refine kw_bipush (v := 10) C dM_flows_183 (by decide) ?_
      refine kw_idiv C dM_flows_185 (by decide) ?_
      refine kw_istore (lv' := [(4, .int ((((m_windowArea gu) i) * ((m_sun gu) ((24 * ((m_windowSide gu) i) + h_).toNatClampNeg))) / 10)), (3, .int ((m_windowRoom gu) i)), (2, .int (nI i)), (0, .ref (am 0)), (1, .int h_)]) C dM_flows_186 (by decide) rfl ?_
      refine kw_aload_n C 3 dM_flows_188 rfl rfl ?_
      refine kw_get (v := .ref (am 21)) C 0 rfl rfl ku_M 31 (by decide) kt_587 rfl dM_flows_189 ?_
      refine kw_iload_n C 1 dM_flows_192 rfl rfl ?_
      refine kw_lald C 21 1 rfl rfl (kix_of (hI.2.2.2.2.2.1 i hlt)) dM_flows_193 ?_
      refine kw_aload_n C 3 dM_flows_194 rfl rfl ?_
      refine kw_get (v := .ref (am 15)) C 0 rfl rfl ku_M 19 (by decide) kt_575 rfl dM_flows_195 ?_
      refine kw_iload_n C 2 dM_flows_198 rfl rfl ?_
      refine kw_iald C 15 0 rfl rfl (kix_nI (by omega) (by decide)) dM_flows_199 ?_
      refine kw_i2l C dM_flows_200 ?_
      refine kw_lcmp C dM_flows_201 ?_
      refine kw_if_le (tgt := 212) C dM_flows_202 (by decide) (fun c_2 => ?_) (fun c_2 => ?_)
      · skip
        refine kw_iload C 0 dM_flows_212 rfl ?_
        refine kw_istore (lv' := [(4, .int ((((m_windowArea gu) i) * ((m_sun gu) ((24 * ((m_windowSide gu) i) + h_).toNatClampNeg))) / 10)), (3, .int ((m_windowRoom gu) i)), (2, .int (nI i)), (0, .ref (am 0)), (1, .int h_)]) C dM_flows_214 (by decide) rfl ?_
        refine kw_aload_n C 3 dM_flows_216 rfl rfl ?_
        refine kw_get (v := .ref (am 2)) C 0 rfl rfl ku_M 3 (by decide) kt_559 rfl dM_flows_217 ?_
        refine kw_iload_n C 1 dM_flows_220 rfl rfl ?_
        refine kw_dup2_11 C dM_flows_221 rfl rfl ?_
        refine kw_lald C 2 1 rfl rfl (kix_of (hI.2.2.2.2.2.1 i hlt)) dM_flows_222 ?_
        refine kw_iload C 0 dM_flows_223 rfl ?_
        refine kw_i2l C dM_flows_225 ?_
        refine kw_ladd C dM_flows_226 ?_
        refine kw_last C 2 1 rfl rfl (kix_of (hI.2.2.2.2.2.1 i hlt)) dM_flows_227 (wM_gv k am gu (vp_updL (m_heat (fM_flows_145 gu gv h_ i)) (((m_windowRoom gu) i).toNatClampNeg) (((m_heat (fM_flows_145 gu gv h_ i)) (((m_windowRoom gu) i).toNatClampNeg)) + (((((m_windowArea gu) i) * ((m_sun gu) ((24 * ((m_windowSide gu) i) + h_).toNatClampNeg))) / 10).toInt64))) (m_uneasy (fM_flows_145 gu gv h_ i)) (m_gave (fM_flows_145 gu gv h_ i)) (m_taken (fM_flows_145 gu gv h_ i)) (m_greatest (fM_flows_145 gu gv h_ i)) (m_now (fM_flows_145 gu gv h_ i)) (m_bySun (fM_flows_145 gu gv h_ i)) (m_byPersons (fM_flows_145 gu gv h_ i)) (m_out (fM_flows_145 gu gv h_ i)) (m_warmth (fM_flows_145 gu gv h_ i)) (m_triedRoom (fM_flows_145 gu gv h_ i)) (m_triedWarmth (fM_flows_145 gu gv h_ i)) (m_triedFrom (fM_flows_145 gu gv h_ i)) (m_wasLow (fM_flows_145 gu gv h_ i)) (m_kept (fM_flows_145 gu gv h_ i))) rfl ?_
        refine kw_aload_n C 3 dM_flows_228 rfl rfl ?_
        refine kw_dup C dM_flows_229 rfl ?_
        refine kw_get (v := .long (m_bySun (fM_flows_145 gu gv h_ i))) C 0 rfl rfl ku_M 28 (by decide) kt_584 rfl dM_flows_230 ?_
        refine kw_iload C 0 dM_flows_233 rfl ?_
        refine kw_i2l C dM_flows_235 ?_
        refine kw_ladd C dM_flows_236 ?_
        refine kw_put C 0 rfl rfl ku_M tM_ok nM 28 (by decide) kt_584 rfl (ty := .long) (by decide +kernel) rfl rfl (Nat.le_of_ble_eq_true rfl) dM_flows_237 (wM_gv k am gu (vp_updL (m_heat (fM_flows_145 gu gv h_ i)) (((m_windowRoom gu) i).toNatClampNeg) (((m_heat (fM_flows_145 gu gv h_ i)) (((m_windowRoom gu) i).toNatClampNeg)) + (((((m_windowArea gu) i) * ((m_sun gu) ((24 * ((m_windowSide gu) i) + h_).toNatClampNeg))) / 10).toInt64))) (m_uneasy (fM_flows_145 gu gv h_ i)) (m_gave (fM_flows_145 gu gv h_ i)) (m_taken (fM_flows_145 gu gv h_ i)) (m_greatest (fM_flows_145 gu gv h_ i)) (m_now (fM_flows_145 gu gv h_ i)) ((m_bySun (fM_flows_145 gu gv h_ i)) + (((((m_windowArea gu) i) * ((m_sun gu) ((24 * ((m_windowSide gu) i) + h_).toNatClampNeg))) / 10).toInt64)) (m_byPersons (fM_flows_145 gu gv h_ i)) (m_out (fM_flows_145 gu gv h_ i)) (m_warmth (fM_flows_145 gu gv h_ i)) (m_triedRoom (fM_flows_145 gu gv h_ i)) (m_triedWarmth (fM_flows_145 gu gv h_ i)) (m_triedFrom (fM_flows_145 gu gv h_ i)) (m_wasLow (fM_flows_145 gu gv h_ i)) (m_kept (fM_flows_145 gu gv h_ i))) rfl ?_
        refine kw_iinc (v := nI (i + 1)) (lv' := [(2, .int (nI (i + 1))), (4, .int ((((m_windowArea gu) i) * ((m_sun gu) ((24 * ((m_windowSide gu) i) + h_).toNatClampNeg))) / 10)), (3, .int ((m_windowRoom gu) i)), (0, .ref (am 0)), (1, .int h_)]) C 2 dM_flows_240 rfl (nI_1 i) (by decide) rfl ?_
        refine kw_goto (tgt := 145) C dM_flows_243 (by decide) ?_
        refine kw_sub [0, 3, 4] rfl ?_
        refine kw_eq rfl rfl (mk_wM_gv.trans (congrArg (fun z90 => wM k am gu z90) ((show ((vp_updL (m_heat (fM_flows_145 gu gv h_ i)) (((m_windowRoom gu) i).toNatClampNeg) (((m_heat (fM_flows_145 gu gv h_ i)) (((m_windowRoom gu) i).toNatClampNeg)) + (((((m_windowArea gu) i) * ((m_sun gu) ((24 * ((m_windowSide gu) i) + h_).toNatClampNeg))) / 10).toInt64))), (m_uneasy (fM_flows_145 gu gv h_ i)), (m_gave (fM_flows_145 gu gv h_ i)), (m_taken (fM_flows_145 gu gv h_ i)), (m_greatest (fM_flows_145 gu gv h_ i)), (m_now (fM_flows_145 gu gv h_ i)), ((m_bySun (fM_flows_145 gu gv h_ i)) + (((((m_windowArea gu) i) * ((m_sun gu) ((24 * ((m_windowSide gu) i) + h_).toNatClampNeg))) / 10).toInt64)), (m_byPersons (fM_flows_145 gu gv h_ i)), (m_out (fM_flows_145 gu gv h_ i)), (m_warmth (fM_flows_145 gu gv h_ i)), (m_triedRoom (fM_flows_145 gu gv h_ i)), (m_triedWarmth (fM_flows_145 gu gv h_ i)), (m_triedFrom (fM_flows_145 gu gv h_ i)), (m_wasLow (fM_flows_145 gu gv h_ i)), (m_kept (fM_flows_145 gu gv h_ i))) = (bM_flows_145 (fM_flows_145 gu gv h_ i) gu gv h_ i) from by unfold bM_flows_145; rw [if_pos c_2]).trans (show (bM_flows_145 (fM_flows_145 gu gv h_ i) gu gv h_ i) = (fM_flows_145 gu gv h_ (i + 1)) from rfl)))) ?_
        exact ih (i + 1) (by omega) (by omega)
      · skip
        refine kw_iload C 0 dM_flows_205 rfl ?_
        refine kw_iconst (v := 4) C dM_flows_207 (by decide) ?_
        refine kw_idiv C dM_flows_208 (by decide) ?_
        refine kw_goto (tgt := 214) C dM_flows_209 (by decide) ?_
        refine kw_istore (lv' := [(4, .int (((((m_windowArea gu) i) * ((m_sun gu) ((24 * ((m_windowSide gu) i) + h_).toNatClampNeg))) / 10) / 4)), (3, .int ((m_windowRoom gu) i)), (2, .int (nI i)), (0, .ref (am 0)), (1, .int h_)]) C dM_flows_214 (by decide) rfl ?_
        refine kw_aload_n C 3 dM_flows_216 rfl rfl ?_
        refine kw_get (v := .ref (am 2)) C 0 rfl rfl ku_M 3 (by decide) kt_559 rfl dM_flows_217 ?_
        refine kw_iload_n C 1 dM_flows_220 rfl rfl ?_
        refine kw_dup2_11 C dM_flows_221 rfl rfl ?_
        refine kw_lald C 2 1 rfl rfl (kix_of (hI.2.2.2.2.2.1 i hlt)) dM_flows_222 ?_
        refine kw_iload C 0 dM_flows_223 rfl ?_
        refine kw_i2l C dM_flows_225 ?_
        refine kw_ladd C dM_flows_226 ?_
        refine kw_last C 2 1 rfl rfl (kix_of (hI.2.2.2.2.2.1 i hlt)) dM_flows_227 (wM_gv k am gu (vp_updL (m_heat (fM_flows_145 gu gv h_ i)) (((m_windowRoom gu) i).toNatClampNeg) (((m_heat (fM_flows_145 gu gv h_ i)) (((m_windowRoom gu) i).toNatClampNeg)) + ((((((m_windowArea gu) i) * ((m_sun gu) ((24 * ((m_windowSide gu) i) + h_).toNatClampNeg))) / 10) / 4).toInt64))) (m_uneasy (fM_flows_145 gu gv h_ i)) (m_gave (fM_flows_145 gu gv h_ i)) (m_taken (fM_flows_145 gu gv h_ i)) (m_greatest (fM_flows_145 gu gv h_ i)) (m_now (fM_flows_145 gu gv h_ i)) (m_bySun (fM_flows_145 gu gv h_ i)) (m_byPersons (fM_flows_145 gu gv h_ i)) (m_out (fM_flows_145 gu gv h_ i)) (m_warmth (fM_flows_145 gu gv h_ i)) (m_triedRoom (fM_flows_145 gu gv h_ i)) (m_triedWarmth (fM_flows_145 gu gv h_ i)) (m_triedFrom (fM_flows_145 gu gv h_ i)) (m_wasLow (fM_flows_145 gu gv h_ i)) (m_kept (fM_flows_145 gu gv h_ i))) rfl ?_
        refine kw_aload_n C 3 dM_flows_228 rfl rfl ?_
        refine kw_dup C dM_flows_229 rfl ?_
        refine kw_get (v := .long (m_bySun (fM_flows_145 gu gv h_ i))) C 0 rfl rfl ku_M 28 (by decide) kt_584 rfl dM_flows_230 ?_
        refine kw_iload C 0 dM_flows_233 rfl ?_
        refine kw_i2l C dM_flows_235 ?_
        refine kw_ladd C dM_flows_236 ?_
        refine kw_put C 0 rfl rfl ku_M tM_ok nM 28 (by decide) kt_584 rfl (ty := .long) (by decide +kernel) rfl rfl (Nat.le_of_ble_eq_true rfl) dM_flows_237 (wM_gv k am gu (vp_updL (m_heat (fM_flows_145 gu gv h_ i)) (((m_windowRoom gu) i).toNatClampNeg) (((m_heat (fM_flows_145 gu gv h_ i)) (((m_windowRoom gu) i).toNatClampNeg)) + ((((((m_windowArea gu) i) * ((m_sun gu) ((24 * ((m_windowSide gu) i) + h_).toNatClampNeg))) / 10) / 4).toInt64))) (m_uneasy (fM_flows_145 gu gv h_ i)) (m_gave (fM_flows_145 gu gv h_ i)) (m_taken (fM_flows_145 gu gv h_ i)) (m_greatest (fM_flows_145 gu gv h_ i)) (m_now (fM_flows_145 gu gv h_ i)) ((m_bySun (fM_flows_145 gu gv h_ i)) + ((((((m_windowArea gu) i) * ((m_sun gu) ((24 * ((m_windowSide gu) i) + h_).toNatClampNeg))) / 10) / 4).toInt64)) (m_byPersons (fM_flows_145 gu gv h_ i)) (m_out (fM_flows_145 gu gv h_ i)) (m_warmth (fM_flows_145 gu gv h_ i)) (m_triedRoom (fM_flows_145 gu gv h_ i)) (m_triedWarmth (fM_flows_145 gu gv h_ i)) (m_triedFrom (fM_flows_145 gu gv h_ i)) (m_wasLow (fM_flows_145 gu gv h_ i)) (m_kept (fM_flows_145 gu gv h_ i))) rfl ?_
        refine kw_iinc (v := nI (i + 1)) (lv' := [(2, .int (nI (i + 1))), (4, .int (((((m_windowArea gu) i) * ((m_sun gu) ((24 * ((m_windowSide gu) i) + h_).toNatClampNeg))) / 10) / 4)), (3, .int ((m_windowRoom gu) i)), (0, .ref (am 0)), (1, .int h_)]) C 2 dM_flows_240 rfl (nI_1 i) (by decide) rfl ?_
        refine kw_goto (tgt := 145) C dM_flows_243 (by decide) ?_
        refine kw_sub [0, 3, 4] rfl ?_
        refine kw_eq rfl rfl (mk_wM_gv.trans (congrArg (fun z90 => wM k am gu z90) ((show ((vp_updL (m_heat (fM_flows_145 gu gv h_ i)) (((m_windowRoom gu) i).toNatClampNeg) (((m_heat (fM_flows_145 gu gv h_ i)) (((m_windowRoom gu) i).toNatClampNeg)) + ((((((m_windowArea gu) i) * ((m_sun gu) ((24 * ((m_windowSide gu) i) + h_).toNatClampNeg))) / 10) / 4).toInt64))), (m_uneasy (fM_flows_145 gu gv h_ i)), (m_gave (fM_flows_145 gu gv h_ i)), (m_taken (fM_flows_145 gu gv h_ i)), (m_greatest (fM_flows_145 gu gv h_ i)), (m_now (fM_flows_145 gu gv h_ i)), ((m_bySun (fM_flows_145 gu gv h_ i)) + ((((((m_windowArea gu) i) * ((m_sun gu) ((24 * ((m_windowSide gu) i) + h_).toNatClampNeg))) / 10) / 4).toInt64)), (m_byPersons (fM_flows_145 gu gv h_ i)), (m_out (fM_flows_145 gu gv h_ i)), (m_warmth (fM_flows_145 gu gv h_ i)), (m_triedRoom (fM_flows_145 gu gv h_ i)), (m_triedWarmth (fM_flows_145 gu gv h_ i)), (m_triedFrom (fM_flows_145 gu gv h_ i)), (m_wasLow (fM_flows_145 gu gv h_ i)), (m_kept (fM_flows_145 gu gv h_ i))) = (bM_flows_145 (fM_flows_145 gu gv h_ i) gu gv h_ i) from by unfold bM_flows_145; rw [if_neg c_2]).trans (show (bM_flows_145 (fM_flows_145 gu gv h_ i) gu gv h_ i) = (fM_flows_145 gu gv h_ (i + 1)) from rfl)))) ?_
        exact ih (i + 1) (by omega) (by omega)
noncomputable def bM_flows_248 (z : MV) (gu : MU) (gv : MV) (h_ : Int32) (i : Nat) : MV := ((vp_updL (m_heat z) i (((m_heat z) i) + (100 * (((m_persons gu) ((24 * nI i + h_).toNatClampNeg)).toInt64)))), (m_uneasy z), (m_gave z), (m_taken z), (m_greatest z), (m_now z), (m_bySun z), ((m_byPersons z) + (100 * (((m_persons gu) ((24 * nI i + h_).toNatClampNeg)).toInt64))), (m_out z), (m_warmth z), (m_triedRoom z), (m_triedWarmth z), (m_triedFrom z), (m_wasLow z), (m_kept z))
noncomputable def fM_flows_248 (gu : MU) (gv : MV) (h_ : Int32) (n : Nat) : MV := Nat.rec (motive := fun _ => MV) gv (fun i z => bM_flows_248 z gu gv h_ i) n
set_option maxRecDepth 100000 in
set_option maxHeartbeats 4000000 in
theorem lM_flows_248 {l : Launch} {p : Program} {e : Env} {s : State} {m : MethodId} {args : Array Value} {below : List Frame} {meth : Method} {c0 : Code} {D : va_G} {A : Nat → Prop} {Q : State → Prop} (k : Nat → ClassId) (am : Nat → Nat) (gu : MU) (gv : MV) (h_ : Int32) (hI : mInv gu) (hh : vp_in h_ 24) (C : kC p s m args c0 bM_flows "RoomHoursModel" kT D kcl (kty k) A 7) (kk : kW p l e ({ frames := 2, cells := 0, slots := 0, locals := 45 }) s m args below meth c0 D kcl A 7 0 0 Q 312 [(2, .int (nI (mnR gu))), (0, .ref (am 0)), (1, .int h_)] [] (wM k am gu (fM_flows_248 gu gv h_ (mnR gu)))) : ∀ (n i : Nat), i ≤ mnR gu → mnR gu < i + n → kW p l e ({ frames := 2, cells := 0, slots := 0, locals := 45 }) s m args below meth c0 D kcl A 7 0 0 Q 248 [(2, .int (nI i)), (0, .ref (am 0)), (1, .int h_)] [] (wM k am gu (fM_flows_248 gu gv h_ i)) := by
  intro n
  induction n with
  | zero => exact fun i h1 h2 => absurd h2 (by omega)
  | succ n ih =>
    intro i hi hin
    have hb8 := hI.1.2
    have hb20 := hI.2.1.2
    have hb12 := hI.2.2.1.2
    refine kw_iload_n C 0 dM_flows_248 rfl rfl ?_
    refine kw_aload_n C 1 dM_flows_249 rfl rfl ?_
    refine kw_get (v := .int (m_rooms gu)) C 0 rfl rfl ku_M 1 (by decide) kt_557 rfl dM_flows_250 ?_
    refine kw_icmp_ge (tgt := 312) C dM_flows_253 (by decide) (fun c_1 => ?_) (fun c_1 => ?_)
    · skip
      have e9 : i = mnR gu := klp1 hI.1.1 (by omega) hi c_1
      subst e9
      refine kw_sub [0, 1, 2] rfl ?_
      exact kk
    · skip
      have hlt : i < mnR gu := klp2 hI.1.1 (by omega) c_1
      refine kw_aload_n C 1 dM_flows_256 rfl rfl ?_
      refine kw_get (v := .ref (am 2)) C 0 rfl rfl ku_M 3 (by decide) kt_559 rfl dM_flows_257 ?_
      refine kw_iload_n C 0 dM_flows_260 rfl rfl ?_
      refine kw_dup2_11 C dM_flows_261 rfl rfl ?_
      refine kw_lald C 2 1 rfl rfl (kix_nI (by omega) (by decide)) dM_flows_262 ?_
      refine kw_ldc2 (v := 100) C kt_694 dM_flows_263 ?_
      refine kw_aload_n C 1 dM_flows_266 rfl rfl ?_
      refine kw_get (v := .ref (am 18)) C 0 rfl rfl ku_M 22 (by decide) kt_578 rfl dM_flows_267 ?_
      refine kw_bipush (v := 24) C dM_flows_270 (by decide) ?_
      refine kw_iload_n C 0 dM_flows_272 rfl rfl ?_
      refine kw_imul C dM_flows_273 ?_
      refine kw_iload_n C 2 dM_flows_274 rfl rfl ?_
      refine kw_iadd C dM_flows_275 ?_
      refine kw_iald C 18 0 rfl rfl (kix_of (kplanM (vp_in_nI (by omega) (by decide)) hh)) dM_flows_276 ?_
      refine kw_i2l C dM_flows_277 ?_
      refine kw_lmul C dM_flows_278 ?_
      refine kw_ladd C dM_flows_279 ?_
      refine kw_last C 2 1 rfl rfl (kix_nI (by omega) (by decide)) dM_flows_280 (wM_gv k am gu (vp_updL (m_heat (fM_flows_248 gu gv h_ i)) i (((m_heat (fM_flows_248 gu gv h_ i)) i) + (100 * (((m_persons gu) ((24 * nI i + h_).toNatClampNeg)).toInt64)))) (m_uneasy (fM_flows_248 gu gv h_ i)) (m_gave (fM_flows_248 gu gv h_ i)) (m_taken (fM_flows_248 gu gv h_ i)) (m_greatest (fM_flows_248 gu gv h_ i)) (m_now (fM_flows_248 gu gv h_ i)) (m_bySun (fM_flows_248 gu gv h_ i)) (m_byPersons (fM_flows_248 gu gv h_ i)) (m_out (fM_flows_248 gu gv h_ i)) (m_warmth (fM_flows_248 gu gv h_ i)) (m_triedRoom (fM_flows_248 gu gv h_ i)) (m_triedWarmth (fM_flows_248 gu gv h_ i)) (m_triedFrom (fM_flows_248 gu gv h_ i)) (m_wasLow (fM_flows_248 gu gv h_ i)) (m_kept (fM_flows_248 gu gv h_ i))) rfl ?_
      refine kw_aload_n C 1 dM_flows_281 rfl rfl ?_
      refine kw_dup C dM_flows_282 rfl ?_
      refine kw_get (v := .long (m_byPersons (fM_flows_248 gu gv h_ i))) C 0 rfl rfl ku_M 29 (by decide) kt_585 rfl dM_flows_283 ?_
      refine kw_ldc2 (v := 100) C kt_694 dM_flows_286 ?_
      refine kw_aload_n C 1 dM_flows_289 rfl rfl ?_
      refine kw_get (v := .ref (am 18)) C 0 rfl rfl ku_M 22 (by decide) kt_578 rfl dM_flows_290 ?_
      refine kw_bipush (v := 24) C dM_flows_293 (by decide) ?_
      refine kw_iload_n C 0 dM_flows_295 rfl rfl ?_
      refine kw_imul C dM_flows_296 ?_
      refine kw_iload_n C 2 dM_flows_297 rfl rfl ?_
      refine kw_iadd C dM_flows_298 ?_
      refine kw_iald C 18 0 rfl rfl (kix_of (kplanM (vp_in_nI (by omega) (by decide)) hh)) dM_flows_299 ?_
      refine kw_i2l C dM_flows_300 ?_
      refine kw_lmul C dM_flows_301 ?_
      refine kw_ladd C dM_flows_302 ?_
      refine kw_put C 0 rfl rfl ku_M tM_ok nM 29 (by decide) kt_585 rfl (ty := .long) (by decide +kernel) rfl rfl (Nat.le_of_ble_eq_true rfl) dM_flows_303 (wM_gv k am gu (vp_updL (m_heat (fM_flows_248 gu gv h_ i)) i (((m_heat (fM_flows_248 gu gv h_ i)) i) + (100 * (((m_persons gu) ((24 * nI i + h_).toNatClampNeg)).toInt64)))) (m_uneasy (fM_flows_248 gu gv h_ i)) (m_gave (fM_flows_248 gu gv h_ i)) (m_taken (fM_flows_248 gu gv h_ i)) (m_greatest (fM_flows_248 gu gv h_ i)) (m_now (fM_flows_248 gu gv h_ i)) (m_bySun (fM_flows_248 gu gv h_ i)) ((m_byPersons (fM_flows_248 gu gv h_ i)) + (100 * (((m_persons gu) ((24 * nI i + h_).toNatClampNeg)).toInt64))) (m_out (fM_flows_248 gu gv h_ i)) (m_warmth (fM_flows_248 gu gv h_ i)) (m_triedRoom (fM_flows_248 gu gv h_ i)) (m_triedWarmth (fM_flows_248 gu gv h_ i)) (m_triedFrom (fM_flows_248 gu gv h_ i)) (m_wasLow (fM_flows_248 gu gv h_ i)) (m_kept (fM_flows_248 gu gv h_ i))) rfl ?_
      refine kw_iinc (v := nI (i + 1)) (lv' := [(2, .int (nI (i + 1))), (0, .ref (am 0)), (1, .int h_)]) C 0 dM_flows_306 rfl (nI_1 i) (by decide) rfl ?_
      refine kw_goto (tgt := 248) C dM_flows_309 (by decide) ?_
      refine kw_sub [0, 1, 2] rfl ?_
      refine kw_eq rfl rfl (mk_wM_gv.trans (congrArg (fun z90 => wM k am gu z90) ((show ((vp_updL (m_heat (fM_flows_248 gu gv h_ i)) i (((m_heat (fM_flows_248 gu gv h_ i)) i) + (100 * (((m_persons gu) ((24 * nI i + h_).toNatClampNeg)).toInt64)))), (m_uneasy (fM_flows_248 gu gv h_ i)), (m_gave (fM_flows_248 gu gv h_ i)), (m_taken (fM_flows_248 gu gv h_ i)), (m_greatest (fM_flows_248 gu gv h_ i)), (m_now (fM_flows_248 gu gv h_ i)), (m_bySun (fM_flows_248 gu gv h_ i)), ((m_byPersons (fM_flows_248 gu gv h_ i)) + (100 * (((m_persons gu) ((24 * nI i + h_).toNatClampNeg)).toInt64))), (m_out (fM_flows_248 gu gv h_ i)), (m_warmth (fM_flows_248 gu gv h_ i)), (m_triedRoom (fM_flows_248 gu gv h_ i)), (m_triedWarmth (fM_flows_248 gu gv h_ i)), (m_triedFrom (fM_flows_248 gu gv h_ i)), (m_wasLow (fM_flows_248 gu gv h_ i)), (m_kept (fM_flows_248 gu gv h_ i))) = (bM_flows_248 (fM_flows_248 gu gv h_ i) gu gv h_ i) from by unfold bM_flows_248; rfl).trans (show (bM_flows_248 (fM_flows_248 gu gv h_ i) gu gv h_ i) = (fM_flows_248 gu gv h_ (i + 1)) from rfl)))) ?_
      exact ih (i + 1) (by omega) (by omega)
noncomputable def sgvM_flows (gu : MU) (gv : MV) (h_ : Int32) : MV := (fM_flows_248 gu (fM_flows_145 gu (fM_flows_29 gu (fM_flows_2 gu gv h_ (mnR gu)) h_ (mnW gu)) h_ (mnN gu)) h_ (mnR gu))
set_option maxRecDepth 100000 in
set_option maxHeartbeats 4000000 in
theorem cM_flows (l : Launch) (D : va_G) (k : Nat → ClassId) (am : Nat → Nat) (gu : MU) (gv : MV) (h_ : Int32) (hI : mInv gu) (hh : vp_in h_ 24) : kMv l yM_flows (kwm yM_flows bM_flows 7 none) ({ frames := 2, cells := 0, slots := 0, locals := 45 }) D kcl (kty k) (wM k am gu gv) (wM k am gu (sgvM_flows gu gv h_)) [.ref (am 0), .int h_] := by
  refine k_entry_v (lv0 := [(0, .ref (am 0)), (1, .int h_)]) rfl (by decide +kernel) (Nat.le_of_ble_eq_true rfl) rfl ?_
  intro p e s m args below meth c0 C hr hlocks
  have hb8 := hI.1.2
  have hb20 := hI.2.1.2
  have hb12 := hI.2.2.1.2
  refine kw_iconst (v := 0) C dM_flows_0 (by decide) ?_
  refine kw_istore_n (lv' := [(2, .int 0), (0, .ref (am 0)), (1, .int h_)]) C dM_flows_1 rfl (by decide) rfl ?_
  refine kw_sub [0, 1, 2] rfl ?_
  refine lM_flows_2 k am gu gv h_ hI hh C ?_ (mnR gu + 1) 0 (Nat.zero_le _) (by omega)
  refine kw_iconst (v := 0) C dM_flows_27 (by decide) ?_
  refine kw_istore_n (lv' := [(2, .int 0), (0, .ref (am 0)), (1, .int h_)]) C dM_flows_28 rfl (by decide) rfl ?_
  refine kw_sub [0, 1, 2] rfl ?_
  refine lM_flows_29 k am gu (fM_flows_2 gu gv h_ (mnR gu)) h_ hI hh C ?_ (mnW gu + 1) 0 (Nat.zero_le _) (by omega)
  refine kw_iconst (v := 0) C dM_flows_143 (by decide) ?_
  refine kw_istore_n (lv' := [(2, .int 0), (0, .ref (am 0)), (1, .int h_)]) C dM_flows_144 rfl (by decide) rfl ?_
  refine kw_sub [0, 1, 2] rfl ?_
  refine lM_flows_145 k am gu (fM_flows_29 gu (fM_flows_2 gu gv h_ (mnR gu)) h_ (mnW gu)) h_ hI hh C ?_ (mnN gu + 1) 0 (Nat.zero_le _) (by omega)
  refine kw_iconst (v := 0) C dM_flows_246 (by decide) ?_
  refine kw_istore_n (lv' := [(2, .int 0), (0, .ref (am 0)), (1, .int h_)]) C dM_flows_247 rfl (by decide) rfl ?_
  refine kw_sub [0, 1, 2] rfl ?_
  refine lM_flows_248 k am gu (fM_flows_145 gu (fM_flows_29 gu (fM_flows_2 gu gv h_ (mnR gu)) h_ (mnW gu)) h_ (mnN gu)) h_ hI hh C ?_ (mnR gu + 1) 0 (Nat.zero_le _) (by omega)
  refine kw_eq rfl rfl ((congrArg (fun z90 => wM k am gu z90) (show (fM_flows_248 gu (fM_flows_145 gu (fM_flows_29 gu (fM_flows_2 gu gv h_ (mnR gu)) h_ (mnW gu)) h_ (mnN gu)) h_ (mnR gu)) = sgvM_flows gu gv h_ from rfl))) ?_
  exact kw_vret C hr hlocks dM_flows_312
theorem khourM {gv : MV} (ho : ¬ m_now gv < 0) : vp_in (((m_now gv) / 4) - ((m_now gv) / 4) / 24 * 24) 24 := by
  obtain ⟨j, hj, e⟩ := nI_of ho
  have e4 : m_now gv / 4 = nI (j / 4) := by rw [e, show (4 : Int32) = nI 4 from rfl, pk_div hj (by decide) (by decide)]
  rw [e4, show (24 : Int32) = nI 24 from rfl, pk_rem (by omega) (by decide) (by decide)]
  exact vp_in_nI (Nat.mod_lt _ (by decide)) (by decide)
noncomputable def jM_step_62 (z : MV) (gu : MU) (gv : MV) (h_ : Int32) (i : Nat) : Int32 := if (nI i) = (m_triedRoom z) then (if (m_now z) < (m_triedFrom z) then (m_set gu) ((24 * nI i + h_).toNatClampNeg) else (m_triedWarmth z)) else (m_set gu) ((24 * nI i + h_).toNatClampNeg)
noncomputable def jM_step_90 (z : MV) (gu : MU) (gv : MV) (h_ : Int32) (i : Nat) : Int64 := if (jM_step_62 z gu gv h_ i) = (-1000000) then 0 else ((((m_store gu) i).toInt64) * ((jM_step_62 z gu gv h_ i).toInt64)) - ((m_heat z) i)
noncomputable def jM_step_128 (z : MV) (gu : MU) (gv : MV) (h_ : Int32) (i : Nat) : Int64 := if 0 ≤ (lg_cmp (jM_step_90 z gu gv h_ i) 0) then (if (lg_cmp (jM_step_90 z gu gv h_ i) (((m_mostHeating gu) i).toInt64)) ≤ 0 then (jM_step_90 z gu gv h_ i) else ((m_mostHeating gu) i).toInt64) else 0
noncomputable def jM_step_180 (z : MV) (gu : MU) (gv : MV) (h_ : Int32) (i : Nat) : Int64 := if (lg_cmp (jM_step_128 z gu gv h_ i) ((m_greatest z) i)) ≤ 0 then (m_greatest z) i else (jM_step_128 z gu gv h_ i)
noncomputable def jM_step_223 (z : MV) (gu : MU) (gv : MV) (h_ : Int32) (i : Nat) : Int64 := if ((m_cool gu) ((24 * nI i + h_).toNatClampNeg)) = (-1000000) then 0 else ((vp_updL (m_heat z) i (((m_heat z) i) + (jM_step_128 z gu gv h_ i))) i) - ((((m_store gu) i).toInt64) * (((m_cool gu) ((24 * nI i + h_).toNatClampNeg)).toInt64))
noncomputable def jM_step_261 (z : MV) (gu : MU) (gv : MV) (h_ : Int32) (i : Nat) : Int64 := if 0 ≤ (lg_cmp (jM_step_223 z gu gv h_ i) 0) then (if (lg_cmp (jM_step_223 z gu gv h_ i) (((m_mostCooling gu) i).toInt64)) ≤ 0 then (jM_step_223 z gu gv h_ i) else ((m_mostCooling gu) i).toInt64) else 0
