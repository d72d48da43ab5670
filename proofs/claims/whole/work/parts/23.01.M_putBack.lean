noncomputable def bM_putBack_2 (z : MV) (gu : MU) (gv : MV) (i : Nat) : MV := ((vp_updL (m_heat z) i ((m_kept z) i)), (upd (m_uneasy z) i (((m_kept z) (8 + i)).toInt32)), (vp_updL (m_gave z) i ((m_kept z) (16 + i))), (vp_updL (m_taken z) i ((m_kept z) (24 + i))), (vp_updL (m_greatest z) i ((m_kept z) (32 + i))), (m_now z), (m_bySun z), (m_byPersons z), (m_out z), (m_warmth z), (m_triedRoom z), (m_triedWarmth z), (m_triedFrom z), (m_wasLow z), (m_kept z))
noncomputable def fM_putBack_2 (gu : MU) (gv : MV) (n : Nat) : MV := Nat.rec (motive := fun _ => MV) gv (fun i z => bM_putBack_2 z gu gv i) n
set_option maxRecDepth 100000 in
set_option maxHeartbeats 4000000 in
theorem lM_putBack_2 {l : Launch} {p : Program} {e : Env} {s : State} {m : MethodId} {args : Array Value} {below : List Frame} {meth : Method} {c0 : Code} {D : va_G} {A : Nat → Prop} {Q : State → Prop} (k : Nat → ClassId) (am : Nat → Nat) (gu : MU) (gv : MV)   (C : kC p s m args c0 bM_putBack "RoomHoursModel" kT D kcl (kty k) A 2) (kk : kW p l e ({ frames := 0, cells := 0, slots := 0, locals := 0 }) s m args below meth c0 D kcl A 2 0 0 Q 87 [(1, .int (nI k8)), (0, .ref (am 0))] [] (wM k am gu (fM_putBack_2 gu gv k8))) : ∀ (n i : Nat), i ≤ k8 → k8 < i + n → kW p l e ({ frames := 0, cells := 0, slots := 0, locals := 0 }) s m args below meth c0 D kcl A 2 0 0 Q 2 [(1, .int (nI i)), (0, .ref (am 0))] [] (wM k am gu (fM_putBack_2 gu gv i)) := by
  intro n
  induction n with
  | zero => exact fun i h1 h2 => absurd h2 (by omega)
  | succ n ih =>
    intro i hi hin
    have hk8 := k8_eq
    refine kw_iload_n C 0 dM_putBack_2 rfl rfl ?_
    refine kw_bipush (v := 8) C dM_putBack_3 (by decide) ?_
    refine kw_icmp_ge (tgt := 87) C dM_putBack_5 (by decide) (fun c_1 => ?_) (fun c_1 => ?_)
    · skip
      have e9 : i = k8 := klp1 k8_nI (by omega) hi c_1
      subst e9
      refine kw_sub [0, 1] rfl ?_
      exact kk
    · skip
      have hlt : i < k8 := klp2 k8_nI (by omega) c_1
      refine kw_aload_n C 1 dM_putBack_8 rfl rfl ?_
      refine kw_get (v := .ref (am 2)) C 0 rfl rfl ku_M 3 (by decide) kt_559 rfl dM_putBack_9 ?_
      refine kw_iload_n C 0 dM_putBack_12 rfl rfl ?_
      refine kw_aload_n C 1 dM_putBack_13 rfl rfl ?_
      refine kw_get (v := .ref (am 22)) C 0 rfl rfl ku_M 36 (by decide) kt_592 rfl dM_putBack_14 ?_
      refine kw_iload_n C 0 dM_putBack_17 rfl rfl ?_
      refine kw_lald C 22 1 rfl rfl (kix_nI (by omega) (by decide)) dM_putBack_18 ?_
      refine kw_last C 2 1 rfl rfl (kix_nI (by omega) (by decide)) dM_putBack_19 (wM_gv k am gu (vp_updL (m_heat (fM_putBack_2 gu gv i)) i ((m_kept (fM_putBack_2 gu gv i)) i)) (m_uneasy (fM_putBack_2 gu gv i)) (m_gave (fM_putBack_2 gu gv i)) (m_taken (fM_putBack_2 gu gv i)) (m_greatest (fM_putBack_2 gu gv i)) (m_now (fM_putBack_2 gu gv i)) (m_bySun (fM_putBack_2 gu gv i)) (m_byPersons (fM_putBack_2 gu gv i)) (m_out (fM_putBack_2 gu gv i)) (m_warmth (fM_putBack_2 gu gv i)) (m_triedRoom (fM_putBack_2 gu gv i)) (m_triedWarmth (fM_putBack_2 gu gv i)) (m_triedFrom (fM_putBack_2 gu gv i)) (m_wasLow (fM_putBack_2 gu gv i)) (m_kept (fM_putBack_2 gu gv i))) rfl ?_
      refine kw_aload_n C 1 dM_putBack_20 rfl rfl ?_
      refine kw_get (v := .ref (am 3)) C 0 rfl rfl ku_M 4 (by decide) kt_560 rfl dM_putBack_21 ?_
      refine kw_iload_n C 0 dM_putBack_24 rfl rfl ?_
      refine kw_aload_n C 1 dM_putBack_25 rfl rfl ?_
      refine kw_get (v := .ref (am 22)) C 0 rfl rfl ku_M 36 (by decide) kt_592 rfl dM_putBack_26 ?_
      refine kw_bipush (v := 8) C dM_putBack_29 (by decide) ?_
      refine kw_iload_n C 0 dM_putBack_31 rfl rfl ?_
      refine kw_iadd C dM_putBack_32 ?_
      refine kw_lald C 22 1 rfl rfl (kix_add (a := 8) (by omega)) dM_putBack_33 ?_
      refine kw_l2i C dM_putBack_34 ?_
      refine kw_iast C 3 0 rfl rfl (kix_nI (by omega) (by decide)) dM_putBack_35 (wM_gv k am gu (vp_updL (m_heat (fM_putBack_2 gu gv i)) i ((m_kept (fM_putBack_2 gu gv i)) i)) (upd (m_uneasy (fM_putBack_2 gu gv i)) i (((m_kept (fM_putBack_2 gu gv i)) (8 + i)).toInt32)) (m_gave (fM_putBack_2 gu gv i)) (m_taken (fM_putBack_2 gu gv i)) (m_greatest (fM_putBack_2 gu gv i)) (m_now (fM_putBack_2 gu gv i)) (m_bySun (fM_putBack_2 gu gv i)) (m_byPersons (fM_putBack_2 gu gv i)) (m_out (fM_putBack_2 gu gv i)) (m_warmth (fM_putBack_2 gu gv i)) (m_triedRoom (fM_putBack_2 gu gv i)) (m_triedWarmth (fM_putBack_2 gu gv i)) (m_triedFrom (fM_putBack_2 gu gv i)) (m_wasLow (fM_putBack_2 gu gv i)) (m_kept (fM_putBack_2 gu gv i))) rfl ?_
      refine kw_aload_n C 1 dM_putBack_36 rfl rfl ?_
      refine kw_get (v := .ref (am 4)) C 0 rfl rfl ku_M 5 (by decide) kt_561 rfl dM_putBack_37 ?_
      refine kw_iload_n C 0 dM_putBack_40 rfl rfl ?_
      refine kw_aload_n C 1 dM_putBack_41 rfl rfl ?_
      refine kw_get (v := .ref (am 22)) C 0 rfl rfl ku_M 36 (by decide) kt_592 rfl dM_putBack_42 ?_
      refine kw_bipush (v := 16) C dM_putBack_45 (by decide) ?_
      refine kw_iload_n C 0 dM_putBack_47 rfl rfl ?_
      refine kw_iadd C dM_putBack_48 ?_
      refine kw_lald C 22 1 rfl rfl (kix_add (a := 16) (by omega)) dM_putBack_49 ?_
      refine kw_last C 4 1 rfl rfl (kix_nI (by omega) (by decide)) dM_putBack_50 (wM_gv k am gu (vp_updL (m_heat (fM_putBack_2 gu gv i)) i ((m_kept (fM_putBack_2 gu gv i)) i)) (upd (m_uneasy (fM_putBack_2 gu gv i)) i (((m_kept (fM_putBack_2 gu gv i)) (8 + i)).toInt32)) (vp_updL (m_gave (fM_putBack_2 gu gv i)) i ((m_kept (fM_putBack_2 gu gv i)) (16 + i))) (m_taken (fM_putBack_2 gu gv i)) (m_greatest (fM_putBack_2 gu gv i)) (m_now (fM_putBack_2 gu gv i)) (m_bySun (fM_putBack_2 gu gv i)) (m_byPersons (fM_putBack_2 gu gv i)) (m_out (fM_putBack_2 gu gv i)) (m_warmth (fM_putBack_2 gu gv i)) (m_triedRoom (fM_putBack_2 gu gv i)) (m_triedWarmth (fM_putBack_2 gu gv i)) (m_triedFrom (fM_putBack_2 gu gv i)) (m_wasLow (fM_putBack_2 gu gv i)) (m_kept (fM_putBack_2 gu gv i))) rfl ?_
      refine kw_aload_n C 1 dM_putBack_51 rfl rfl ?_
      refine kw_get (v := .ref (am 5)) C 0 rfl rfl ku_M 6 (by decide) kt_562 rfl dM_putBack_52 ?_
      refine kw_iload_n C 0 dM_putBack_55 rfl rfl ?_
      refine kw_aload_n C 1 dM_putBack_56 rfl rfl ?_
      refine kw_get (v := .ref (am 22)) C 0 rfl rfl ku_M 36 (by decide) kt_592 rfl dM_putBack_57 ?_
      refine kw_bipush (v := 24) C dM_putBack_60 (by decide) ?_
      refine kw_iload_n C 0 dM_putBack_62 rfl rfl ?_
      refine kw_iadd C dM_putBack_63 ?_
      refine kw_lald C 22 1 rfl rfl (kix_add (a := 24) (by omega)) dM_putBack_64 ?_
      refine kw_last C 5 1 rfl rfl (kix_nI (by omega) (by decide)) dM_putBack_65 (wM_gv k am gu (vp_updL (m_heat (fM_putBack_2 gu gv i)) i ((m_kept (fM_putBack_2 gu gv i)) i)) (upd (m_uneasy (fM_putBack_2 gu gv i)) i (((m_kept (fM_putBack_2 gu gv i)) (8 + i)).toInt32)) (vp_updL (m_gave (fM_putBack_2 gu gv i)) i ((m_kept (fM_putBack_2 gu gv i)) (16 + i))) (vp_updL (m_taken (fM_putBack_2 gu gv i)) i ((m_kept (fM_putBack_2 gu gv i)) (24 + i))) (m_greatest (fM_putBack_2 gu gv i)) (m_now (fM_putBack_2 gu gv i)) (m_bySun (fM_putBack_2 gu gv i)) (m_byPersons (fM_putBack_2 gu gv i)) (m_out (fM_putBack_2 gu gv i)) (m_warmth (fM_putBack_2 gu gv i)) (m_triedRoom (fM_putBack_2 gu gv i)) (m_triedWarmth (fM_putBack_2 gu gv i)) (m_triedFrom (fM_putBack_2 gu gv i)) (m_wasLow (fM_putBack_2 gu gv i)) (m_kept (fM_putBack_2 gu gv i))) rfl ?_
      refine kw_aload_n C 1 dM_putBack_66 rfl rfl ?_
      refine kw_get (v := .ref (am 6)) C 0 rfl rfl ku_M 7 (by decide) kt_563 rfl dM_putBack_67 ?_
      refine kw_iload_n C 0 dM_putBack_70 rfl rfl ?_
      refine kw_aload_n C 1 dM_putBack_71 rfl rfl ?_
      refine kw_get (v := .ref (am 22)) C 0 rfl rfl ku_M 36 (by decide) kt_592 rfl dM_putBack_72 ?_
      refine kw_bipush (v := 32) C dM_putBack_75 (by decide) ?_
      refine kw_iload_n C 0 dM_putBack_77 rfl rfl ?_
      refine kw_iadd C dM_putBack_78 ?_
      refine kw_lald C 22 1 rfl rfl (kix_add (a := 32) (by omega)) dM_putBack_79 ?_
      refine kw_last C 6 1 rfl rfl (kix_nI (by omega) (by decide)) dM_putBack_80 (wM_gv k am gu (vp_updL (m_heat (fM_putBack_2 gu gv i)) i ((m_kept (fM_putBack_2 gu gv i)) i)) (upd (m_uneasy (fM_putBack_2 gu gv i)) i (((m_kept (fM_putBack_2 gu gv i)) (8 + i)).toInt32)) (vp_updL (m_gave (fM_putBack_2 gu gv i)) i ((m_kept (fM_putBack_2 gu gv i)) (16 + i))) (vp_updL (m_taken (fM_putBack_2 gu gv i)) i ((m_kept (fM_putBack_2 gu gv i)) (24 + i))) (vp_updL (m_greatest (fM_putBack_2 gu gv i)) i ((m_kept (fM_putBack_2 gu gv i)) (32 + i))) (m_now (fM_putBack_2 gu gv i)) (m_bySun (fM_putBack_2 gu gv i)) (m_byPersons (fM_putBack_2 gu gv i)) (m_out (fM_putBack_2 gu gv i)) (m_warmth (fM_putBack_2 gu gv i)) (m_triedRoom (fM_putBack_2 gu gv i)) (m_triedWarmth (fM_putBack_2 gu gv i)) (m_triedFrom (fM_putBack_2 gu gv i)) (m_wasLow (fM_putBack_2 gu gv i)) (m_kept (fM_putBack_2 gu gv i))) rfl ?_
      refine kw_iinc (v := nI (i + 1)) (lv' := [(1, .int (nI (i + 1))), (0, .ref (am 0))]) C 0 dM_putBack_81 rfl (nI_1 i) (by decide) rfl ?_
      refine kw_goto (tgt := 2) C dM_putBack_84 (by decide) ?_
      refine kw_sub [0, 1] rfl ?_
      refine kw_eq rfl rfl (mk_wM_gv.trans (congrArg (fun z90 => wM k am gu z90) ((show ((vp_updL (m_heat (fM_putBack_2 gu gv i)) i ((m_kept (fM_putBack_2 gu gv i)) i)), (upd (m_uneasy (fM_putBack_2 gu gv i)) i (((m_kept (fM_putBack_2 gu gv i)) (8 + i)).toInt32)), (vp_updL (m_gave (fM_putBack_2 gu gv i)) i ((m_kept (fM_putBack_2 gu gv i)) (16 + i))), (vp_updL (m_taken (fM_putBack_2 gu gv i)) i ((m_kept (fM_putBack_2 gu gv i)) (24 + i))), (vp_updL (m_greatest (fM_putBack_2 gu gv i)) i ((m_kept (fM_putBack_2 gu gv i)) (32 + i))), (m_now (fM_putBack_2 gu gv i)), (m_bySun (fM_putBack_2 gu gv i)), (m_byPersons (fM_putBack_2 gu gv i)), (m_out (fM_putBack_2 gu gv i)), (m_warmth (fM_putBack_2 gu gv i)), (m_triedRoom (fM_putBack_2 gu gv i)), (m_triedWarmth (fM_putBack_2 gu gv i)), (m_triedFrom (fM_putBack_2 gu gv i)), (m_wasLow (fM_putBack_2 gu gv i)), (m_kept (fM_putBack_2 gu gv i))) = (bM_putBack_2 (fM_putBack_2 gu gv i) gu gv i) from by unfold bM_putBack_2; rfl).trans (show (bM_putBack_2 (fM_putBack_2 gu gv i) gu gv i) = (fM_putBack_2 gu gv (i + 1)) from rfl)))) ?_
      exact ih (i + 1) (by omega) (by omega)
noncomputable def sgvM_putBack_z (z1 : MV) (gu : MU) (gv : MV) : MV := ((m_heat z1), (m_uneasy z1), (m_gave z1), (m_taken z1), (m_greatest z1), (((m_kept z1) 40).toInt32), ((m_kept z1) 41), ((m_kept z1) 42), ((m_kept z1) 43), (m_warmth z1), (-1), (m_triedWarmth z1), (m_triedFrom z1), 0, (m_kept z1))
noncomputable def sgvM_putBack (gu : MU) (gv : MV) : MV := sgvM_putBack_z (fM_putBack_2 gu gv k8) gu gv
set_option maxRecDepth 100000 in
set_option maxHeartbeats 4000000 in
theorem cM_putBack (l : Launch) (D : va_G) (k : Nat → ClassId) (am : Nat → Nat) (gu : MU) (gv : MV)  : kMv l yM_putBack (kwm yM_putBack bM_putBack 2 none) ({ frames := 0, cells := 0, slots := 0, locals := 0 }) D kcl (kty k) (wM k am gu gv) (wM k am gu (sgvM_putBack gu gv)) [.ref (am 0)] := by
  refine k_entry_v (lv0 := [(0, .ref (am 0))]) rfl (by decide +kernel) (Nat.le_of_ble_eq_true rfl) rfl ?_
  intro p e s m args below meth c0 C hr hlocks
  have hk8 := k8_eq
  refine kw_iconst (v := 0) C dM_putBack_0 (by decide) ?_
  refine kw_istore_n (lv' := [(1, .int 0), (0, .ref (am 0))]) C dM_putBack_1 rfl (by decide) rfl ?_
  refine kw_sub [0, 1] rfl ?_
  refine lM_putBack_2 k am gu gv  C ?_ (k8 + 1) 0 (Nat.zero_le _) (by omega)
  generalize ez1 : (fM_putBack_2 gu gv k8) = z1
  refine kw_aload_n C 1 dM_putBack_87 rfl rfl ?_
  refine kw_aload_n C 1 dM_putBack_88 rfl rfl ?_
  refine kw_get (v := .ref (am 22)) C 0 rfl rfl ku_M 36 (by decide) kt_592 rfl dM_putBack_89 ?_
  refine kw_bipush (v := 40) C dM_putBack_92 (by decide) ?_
  refine kw_lald C 22 1 rfl rfl (show kix 40 44 40 from ⟨by unfold vp_in; decide, by decide⟩) dM_putBack_94 ?_
  refine kw_l2i C dM_putBack_95 ?_
  refine kw_put C 0 rfl rfl ku_M tM_ok nM 27 (by decide) kt_583 rfl (ty := .int) (by decide +kernel) rfl rfl (Nat.le_of_ble_eq_true rfl) dM_putBack_96 (wM_gv k am gu (m_heat z1) (m_uneasy z1) (m_gave z1) (m_taken z1) (m_greatest z1) (((m_kept z1) 40).toInt32) (m_bySun z1) (m_byPersons z1) (m_out z1) (m_warmth z1) (m_triedRoom z1) (m_triedWarmth z1) (m_triedFrom z1) (m_wasLow z1) (m_kept z1)) rfl ?_
  refine kw_aload_n C 1 dM_putBack_99 rfl rfl ?_
  refine kw_aload_n C 1 dM_putBack_100 rfl rfl ?_
  refine kw_get (v := .ref (am 22)) C 0 rfl rfl ku_M 36 (by decide) kt_592 rfl dM_putBack_101 ?_
  refine kw_bipush (v := 41) C dM_putBack_104 (by decide) ?_
  refine kw_lald C 22 1 rfl rfl (show kix 41 44 41 from ⟨by unfold vp_in; decide, by decide⟩) dM_putBack_106 ?_
  refine kw_put C 0 rfl rfl ku_M tM_ok nM 28 (by decide) kt_584 rfl (ty := .long) (by decide +kernel) rfl rfl (Nat.le_of_ble_eq_true rfl) dM_putBack_107 (wM_gv k am gu (m_heat z1) (m_uneasy z1) (m_gave z1) (m_taken z1) (m_greatest z1) (((m_kept z1) 40).toInt32) ((m_kept z1) 41) (m_byPersons z1) (m_out z1) (m_warmth z1) (m_triedRoom z1) (m_triedWarmth z1) (m_triedFrom z1) (m_wasLow z1) (m_kept z1)) rfl ?_
  refine kw_aload_n C 1 dM_putBack_110 rfl rfl ?_
  refine kw_aload_n C 1 dM_putBack_111 rfl rfl ?_
  refine kw_get (v := .ref (am 22)) C 0 rfl rfl ku_M 36 (by decide) kt_592 rfl dM_putBack_112 ?_
  refine kw_bipush (v := 42) C dM_putBack_115 (by decide) ?_
  refine kw_lald C 22 1 rfl rfl (show kix 42 44 42 from ⟨by unfold vp_in; decide, by decide⟩) dM_putBack_117 ?_
  refine kw_put C 0 rfl rfl ku_M tM_ok nM 29 (by decide) kt_585 rfl (ty := .long) (by decide +kernel) rfl rfl (Nat.le_of_ble_eq_true rfl) dM_putBack_118 (wM_gv k am gu (m_heat z1) (m_uneasy z1) (m_gave z1) (m_taken z1) (m_greatest z1) (((m_kept z1) 40).toInt32) ((m_kept z1) 41) ((m_kept z1) 42) (m_out z1) (m_warmth z1) (m_triedRoom z1) (m_triedWarmth z1) (m_triedFrom z1) (m_wasLow z1) (m_kept z1)) rfl ?_
  refine kw_aload_n C 1 dM_putBack_121 rfl rfl ?_
  refine kw_aload_n C 1 dM_putBack_122 rfl rfl ?_
  refine kw_get (v := .ref (am 22)) C 0 rfl rfl ku_M 36 (by decide) kt_592 rfl dM_putBack_123 ?_
  refine kw_bipush (v := 43) C dM_putBack_126 (by decide) ?_
  refine kw_lald C 22 1 rfl rfl (show kix 43 44 43 from ⟨by unfold vp_in; decide, by decide⟩) dM_putBack_128 ?_
  refine kw_put C 0 rfl rfl ku_M tM_ok nM 30 (by decide) kt_586 rfl (ty := .long) (by decide +kernel) rfl rfl (Nat.le_of_ble_eq_true rfl) dM_putBack_129 (wM_gv k am gu (m_heat z1) (m_uneasy z1) (m_gave z1) (m_taken z1) (m_greatest z1) (((m_kept z1) 40).toInt32) ((m_kept z1) 41) ((m_kept z1) 42) ((m_kept z1) 43) (m_warmth z1) (m_triedRoom z1) (m_triedWarmth z1) (m_triedFrom z1) (m_wasLow z1) (m_kept z1)) rfl ?_
  refine kw_aload_n C 1 dM_putBack_132 rfl rfl ?_
  refine kw_iconst (v := -1) C dM_putBack_133 (by decide) ?_
  refine kw_put C 0 rfl rfl ku_M tM_ok nM 32 (by decide) kt_588 rfl (ty := .int) (by decide +kernel) rfl rfl (Nat.le_of_ble_eq_true rfl) dM_putBack_134 (wM_gv k am gu (m_heat z1) (m_uneasy z1) (m_gave z1) (m_taken z1) (m_greatest z1) (((m_kept z1) 40).toInt32) ((m_kept z1) 41) ((m_kept z1) 42) ((m_kept z1) 43) (m_warmth z1) (-1) (m_triedWarmth z1) (m_triedFrom z1) (m_wasLow z1) (m_kept z1)) rfl ?_
  refine kw_aload_n C 1 dM_putBack_137 rfl rfl ?_
  refine kw_iconst (v := 0) C dM_putBack_138 (by decide) ?_
  refine kw_put C 0 rfl rfl ku_M tM_ok nM 35 (by decide) kt_591 rfl (ty := .boolean) (by decide +kernel) rfl rfl (Nat.le_of_ble_eq_true rfl) dM_putBack_139 (wM_gv k am gu (m_heat z1) (m_uneasy z1) (m_gave z1) (m_taken z1) (m_greatest z1) (((m_kept z1) 40).toInt32) ((m_kept z1) 41) ((m_kept z1) 42) ((m_kept z1) 43) (m_warmth z1) (-1) (m_triedWarmth z1) (m_triedFrom z1) 0 (m_kept z1)) rfl ?_
  refine kw_eq rfl rfl (mk_wM_gv.trans (congrArg (fun z90 => wM k am gu z90) ((show ((m_heat z1), (m_uneasy z1), (m_gave z1), (m_taken z1), (m_greatest z1), (((m_kept z1) 40).toInt32), ((m_kept z1) 41), ((m_kept z1) 42), ((m_kept z1) 43), (m_warmth z1), (-1), (m_triedWarmth z1), (m_triedFrom z1), 0, (m_kept z1)) = sgvM_putBack_z z1 gu gv from by unfold sgvM_putBack_z; rfl).trans (show sgvM_putBack_z z1 gu gv = sgvM_putBack gu gv from by rw [← ez1]; rfl)))) ?_
  exact kw_vret C hr hlocks dM_putBack_142
