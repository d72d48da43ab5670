theorem kadd {a i : Nat} : nI a + nI i = nI (a + i) := nI_add a i
theorem kix_add {a i : Nat} {x : Int32} (h : a + i < 44) (hx : x = nI a := by rfl) : kix (x + nI i) 44 (a + i) := by
  rw [hx, nI_add]
  exact kix_nI h (by decide)
def k8 : Nat := 8
theorem k8_eq : k8 = 8 := rfl
theorem k8_nI : (8 : Int32) = nI k8 := rfl
noncomputable def bM_keep_2 (z : MV) (gu : MU) (gv : MV) (i : Nat) : MV := ((m_heat z), (m_uneasy z), (m_gave z), (m_taken z), (m_greatest z), (m_now z), (m_bySun z), (m_byPersons z), (m_out z), (m_warmth z), (m_triedRoom z), (m_triedWarmth z), (m_triedFrom z), (m_wasLow z), (vp_updL (vp_updL (vp_updL (vp_updL (vp_updL (m_kept z) i ((m_heat z) i)) (8 + i) (((m_uneasy z) i).toInt64)) (16 + i) ((m_gave z) i)) (24 + i) ((m_taken z) i)) (32 + i) ((m_greatest z) i)))
noncomputable def fM_keep_2 (gu : MU) (gv : MV) (n : Nat) : MV := Nat.rec (motive := fun _ => MV) gv (fun i z => bM_keep_2 z gu gv i) n
set_option maxRecDepth 100000 in
set_option maxHeartbeats 4000000 in
theorem lM_keep_2 {l : Launch} {p : Program} {e : Env} {s : State} {m : MethodId} {args : Array Value} {below : List Frame} {meth : Method} {c0 : Code} {D : va_G} {A : Nat → Prop} {Q : State → Prop} (k : Nat → ClassId) (am : Nat → Nat) (gu : MU) (gv : MV)   (C : kC p s m args c0 bM_keep "RoomHoursModel" kT D kcl (kty k) A 2) (kk : kW p l e ({ frames := 0, cells := 0, slots := 0, locals := 0 }) s m args below meth c0 D kcl A 2 0 0 Q 87 [(1, .int (nI k8)), (0, .ref (am 0))] [] (wM k am gu (fM_keep_2 gu gv k8))) : ∀ (n i : Nat), i ≤ k8 → k8 < i + n → kW p l e ({ frames := 0, cells := 0, slots := 0, locals := 0 }) s m args below meth c0 D kcl A 2 0 0 Q 2 [(1, .int (nI i)), (0, .ref (am 0))] [] (wM k am gu (fM_keep_2 gu gv i)) := by
  intro n
  induction n with
  | zero => exact fun i h1 h2 => absurd h2 (by omega)
  | succ n ih =>
    intro i hi hin
    have hk8 := k8_eq
    refine kw_iload_n C 0 dM_keep_2 rfl rfl ?_
    refine kw_bipush (v := 8) C dM_keep_3 (by decide) ?_
    refine kw_icmp_ge (tgt := 87) C dM_keep_5 (by decide) (fun c_1 => ?_) (fun c_1 => ?_)
    · skip
      have e9 : i = k8 := klp1 k8_nI (by omega) hi c_1
      subst e9
      refine kw_sub [0, 1] rfl ?_
      exact kk
    · skip
      have hlt : i < k8 := klp2 k8_nI (by omega) c_1
      refine kw_aload_n C 1 dM_keep_8 rfl rfl ?_
      refine kw_get (v := .ref (am 22)) C 0 rfl rfl ku_M 36 (by decide) kt_592 rfl dM_keep_9 ?_
      refine kw_iload_n C 0 dM_keep_12 rfl rfl ?_
      refine kw_aload_n C 1 dM_keep_13 rfl rfl ?_
      refine kw_get (v := .ref (am 2)) C 0 rfl rfl ku_M 3 (by decide) kt_559 rfl dM_keep_14 ?_
      refine kw_iload_n C 0 dM_keep_17 rfl rfl ?_
      refine kw_lald C 2 1 rfl rfl (kix_nI (by omega) (by decide)) dM_keep_18 ?_
      refine kw_last C 22 1 rfl rfl (kix_nI (by omega) (by decide)) dM_keep_19 (wM_gv k am gu (m_heat (fM_keep_2 gu gv i)) (m_uneasy (fM_keep_2 gu gv i)) (m_gave (fM_keep_2 gu gv i)) (m_taken (fM_keep_2 gu gv i)) (m_greatest (fM_keep_2 gu gv i)) (m_now (fM_keep_2 gu gv i)) (m_bySun (fM_keep_2 gu gv i)) (m_byPersons (fM_keep_2 gu gv i)) (m_out (fM_keep_2 gu gv i)) (m_warmth (fM_keep_2 gu gv i)) (m_triedRoom (fM_keep_2 gu gv i)) (m_triedWarmth (fM_keep_2 gu gv i)) (m_triedFrom (fM_keep_2 gu gv i)) (m_wasLow (fM_keep_2 gu gv i)) (vp_updL (m_kept (fM_keep_2 gu gv i)) i ((m_heat (fM_keep_2 gu gv i)) i))) rfl ?_
      refine kw_aload_n C 1 dM_keep_20 rfl rfl ?_
      refine kw_get (v := .ref (am 22)) C 0 rfl rfl ku_M 36 (by decide) kt_592 rfl dM_keep_21 ?_
      refine kw_bipush (v := 8) C dM_keep_24 (by decide) ?_
      refine kw_iload_n C 0 dM_keep_26 rfl rfl ?_
      refine kw_iadd C dM_keep_27 ?_
      refine kw_aload_n C 1 dM_keep_28 rfl rfl ?_
      refine kw_get (v := .ref (am 3)) C 0 rfl rfl ku_M 4 (by decide) kt_560 rfl dM_keep_29 ?_
      refine kw_iload_n C 0 dM_keep_32 rfl rfl ?_
      refine kw_iald C 3 0 rfl rfl (kix_nI (by omega) (by decide)) dM_keep_33 ?_
      refine kw_i2l C dM_keep_34 ?_
      refine kw_last C 22 1 rfl rfl (kix_add (a := 8) (by omega)) dM_keep_35 (wM_gv k am gu (m_heat (fM_keep_2 gu gv i)) (m_uneasy (fM_keep_2 gu gv i)) (m_gave (fM_keep_2 gu gv i)) (m_taken (fM_keep_2 gu gv i)) (m_greatest (fM_keep_2 gu gv i)) (m_now (fM_keep_2 gu gv i)) (m_bySun (fM_keep_2 gu gv i)) (m_byPersons (fM_keep_2 gu gv i)) (m_out (fM_keep_2 gu gv i)) (m_warmth (fM_keep_2 gu gv i)) (m_triedRoom (fM_keep_2 gu gv i)) (m_triedWarmth (fM_keep_2 gu gv i)) (m_triedFrom (fM_keep_2 gu gv i)) (m_wasLow (fM_keep_2 gu gv i)) (vp_updL (vp_updL (m_kept (fM_keep_2 gu gv i)) i ((m_heat (fM_keep_2 gu gv i)) i)) (8 + i) (((m_uneasy (fM_keep_2 gu gv i)) i).toInt64))) rfl ?_
      refine kw_aload_n C 1 dM_keep_36 rfl rfl ?_
      refine kw_get (v := .ref (am 22)) C 0 rfl rfl ku_M 36 (by decide) kt_592 rfl dM_keep_37 ?_
      refine kw_bipush (v := 16) C dM_keep_40 (by decide) ?_
      refine kw_iload_n C 0 dM_keep_42 rfl rfl ?_
      refine kw_iadd C dM_keep_43 ?_
      refine kw_aload_n C 1 dM_keep_44 rfl rfl ?_
      refine kw_get (v := .ref (am 4)) C 0 rfl rfl ku_M 5 (by decide) kt_561 rfl dM_keep_45 ?_
      refine kw_iload_n C 0 dM_keep_48 rfl rfl ?_
      refine kw_lald C 4 1 rfl rfl (kix_nI (by omega) (by decide)) dM_keep_49 ?_
      refine kw_last C 22 1 rfl rfl (kix_add (a := 16) (by omega)) dM_keep_50 (wM_gv k am gu (m_heat (fM_keep_2 gu gv i)) (m_uneasy (fM_keep_2 gu gv i)) (m_gave (fM_keep_2 gu gv i)) (m_taken (fM_keep_2 gu gv i)) (m_greatest (fM_keep_2 gu gv i)) (m_now (fM_keep_2 gu gv i)) (m_bySun (fM_keep_2 gu gv i)) (m_byPersons (fM_keep_2 gu gv i)) (m_out (fM_keep_2 gu gv i)) (m_warmth (fM_keep_2 gu gv i)) (m_triedRoom (fM_keep_2 gu gv i)) (m_triedWarmth (fM_keep_2 gu gv i)) (m_triedFrom (fM_keep_2 gu gv i)) (m_wasLow (fM_keep_2 gu gv i)) (vp_updL (vp_updL (vp_updL (m_kept (fM_keep_2 gu gv i)) i ((m_heat (fM_keep_2 gu gv i)) i)) (8 + i) (((m_uneasy (fM_keep_2 gu gv i)) i).toInt64)) (16 + i) ((m_gave (fM_keep_2 gu gv i)) i))) rfl ?_
      refine kw_aload_n C 1 dM_keep_51 rfl rfl ?_
      refine kw_get (v := .ref (am 22)) C 0 rfl rfl ku_M 36 (by decide) kt_592 rfl dM_keep_52 ?_
      refine kw_bipush (v := 24) C dM_keep_55 (by decide) ?_
      refine kw_iload_n C 0 dM_keep_57 rfl rfl ?_
      refine kw_iadd C dM_keep_58 ?_
      refine kw_aload_n C 1 dM_keep_59 rfl rfl ?_
      refine kw_get (v := .ref (am 5)) C 0 rfl rfl ku_M 6 (by decide) kt_562 rfl dM_keep_60 ?_
      refine kw_iload_n C 0 dM_keep_63 rfl rfl ?_
      refine kw_lald C 5 1 rfl rfl (kix_nI (by omega) (by decide)) dM_keep_64 ?_
      refine kw_last C 22 1 rfl rfl (kix_add (a := 24) (by omega)) dM_keep_65 (wM_gv k am gu (m_heat (fM_keep_2 gu gv i)) (m_uneasy (fM_keep_2 gu gv i)) (m_gave (fM_keep_2 gu gv i)) (m_taken (fM_keep_2 gu gv i)) (m_greatest (fM_keep_2 gu gv i)) (m_now (fM_keep_2 gu gv i)) (m_bySun (fM_keep_2 gu gv i)) (m_byPersons (fM_keep_2 gu gv i)) (m_out (fM_keep_2 gu gv i)) (m_warmth (fM_keep_2 gu gv i)) (m_triedRoom (fM_keep_2 gu gv i)) (m_triedWarmth (fM_keep_2 gu gv i)) (m_triedFrom (fM_keep_2 gu gv i)) (m_wasLow (fM_keep_2 gu gv i)) (vp_updL (vp_updL (vp_updL (vp_updL (m_kept (fM_keep_2 gu gv i)) i ((m_heat (fM_keep_2 gu gv i)) i)) (8 + i) (((m_uneasy (fM_keep_2 gu gv i)) i).toInt64)) (16 + i) ((m_gave (fM_keep_2 gu gv i)) i)) (24 + i) ((m_taken (fM_keep_2 gu gv i)) i))) rfl ?_
      refine kw_aload_n C 1 dM_keep_66 rfl rfl ?_
      refine kw_get (v := .ref (am 22)) C 0 rfl rfl ku_M 36 (by decide) kt_592 rfl dM_keep_67 ?_
      refine kw_bipush (v := 32) C dM_keep_70 (by decide) ?_
      refine kw_iload_n C 0 dM_keep_72 rfl rfl ?_
      refine kw_iadd C dM_keep_73 ?_
      refine kw_aload_n C 1 dM_keep_74 rfl rfl ?_
      refine kw_get (v := .ref (am 6)) C 0 rfl rfl ku_M 7 (by decide) kt_563 rfl dM_keep_75 ?_
      refine kw_iload_n C 0 dM_keep_78 rfl rfl ?_
      refine kw_lald C 6 1 rfl rfl (kix_nI (by omega) (by decide)) dM_keep_79 ?_
      refine kw_last C 22 1 rfl rfl (kix_add (a := 32) (by omega)) dM_keep_80 (wM_gv k am gu (m_heat (fM_keep_2 gu gv i)) (m_uneasy (fM_keep_2 gu gv i)) (m_gave (fM_keep_2 gu gv i)) (m_taken (fM_keep_2 gu gv i)) (m_greatest (fM_keep_2 gu gv i)) (m_now (fM_keep_2 gu gv i)) (m_bySun (fM_keep_2 gu gv i)) (m_byPersons (fM_keep_2 gu gv i)) (m_out (fM_keep_2 gu gv i)) (m_warmth (fM_keep_2 gu gv i)) (m_triedRoom (fM_keep_2 gu gv i)) (m_triedWarmth (fM_keep_2 gu gv i)) (m_triedFrom (fM_keep_2 gu gv i)) (m_wasLow (fM_keep_2 gu gv i)) (vp_updL (vp_updL (vp_updL (vp_updL (vp_updL (m_kept (fM_keep_2 gu gv i)) i ((m_heat (fM_keep_2 gu gv i)) i)) (8 + i) (((m_uneasy (fM_keep_2 gu gv i)) i).toInt64)) (16 + i) ((m_gave (fM_keep_2 gu gv i)) i)) (24 + i) ((m_taken (fM_keep_2 gu gv i)) i)) (32 + i) ((m_greatest (fM_keep_2 gu gv i)) i))) rfl ?_
      refine kw_iinc (v := nI (i + 1)) (lv' := [(1, .int (nI (i + 1))), (0, .ref (am 0))]) C 0 dM_keep_81 rfl (nI_1 i) (by decide) rfl ?_
      refine kw_goto (tgt := 2) C dM_keep_84 (by decide) ?_
      refine kw_sub [0, 1] rfl ?_
      refine kw_eq rfl rfl (mk_wM_gv.trans (congrArg (fun z90 => wM k am gu z90) ((show ((m_heat (fM_keep_2 gu gv i)), (m_uneasy (fM_keep_2 gu gv i)), (m_gave (fM_keep_2 gu gv i)), (m_taken (fM_keep_2 gu gv i)), (m_greatest (fM_keep_2 gu gv i)), (m_now (fM_keep_2 gu gv i)), (m_bySun (fM_keep_2 gu gv i)), (m_byPersons (fM_keep_2 gu gv i)), (m_out (fM_keep_2 gu gv i)), (m_warmth (fM_keep_2 gu gv i)), (m_triedRoom (fM_keep_2 gu gv i)), (m_triedWarmth (fM_keep_2 gu gv i)), (m_triedFrom (fM_keep_2 gu gv i)), (m_wasLow (fM_keep_2 gu gv i)), (vp_updL (vp_updL (vp_updL (vp_updL (vp_updL (m_kept (fM_keep_2 gu gv i)) i ((m_heat (fM_keep_2 gu gv i)) i)) (8 + i) (((m_uneasy (fM_keep_2 gu gv i)) i).toInt64)) (16 + i) ((m_gave (fM_keep_2 gu gv i)) i)) (24 + i) ((m_taken (fM_keep_2 gu gv i)) i)) (32 + i) ((m_greatest (fM_keep_2 gu gv i)) i))) = (bM_keep_2 (fM_keep_2 gu gv i) gu gv i) from by unfold bM_keep_2; rfl).trans (show (bM_keep_2 (fM_keep_2 gu gv i) gu gv i) = (fM_keep_2 gu gv (i + 1)) from rfl)))) ?_
      exact ih (i + 1) (by omega) (by omega)
noncomputable def sgvM_keep_z (z1 : MV) (gu : MU) (gv : MV) : MV := ((m_heat z1), (m_uneasy z1), (m_gave z1), (m_taken z1), (m_greatest z1), (m_now z1), (m_bySun z1), (m_byPersons z1), (m_out z1), (m_warmth z1), (m_triedRoom z1), (m_triedWarmth z1), (m_triedFrom z1), (m_wasLow z1), (vp_updL (vp_updL (vp_updL (vp_updL (m_kept z1) 40 ((m_now z1).toInt64)) 41 (m_bySun z1)) 42 (m_byPersons z1)) 43 (m_out z1)))
noncomputable def sgvM_keep (gu : MU) (gv : MV) : MV := sgvM_keep_z (fM_keep_2 gu gv k8) gu gv
set_option maxRecDepth 100000 in
set_option maxHeartbeats 4000000 in
theorem cM_keep (l : Launch) (D : va_G) (k : Nat → ClassId) (am : Nat → Nat) (gu : MU) (gv : MV)  : kMv l yM_keep (kwm yM_keep bM_keep 2 none) ({ frames := 0, cells := 0, slots := 0, locals := 0 }) D kcl (kty k) (wM k am gu gv) (wM k am gu (sgvM_keep gu gv)) [.ref (am 0)] := by
  refine k_entry_v (lv0 := [(0, .ref (am 0))]) rfl (by decide +kernel) (Nat.le_of_ble_eq_true rfl) rfl ?_
  intro p e s m args below meth c0 C hr hlocks
  have hk8 := k8_eq
  refine kw_iconst (v := 0) C dM_keep_0 (by decide) ?_
  refine kw_istore_n (lv' := [(1, .int 0), (0, .ref (am 0))]) C dM_keep_1 rfl (by decide) rfl ?_
  refine kw_sub [0, 1] rfl ?_
  refine lM_keep_2 k am gu gv  C ?_ (k8 + 1) 0 (Nat.zero_le _) (by omega)
  generalize ez1 : (fM_keep_2 gu gv k8) = z1
  refine kw_aload_n C 1 dM_keep_87 rfl rfl ?_
  refine kw_get (v := .ref (am 22)) C 0 rfl rfl ku_M 36 (by decide) kt_592 rfl dM_keep_88 ?_
  refine kw_bipush (v := 40) C dM_keep_91 (by decide) ?_
  refine kw_aload_n C 1 dM_keep_93 rfl rfl ?_
  refine kw_get (v := .int (m_now z1)) C 0 rfl rfl ku_M 27 (by decide) kt_583 rfl dM_keep_94 ?_
  refine kw_i2l C dM_keep_97 ?_
  refine kw_last C 22 1 rfl rfl (show kix 40 44 40 from ⟨by unfold vp_in; decide, by decide⟩) dM_keep_98 (wM_gv k am gu (m_heat z1) (m_uneasy z1) (m_gave z1) (m_taken z1) (m_greatest z1) (m_now z1) (m_bySun z1) (m_byPersons z1) (m_out z1) (m_warmth z1) (m_triedRoom z1) (m_triedWarmth z1) (m_triedFrom z1) (m_wasLow z1) (vp_updL (m_kept z1) 40 ((m_now z1).toInt64))) rfl ?_
  refine kw_aload_n C 1 dM_keep_99 rfl rfl ?_
  refine kw_get (v := .ref (am 22)) C 0 rfl rfl ku_M 36 (by decide) kt_592 rfl dM_keep_100 ?_
  refine kw_bipush (v := 41) C dM_keep_103 (by decide) ?_
  refine kw_aload_n C 1 dM_keep_105 rfl rfl ?_
  refine kw_get (v := .long (m_bySun z1)) C 0 rfl rfl ku_M 28 (by decide) kt_584 rfl dM_keep_106 ?_
  refine kw_last C 22 1 rfl rfl (show kix 41 44 41 from ⟨by unfold vp_in; decide, by decide⟩) dM_keep_109 (wM_gv k am gu (m_heat z1) (m_uneasy z1) (m_gave z1) (m_taken z1) (m_greatest z1) (m_now z1) (m_bySun z1) (m_byPersons z1) (m_out z1) (m_warmth z1) (m_triedRoom z1) (m_triedWarmth z1) (m_triedFrom z1) (m_wasLow z1) (vp_updL (vp_updL (m_kept z1) 40 ((m_now z1).toInt64)) 41 (m_bySun z1))) rfl ?_
  refine kw_aload_n C 1 dM_keep_110 rfl rfl ?_
  refine kw_get (v := .ref (am 22)) C 0 rfl rfl ku_M 36 (by decide) kt_592 rfl dM_keep_111 ?_
  refine kw_bipush (v := 42) C dM_keep_114 (by decide) ?_
  refine kw_aload_n C 1 dM_keep_116 rfl rfl ?_
  refine kw_get (v := .long (m_byPersons z1)) C 0 rfl rfl ku_M 29 (by decide) kt_585 rfl dM_keep_117 ?_
  refine kw_last C 22 1 rfl rfl (show kix 42 44 42 from ⟨by unfold vp_in; decide, by decide⟩) dM_keep_120 (wM_gv k am gu (m_heat z1) (m_uneasy z1) (m_gave z1) (m_taken z1) (m_greatest z1) (m_now z1) (m_bySun z1) (m_byPersons z1) (m_out z1) (m_warmth z1) (m_triedRoom z1) (m_triedWarmth z1) (m_triedFrom z1) (m_wasLow z1) (vp_updL (vp_updL (vp_updL (m_kept z1) 40 ((m_now z1).toInt64)) 41 (m_bySun z1)) 42 (m_byPersons z1))) rfl ?_
  refine kw_aload_n C 1 dM_keep_121 rfl rfl ?_
  refine kw_get (v := .ref (am 22)) C 0 rfl rfl ku_M 36 (by decide) kt_592 rfl dM_keep_122 ?_
  refine kw_bipush (v := 43) C dM_keep_125 (by decide) ?_
  refine kw_aload_n C 1 dM_keep_127 rfl rfl ?_
  refine kw_get (v := .long (m_out z1)) C 0 rfl rfl ku_M 30 (by decide) kt_586 rfl dM_keep_128 ?_
  refine kw_last C 22 1 rfl rfl (show kix 43 44 43 from ⟨by unfold vp_in; decide, by decide⟩) dM_keep_131 (wM_gv k am gu (m_heat z1) (m_uneasy z1) (m_gave z1) (m_taken z1) (m_greatest z1) (m_now z1) (m_bySun z1) (m_byPersons z1) (m_out z1) (m_warmth z1) (m_triedRoom z1) (m_triedWarmth z1) (m_triedFrom z1) (m_wasLow z1) (vp_updL (vp_updL (vp_updL (vp_updL (m_kept z1) 40 ((m_now z1).toInt64)) 41 (m_bySun z1)) 42 (m_byPersons z1)) 43 (m_out z1))) rfl ?_
  refine kw_eq rfl rfl (mk_wM_gv.trans (congrArg (fun z90 => wM k am gu z90) ((show ((m_heat z1), (m_uneasy z1), (m_gave z1), (m_taken z1), (m_greatest z1), (m_now z1), (m_bySun z1), (m_byPersons z1), (m_out z1), (m_warmth z1), (m_triedRoom z1), (m_triedWarmth z1), (m_triedFrom z1), (m_wasLow z1), (vp_updL (vp_updL (vp_updL (vp_updL (m_kept z1) 40 ((m_now z1).toInt64)) 41 (m_bySun z1)) 42 (m_byPersons z1)) 43 (m_out z1))) = sgvM_keep_z z1 gu gv from by unfold sgvM_keep_z; rfl).trans (show sgvM_keep_z z1 gu gv = sgvM_keep gu gv from by rw [← ez1]; rfl)))) ?_
  exact kw_vret C hr hlocks dM_keep_132
