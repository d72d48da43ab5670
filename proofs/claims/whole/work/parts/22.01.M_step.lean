noncomputable def bM_step_17 (z : MV) (gu : MU) (gv : MV) (h_ : Int32) (i : Nat) : MV := ((vp_updL (vp_updL (m_heat z) i (((m_heat z) i) + (jM_step_128 z gu gv h_ i))) i (((vp_updL (m_heat z) i (((m_heat z) i) + (jM_step_128 z gu gv h_ i))) i) - (jM_step_261 z gu gv h_ i))), (m_uneasy z), (vp_updL (m_gave z) i (((m_gave z) i) + (jM_step_128 z gu gv h_ i))), (vp_updL (m_taken z) i (((m_taken z) i) + (jM_step_261 z gu gv h_ i))), (vp_updL (m_greatest z) i (jM_step_180 z gu gv h_ i)), (m_now z), (m_bySun z), (m_byPersons z), (m_out z), (m_warmth z), (m_triedRoom z), (m_triedWarmth z), (m_triedFrom z), (m_wasLow z), (m_kept z))
noncomputable def fM_step_17 (gu : MU) (gv : MV) (h_ : Int32) (n : Nat) : MV := Nat.rec (motive := fun _ => MV) gv (fun i z => bM_step_17 z gu gv h_ i) n
set_option maxRecDepth 100000 in
set_option maxHeartbeats 4000000 in
theorem lM_step_17 {l : Launch} {p : Program} {e : Env} {s : State} {m : MethodId} {args : Array Value} {below : List Frame} {meth : Method} {c0 : Code} {D : va_G} {A : Nat → Prop} {Q : State → Prop} (k : Nat → ClassId) (am : Nat → Nat) (gu : MU) (gv : MV) (h_ : Int32) (hI : mInv gu) (hh : vp_in h_ 24) (C : kC p s m args c0 bM_step "RoomHoursModel" kT D kcl (kty k) A 13) (kk : kW p l e ({ frames := 3, cells := 0, slots := 0, locals := 71 }) s m args below meth c0 D kcl A 13 0 0 Q 291 [(2, .int (nI (mnR gu))), (0, .ref (am 0)), (1, .int h_)] [] (wM k am gu (fM_step_17 gu gv h_ (mnR gu)))) : ∀ (n i : Nat), i ≤ mnR gu → mnR gu < i + n → kW p l e ({ frames := 3, cells := 0, slots := 0, locals := 71 }) s m args below meth c0 D kcl A 13 0 0 Q 17 [(2, .int (nI i)), (0, .ref (am 0)), (1, .int h_)] [] (wM k am gu (fM_step_17 gu gv h_ i)) := by
  intro n
  induction n with
  | zero => exact fun i h1 h2 => absurd h2 (by omega)
  | succ n ih =>
    intro i hi hin
    have hb8 := hI.1.2
    refine kw_iload_n C 0 dM_step_17 rfl rfl ?_
    refine kw_aload_n C 1 dM_step_18 rfl rfl ?_
    refine kw_get (v := .int (m_rooms gu)) C 0 rfl rfl ku_M 1 (by decide) kt_557 rfl dM_step_19 ?_
    refine kw_icmp_ge (tgt := 291) C dM_step_22 (by decide) (fun c_1 => ?_) (fun c_1 => ?_)
    · skip
      have e9 : i = mnR gu := klp1 hI.1.1 (by omega) hi c_1
      subst e9
      refine kw_sub [0, 1, 2] rfl ?_
      exact kk
    · skip
      have hlt : i < mnR gu := klp2 hI.1.1 (by omega) c_1
      refine kw_join (pc' := 62) (lv' := [(2, .int (nI i)), (0, .ref (am 0)), (1, .int h_)]) (st' := [.int (jM_step_62 (fM_step_17 gu gv h_ i) gu gv h_ i)]) (ws' := (wM k am gu (fM_step_17 gu gv h_ i))) (fun J_ => ?_) ?_
      · skip
        refine kw_iload_n C 0 dM_step_25 rfl rfl ?_
        refine kw_aload_n C 1 dM_step_26 rfl rfl ?_
        refine kw_get (v := .int (m_triedRoom (fM_step_17 gu gv h_ i))) C 0 rfl rfl ku_M 32 (by decide) kt_588 rfl dM_step_27 ?_
        refine kw_icmp_ne (tgt := 51) C dM_step_30 (by decide) (fun c_2 => ?_) (fun c_2 => ?_)
        · skip
          refine kw_aload_n C 1 dM_step_51 rfl rfl ?_
          refine kw_get (v := .ref (am 19)) C 0 rfl rfl ku_M 23 (by decide) kt_579 rfl dM_step_52 ?_
          refine kw_bipush (v := 24) C dM_step_55 (by decide) ?_
          refine kw_iload_n C 0 dM_step_57 rfl rfl ?_
          refine kw_imul C dM_step_58 ?_
          refine kw_iload_n C 2 dM_step_59 rfl rfl ?_
          refine kw_iadd C dM_step_60 ?_
          refine kw_iald C 19 0 rfl rfl (kix_of (kplanM (vp_in_nI (by omega) (by decide)) hh)) dM_step_61 ?_
          refine kw_eq rfl (show ([.int ((m_set gu) ((24 * nI i + h_).toNatClampNeg))] : List Value) = [.int (jM_step_62 (fM_step_17 gu gv h_ i) gu gv h_ i)] from by unfold jM_step_62; rw [if_neg c_2]) rfl ?_
          exact J_
        · skip
          refine kw_aload_n C 1 dM_step_33 rfl rfl ?_
          refine kw_get (v := .int (m_now (fM_step_17 gu gv h_ i))) C 0 rfl rfl ku_M 27 (by decide) kt_583 rfl dM_step_34 ?_
          refine kw_aload_n C 1 dM_step_37 rfl rfl ?_
          refine kw_get (v := .int (m_triedFrom (fM_step_17 gu gv h_ i))) C 0 rfl rfl ku_M 34 (by decide) kt_590 rfl dM_step_38 ?_
          refine kw_icmp_lt (tgt := 51) C dM_step_41 (by decide) (fun c_3 => ?_) (fun c_3 => ?_)
          · skip
            refine kw_aload_n C 1 dM_step_51 rfl rfl ?_
            refine kw_get (v := .ref (am 19)) C 0 rfl rfl ku_M 23 (by decide) kt_579 rfl dM_step_52 ?_
            refine kw_bipush (v := 24) C dM_step_55 (by decide) ?_
            refine kw_iload_n C 0 dM_step_57 rfl rfl ?_
            refine kw_imul C dM_step_58 ?_
            refine kw_iload_n C 2 dM_step_59 rfl rfl ?_
            refine kw_iadd C dM_step_60 ?_
            refine kw_iald C 19 0 rfl rfl (kix_of (kplanM (vp_in_nI (by omega) (by decide)) hh)) dM_step_61 ?_
            refine kw_eq rfl (show ([.int ((m_set gu) ((24 * nI i + h_).toNatClampNeg))] : List Value) = [.int (jM_step_62 (fM_step_17 gu gv h_ i) gu gv h_ i)] from by unfold jM_step_62; rw [if_pos c_2, if_pos c_3]) rfl ?_
            exact J_
          · skip
            refine kw_aload_n C 1 dM_step_44 rfl rfl ?_
            refine kw_get (v := .int (m_triedWarmth (fM_step_17 gu gv h_ i))) C 0 rfl rfl ku_M 33 (by decide) kt_589 rfl dM_step_45 ?_
            refine kw_goto (tgt := 62) C dM_step_48 (by decide) ?_
            refine kw_eq rfl (show ([.int (m_triedWarmth (fM_step_17 gu gv h_ i))] : List Value) = [.int (jM_step_62 (fM_step_17 gu gv h_ i) gu gv h_ i)] from by unfold jM_step_62; rw [if_pos c_2, if_neg c_3]) rfl ?_
            exact J_
      refine kw_istore_n (lv' := [(3, .int (jM_step_62 (fM_step_17 gu gv h_ i) gu gv h_ i)), (2, .int (nI i)), (0, .ref (am 0)), (1, .int h_)]) C dM_step_62 rfl (by decide) rfl ?_
      refine kw_join (pc' := 90) (lv' := [(3, .int (jM_step_62 (fM_step_17 gu gv h_ i) gu gv h_ i)), (2, .int (nI i)), (0, .ref (am 0)), (1, .int h_)]) (st' := [.long (jM_step_90 (fM_step_17 gu gv h_ i) gu gv h_ i)]) (ws' := (wM k am gu (fM_step_17 gu gv h_ i))) (fun J_ => ?_) ?_
      · skip
        refine kw_iload_n C 0 dM_step_63 rfl rfl ?_
        refine kw_ldc (v := -1000000) C kt_555 dM_step_64 ?_
        refine kw_icmp_ne (tgt := 73) C dM_step_66 (by decide) (fun c_4 => ?_) (fun c_4 => ?_)
        · skip
          refine kw_aload_n C 2 dM_step_73 rfl rfl ?_
          refine kw_get (v := .ref (am 1)) C 0 rfl rfl ku_M 2 (by decide) kt_558 rfl dM_step_74 ?_
          refine kw_iload_n C 1 dM_step_77 rfl rfl ?_
          refine kw_iald C 1 0 rfl rfl (kix_nI (by omega) (by decide)) dM_step_78 ?_
          refine kw_i2l C dM_step_79 ?_
          refine kw_iload_n C 0 dM_step_80 rfl rfl ?_
          refine kw_i2l C dM_step_81 ?_
          refine kw_lmul C dM_step_82 ?_
          refine kw_aload_n C 2 dM_step_83 rfl rfl ?_
          refine kw_get (v := .ref (am 2)) C 0 rfl rfl ku_M 3 (by decide) kt_559 rfl dM_step_84 ?_
          refine kw_iload_n C 1 dM_step_87 rfl rfl ?_
          refine kw_lald C 2 1 rfl rfl (kix_nI (by omega) (by decide)) dM_step_88 ?_
          refine kw_lsub C dM_step_89 ?_
          refine kw_eq rfl (show ([.long (((((m_store gu) i).toInt64) * ((jM_step_62 (fM_step_17 gu gv h_ i) gu gv h_ i).toInt64)) - ((m_heat (fM_step_17 gu gv h_ i)) i))] : List Value) = [.long (jM_step_90 (fM_step_17 gu gv h_ i) gu gv h_ i)] from by unfold jM_step_90; rw [if_neg c_4]) rfl ?_
          exact J_
        · skip
          refine kw_lconst (v := 0) C dM_step_69 (by decide) ?_
          refine kw_goto (tgt := 90) C dM_step_70 (by decide) ?_
          refine kw_eq rfl (show ([.long 0] : List Value) = [.long (jM_step_90 (fM_step_17 gu gv h_ i) gu gv h_ i)] from by unfold jM_step_90; rw [if_pos c_4]) rfl ?_
          exact J_
      refine kw_lstore (lv' := [(4, .long (jM_step_90 (fM_step_17 gu gv h_ i) gu gv h_ i)), (3, .int (jM_step_62 (fM_step_17 gu gv h_ i) gu gv h_ i)), (2, .int (nI i)), (0, .ref (am 0)), (1, .int h_)]) C dM_step_90 (by decide) rfl ?_
      refine kw_join (pc' := 128) (lv' := [(4, .long (jM_step_90 (fM_step_17 gu gv h_ i) gu gv h_ i)), (3, .int (jM_step_62 (fM_step_17 gu gv h_ i) gu gv h_ i)), (2, .int (nI i)), (0, .ref (am 0)), (1, .int h_)]) (st' := [.long (jM_step_128 (fM_step_17 gu gv h_ i) gu gv h_ i)]) (ws' := (wM k am gu (fM_step_17 gu gv h_ i))) (fun J_ => ?_) ?_
      · skip
        refine kw_lload C 0 dM_step_92 rfl ?_
        refine kw_lconst (v := 0) C dM_step_94 (by decide) ?_
        refine kw_lcmp C dM_step_95 ?_
        refine kw_if_ge (tgt := 103) C dM_step_96 (by decide) (fun c_5 => ?_) (fun c_5 => ?_)
        · skip
          refine kw_lload C 0 dM_step_103 rfl ?_
          refine kw_aload_n C 3 dM_step_105 rfl rfl ?_
          refine kw_get (v := .ref (am 7)) C 0 rfl rfl ku_M 8 (by decide) kt_564 rfl dM_step_106 ?_
          refine kw_iload_n C 2 dM_step_109 rfl rfl ?_
          refine kw_iald C 7 0 rfl rfl (kix_nI (by omega) (by decide)) dM_step_110 ?_
          refine kw_i2l C dM_step_111 ?_
          refine kw_lcmp C dM_step_112 ?_
          refine kw_if_le (tgt := 126) C dM_step_113 (by decide) (fun c_6 => ?_) (fun c_6 => ?_)
          · skip
            refine kw_lload C 0 dM_step_126 rfl ?_
            refine kw_eq rfl (show ([.long (jM_step_90 (fM_step_17 gu gv h_ i) gu gv h_ i)] : List Value) = [.long (jM_step_128 (fM_step_17 gu gv h_ i) gu gv h_ i)] from by unfold jM_step_128; rw [if_pos c_5, if_pos c_6]) rfl ?_
            exact J_
          · skip
            refine kw_aload_n C 3 dM_step_116 rfl rfl ?_
            refine kw_get (v := .ref (am 7)) C 0 rfl rfl ku_M 8 (by decide) kt_564 rfl dM_step_117 ?_
            refine kw_iload_n C 2 dM_step_120 rfl rfl ?_
            refine kw_iald C 7 0 rfl rfl (kix_nI (by omega) (by decide)) dM_step_121 ?_
            refine kw_i2l C dM_step_122 ?_
            refine kw_goto (tgt := 128) C dM_step_123 (by decide) ?_
            refine kw_eq rfl (show ([.long (((m_mostHeating gu) i).toInt64)] : List Value) = [.long (jM_step_128 (fM_step_17 gu gv h_ i) gu gv h_ i)] from by unfold jM_step_128; rw [if_pos c_5, if_neg c_6]) rfl ?_
            exact J_
        · skip
          refine kw_lconst (v := 0) C dM_step_99 (by decide) ?_
          refine kw_goto (tgt := 128) C dM_step_100 (by decide) ?_
          refine kw_eq rfl (show ([.long 0] : List Value) = [.long (jM_step_128 (fM_step_17 gu gv h_ i) gu gv h_ i)] from by unfold jM_step_128; rw [if_neg c_5]) rfl ?_
          exact J_
      refine kw_lstore (lv' := [(6, .long (jM_step_128 (fM_step_17 gu gv h_ i) gu gv h_ i)), (4, .long (jM_step_90 (fM_step_17 gu gv h_ i) gu gv h_ i)), (3, .int (jM_step_62 (fM_step_17 gu gv h_ i) gu gv h_ i)), (2, .int (nI i)), (0, .ref (am 0)), (1, .int h_)]) C dM_step_128 (by decide) rfl ?_
      refine kw_aload_n C 4 dM_step_130 rfl rfl ?_
      refine kw_get (v := .ref (am 2)) C 0 rfl rfl ku_M 3 (by decide) kt_559 rfl dM_step_131 ?_
      refine kw_iload_n C 3 dM_step_134 rfl rfl ?_
      refine kw_dup2_11 C dM_step_135 rfl rfl ?_
      refine kw_lald C 2 1 rfl rfl (kix_nI (by omega) (by decide)) dM_step_136 ?_
      refine kw_lload C 0 dM_step_137 rfl ?_
      refine kw_ladd C dM_step_139 ?_
      refine kw_last C 2 1 rfl rfl (kix_nI (by omega) (by decide)) dM_step_140 (wM_gv k am gu (vp_updL (m_heat (fM_step_17 gu gv h_ i)) i (((m_heat (fM_step_17 gu gv h_ i)) i) + (jM_step_128 (fM_step_17 gu gv h_ i) gu gv h_ i))) (m_uneasy (fM_step_17 gu gv h_ i)) (m_gave (fM_step_17 gu gv h_ i)) (m_taken (fM_step_17 gu gv h_ i)) (m_greatest (fM_step_17 gu gv h_ i)) (m_now (fM_step_17 gu gv h_ i)) (m_bySun (fM_step_17 gu gv h_ i)) (m_byPersons (fM_step_17 gu gv h_ i)) (m_out (fM_step_17 gu gv h_ i)) (m_warmth (fM_step_17 gu gv h_ i)) (m_triedRoom (fM_step_17 gu gv h_ i)) (m_triedWarmth (fM_step_17 gu gv h_ i)) (m_triedFrom (fM_step_17 gu gv h_ i)) (m_wasLow (fM_step_17 gu gv h_ i)) (m_kept (fM_step_17 gu gv h_ i))) rfl ?_
      refine kw_aload_n C 4 dM_step_141 rfl rfl ?_
      refine kw_get (v := .ref (am 4)) C 0 rfl rfl ku_M 5 (by decide) kt_561 rfl dM_step_142 ?_
      refine kw_iload_n C 3 dM_step_145 rfl rfl ?_
      refine kw_dup2_11 C dM_step_146 rfl rfl ?_
      refine kw_lald C 4 1 rfl rfl (kix_nI (by omega) (by decide)) dM_step_147 ?_
      refine kw_lload C 0 dM_step_148 rfl ?_
      refine kw_ladd C dM_step_150 ?_
      refine kw_last C 4 1 rfl rfl (kix_nI (by omega) (by decide)) dM_step_151 (wM_gv k am gu (vp_updL (m_heat (fM_step_17 gu gv h_ i)) i (((m_heat (fM_step_17 gu gv h_ i)) i) + (jM_step_128 (fM_step_17 gu gv h_ i) gu gv h_ i))) (m_uneasy (fM_step_17 gu gv h_ i)) (vp_updL (m_gave (fM_step_17 gu gv h_ i)) i (((m_gave (fM_step_17 gu gv h_ i)) i) + (jM_step_128 (fM_step_17 gu gv h_ i) gu gv h_ i))) (m_taken (fM_step_17 gu gv h_ i)) (m_greatest (fM_step_17 gu gv h_ i)) (m_now (fM_step_17 gu gv h_ i)) (m_bySun (fM_step_17 gu gv h_ i)) (m_byPersons (fM_step_17 gu gv h_ i)) (m_out (fM_step_17 gu gv h_ i)) (m_warmth (fM_step_17 gu gv h_ i)) (m_triedRoom (fM_step_17 gu gv h_ i)) (m_triedWarmth (fM_step_17 gu gv h_ i)) (m_triedFrom (fM_step_17 gu gv h_ i)) (m_wasLow (fM_step_17 gu gv h_ i)) (m_kept (fM_step_17 gu gv h_ i))) rfl ?_
      refine kw_aload_n C 4 dM_step_152 rfl rfl ?_
      refine kw_get (v := .ref (am 6)) C 0 rfl rfl ku_M 7 (by decide) kt_563 rfl dM_step_153 ?_
      refine kw_iload_n C 3 dM_step_156 rfl rfl ?_
      refine kw_join (pc' := 180) (lv' := [(6, .long (jM_step_128 (fM_step_17 gu gv h_ i) gu gv h_ i)), (4, .long (jM_step_90 (fM_step_17 gu gv h_ i) gu gv h_ i)), (3, .int (jM_step_62 (fM_step_17 gu gv h_ i) gu gv h_ i)), (2, .int (nI i)), (0, .ref (am 0)), (1, .int h_)]) (st' := [.long (jM_step_180 (fM_step_17 gu gv h_ i) gu gv h_ i), .int (nI i), .ref (am 6)]) (ws' := (wM_gv k am gu (vp_updL (m_heat (fM_step_17 gu gv h_ i)) i (((m_heat (fM_step_17 gu gv h_ i)) i) + (jM_step_128 (fM_step_17 gu gv h_ i) gu gv h_ i))) (m_uneasy (fM_step_17 gu gv h_ i)) (vp_updL (m_gave (fM_step_17 gu gv h_ i)) i (((m_gave (fM_step_17 gu gv h_ i)) i) + (jM_step_128 (fM_step_17 gu gv h_ i) gu gv h_ i))) (m_taken (fM_step_17 gu gv h_ i)) (m_greatest (fM_step_17 gu gv h_ i)) (m_now (fM_step_17 gu gv h_ i)) (m_bySun (fM_step_17 gu gv h_ i)) (m_byPersons (fM_step_17 gu gv h_ i)) (m_out (fM_step_17 gu gv h_ i)) (m_warmth (fM_step_17 gu gv h_ i)) (m_triedRoom (fM_step_17 gu gv h_ i)) (m_triedWarmth (fM_step_17 gu gv h_ i)) (m_triedFrom (fM_step_17 gu gv h_ i)) (m_wasLow (fM_step_17 gu gv h_ i)) (m_kept (fM_step_17 gu gv h_ i)))) (fun J_ => ?_) ?_
      · skip
        refine kw_lload C 0 dM_step_157 rfl ?_
        refine kw_aload_n C 4 dM_step_159 rfl rfl ?_
        refine kw_get (v := .ref (am 6)) C 0 rfl rfl ku_M 7 (by decide) kt_563 rfl dM_step_160 ?_
        refine kw_iload_n C 3 dM_step_163 rfl rfl ?_
        refine kw_lald C 6 1 rfl rfl (kix_nI (by omega) (by decide)) dM_step_164 ?_
        refine kw_lcmp C dM_step_165 ?_
        refine kw_if_le (tgt := 174) C dM_step_166 (by decide) (fun c_7 => ?_) (fun c_7 => ?_)
        · skip
          refine kw_aload_n C 4 dM_step_174 rfl rfl ?_
          refine kw_get (v := .ref (am 6)) C 0 rfl rfl ku_M 7 (by decide) kt_563 rfl dM_step_175 ?_
          refine kw_iload_n C 3 dM_step_178 rfl rfl ?_
          refine kw_lald C 6 1 rfl rfl (kix_nI (by omega) (by decide)) dM_step_179 ?_
          refine kw_eq rfl (show ([.long ((m_greatest (fM_step_17 gu gv h_ i)) i), .int (nI i), .ref (am 6)] : List Value) = [.long (jM_step_180 (fM_step_17 gu gv h_ i) gu gv h_ i), .int (nI i), .ref (am 6)] from by unfold jM_step_180; rw [if_pos c_7]) rfl ?_
          exact J_
        · skip
          refine kw_lload C 0 dM_step_169 rfl ?_
          refine kw_goto (tgt := 180) C dM_step_171 (by decide) ?_
          refine kw_eq rfl (show ([.long (jM_step_128 (fM_step_17 gu gv h_ i) gu gv h_ i), .int (nI i), .ref (am 6)] : List Value) = [.long (jM_step_180 (fM_step_17 gu gv h_ i) gu gv h_ i), .int (nI i), .ref (am 6)] from by unfold jM_step_180; rw [if_neg c_7]) rfl ?_
          exact J_
      refine kw_last C 6 1 rfl rfl (kix_nI (by omega) (by decide)) dM_step_180 (wM_gv k am gu (vp_updL (m_heat (fM_step_17 gu gv h_ i)) i (((m_heat (fM_step_17 gu gv h_ i)) i) + (jM_step_128 (fM_step_17 gu gv h_ i) gu gv h_ i))) (m_uneasy (fM_step_17 gu gv h_ i)) (vp_updL (m_gave (fM_step_17 gu gv h_ i)) i (((m_gave (fM_step_17 gu gv h_ i)) i) + (jM_step_128 (fM_step_17 gu gv h_ i) gu gv h_ i))) (m_taken (fM_step_17 gu gv h_ i)) (vp_updL (m_greatest (fM_step_17 gu gv h_ i)) i (jM_step_180 (fM_step_17 gu gv h_ i) gu gv h_ i)) (m_now (fM_step_17 gu gv h_ i)) (m_bySun (fM_step_17 gu gv h_ i)) (m_byPersons (fM_step_17 gu gv h_ i)) (m_out (fM_step_17 gu gv h_ i)) (m_warmth (fM_step_17 gu gv h_ i)) (m_triedRoom (fM_step_17 gu gv h_ i)) (m_triedWarmth (fM_step_17 gu gv h_ i)) (m_triedFrom (fM_step_17 gu gv h_ i)) (m_wasLow (fM_step_17 gu gv h_ i)) (m_kept (fM_step_17 gu gv h_ i))) rfl ?_
      refine kw_aload_n C 4 dM_step_181 rfl rfl ?_
      refine kw_get (v := .ref (am 20)) C 0 rfl rfl ku_M 24 (by decide) kt_580 rfl dM_step_182 ?_
      refine kw_bipush (v := 24) C dM_step_185 (by decide) ?_
      refine kw_iload_n C 3 dM_step_187 rfl rfl ?_
      refine kw_imul C dM_step_188 ?_
      refine kw_iload_n C 5 dM_step_189 rfl rfl ?_
      refine kw_iadd C dM_step_190 ?_
      refine kw_iald C 20 0 rfl rfl (kix_of (kplanM (vp_in_nI (by omega) (by decide)) hh)) dM_step_191 ?_
      refine kw_istore (lv' := [(8, .int ((m_cool gu) ((24 * nI i + h_).toNatClampNeg))), (6, .long (jM_step_128 (fM_step_17 gu gv h_ i) gu gv h_ i)), (4, .long (jM_step_90 (fM_step_17 gu gv h_ i) gu gv h_ i)), (3, .int (jM_step_62 (fM_step_17 gu gv h_ i) gu gv h_ i)), (2, .int (nI i)), (0, .ref (am 0)), (1, .int h_)]) C dM_step_192 (by decide) rfl ?_
      refine kw_join (pc' := 223) (lv' := [(8, .int ((m_cool gu) ((24 * nI i + h_).toNatClampNeg))), (6, .long (jM_step_128 (fM_step_17 gu gv h_ i) gu gv h_ i)), (4, .long (jM_step_90 (fM_step_17 gu gv h_ i) gu gv h_ i)), (3, .int (jM_step_62 (fM_step_17 gu gv h_ i) gu gv h_ i)), (2, .int (nI i)), (0, .ref (am 0)), (1, .int h_)]) (st' := [.long (jM_step_223 (fM_step_17 gu gv h_ i) gu gv h_ i)]) (ws' := (wM_gv k am gu (vp_updL (m_heat (fM_step_17 gu gv h_ i)) i (((m_heat (fM_step_17 gu gv h_ i)) i) + (jM_step_128 (fM_step_17 gu gv h_ i) gu gv h_ i))) (m_uneasy (fM_step_17 gu gv h_ i)) (vp_updL (m_gave (fM_step_17 gu gv h_ i)) i (((m_gave (fM_step_17 gu gv h_ i)) i) + (jM_step_128 (fM_step_17 gu gv h_ i) gu gv h_ i))) (m_taken (fM_step_17 gu gv h_ i)) (vp_updL (m_greatest (fM_step_17 gu gv h_ i)) i (jM_step_180 (fM_step_17 gu gv h_ i) gu gv h_ i)) (m_now (fM_step_17 gu gv h_ i)) (m_bySun (fM_step_17 gu gv h_ i)) (m_byPersons (fM_step_17 gu gv h_ i)) (m_out (fM_step_17 gu gv h_ i)) (m_warmth (fM_step_17 gu gv h_ i)) (m_triedRoom (fM_step_17 gu gv h_ i)) (m_triedWarmth (fM_step_17 gu gv h_ i)) (m_triedFrom (fM_step_17 gu gv h_ i)) (m_wasLow (fM_step_17 gu gv h_ i)) (m_kept (fM_step_17 gu gv h_ i)))) (fun J_ => ?_) ?_
      · skip
        refine kw_iload C 0 dM_step_194 rfl ?_
        refine kw_ldc (v := -1000000) C kt_555 dM_step_196 ?_
        refine kw_icmp_ne (tgt := 205) C dM_step_198 (by decide) (fun c_8 => ?_) (fun c_8 => ?_)
        · skip
          refine kw_aload_n C 5 dM_step_205 rfl rfl ?_
          refine kw_get (v := .ref (am 2)) C 0 rfl rfl ku_M 3 (by decide) kt_559 rfl dM_step_206 ?_
          refine kw_iload_n C 4 dM_step_209 rfl rfl ?_
          refine kw_lald C 2 1 rfl rfl (kix_nI (by omega) (by decide)) dM_step_210 ?_
          refine kw_aload_n C 5 dM_step_211 rfl rfl ?_
          refine kw_get (v := .ref (am 1)) C 0 rfl rfl ku_M 2 (by decide) kt_558 rfl dM_step_212 ?_
          refine kw_iload_n C 4 dM_step_215 rfl rfl ?_
          refine kw_iald C 1 0 rfl rfl (kix_nI (by omega) (by decide)) dM_step_216 ?_
          refine kw_i2l C dM_step_217 ?_
          refine kw_iload C 0 dM_step_218 rfl ?_
          refine kw_i2l C dM_step_220 ?_
          refine kw_lmul C dM_step_221 ?_
          refine kw_lsub C dM_step_222 ?_
          refine kw_eq rfl (show ([.long (((vp_updL (m_heat (fM_step_17 gu gv h_ i)) i (((m_heat (fM_step_17 gu gv h_ i)) i) + (jM_step_128 (fM_step_17 gu gv h_ i) gu gv h_ i))) i) - ((((m_store gu) i).toInt64) * (((m_cool gu) ((24 * nI i + h_).toNatClampNeg)).toInt64)))] : List Value) = [.long (jM_step_223 (fM_step_17 gu gv h_ i) gu gv h_ i)] from by unfold jM_step_223; rw [if_neg c_8]) rfl ?_
          exact J_
        · skip
          refine kw_lconst (v := 0) C dM_step_201 (by decide) ?_
          refine kw_goto (tgt := 223) C dM_step_202 (by decide) ?_
          refine kw_eq rfl (show ([.long 0] : List Value) = [.long (jM_step_223 (fM_step_17 gu gv h_ i) gu gv h_ i)] from by unfold jM_step_223; rw [if_pos c_8]) rfl ?_
          exact J_
      refine kw_lstore (lv' := [(9, .long (jM_step_223 (fM_step_17 gu gv h_ i) gu gv h_ i)), (8, .int ((m_cool gu) ((24 * nI i + h_).toNatClampNeg))), (6, .long (jM_step_128 (fM_step_17 gu gv h_ i) gu gv h_ i)), (4, .long (jM_step_90 (fM_step_17 gu gv h_ i) gu gv h_ i)), (3, .int (jM_step_62 (fM_step_17 gu gv h_ i) gu gv h_ i)), (2, .int (nI i)), (0, .ref (am 0)), (1, .int h_)]) C dM_step_223 (by decide) rfl ?_
      refine kw_join (pc' := 261) (lv' := [(9, .long (jM_step_223 (fM_step_17 gu gv h_ i) gu gv h_ i)), (8, .int ((m_cool gu) ((24 * nI i + h_).toNatClampNeg))), (6, .long (jM_step_128 (fM_step_17 gu gv h_ i) gu gv h_ i)), (4, .long (jM_step_90 (fM_step_17 gu gv h_ i) gu gv h_ i)), (3, .int (jM_step_62 (fM_step_17 gu gv h_ i) gu gv h_ i)), (2, .int (nI i)), (0, .ref (am 0)), (1, .int h_)]) (st' := [.long (jM_step_261 (fM_step_17 gu gv h_ i) gu gv h_ i)]) (ws' := (wM_gv k am gu (vp_updL (m_heat (fM_step_17 gu gv h_ i)) i (((m_heat (fM_step_17 gu gv h_ i)) i) + (jM_step_128 (fM_step_17 gu gv h_ i) gu gv h_ i))) (m_uneasy (fM_step_17 gu gv h_ i)) (vp_updL (m_gave (fM_step_17 gu gv h_ i)) i (((m_gave (fM_step_17 gu gv h_ i)) i) + (jM_step_128 (fM_step_17 gu gv h_ i) gu gv h_ i))) (m_taken (fM_step_17 gu gv h_ i)) (vp_updL (m_greatest (fM_step_17 gu gv h_ i)) i (jM_step_180 (fM_step_17 gu gv h_ i) gu gv h_ i)) (m_now (fM_step_17 gu gv h_ i)) (m_bySun (fM_step_17 gu gv h_ i)) (m_byPersons (fM_step_17 gu gv h_ i)) (m_out (fM_step_17 gu gv h_ i)) (m_warmth (fM_step_17 gu gv h_ i)) (m_triedRoom (fM_step_17 gu gv h_ i)) (m_triedWarmth (fM_step_17 gu gv h_ i)) (m_triedFrom (fM_step_17 gu gv h_ i)) (m_wasLow (fM_step_17 gu gv h_ i)) (m_kept (fM_step_17 gu gv h_ i)))) (fun J_ => ?_) ?_
      · skip
        refine kw_lload C 0 dM_step_225 rfl ?_
        refine kw_lconst (v := 0) C dM_step_227 (by decide) ?_
        refine kw_lcmp C dM_step_228 ?_
        refine kw_if_ge (tgt := 236) C dM_step_229 (by decide) (fun c_9 => ?_) (fun c_9 => ?_)
        · skip
          refine kw_lload C 0 dM_step_236 rfl ?_
          refine kw_aload_n C 6 dM_step_238 rfl rfl ?_
          refine kw_get (v := .ref (am 8)) C 0 rfl rfl ku_M 9 (by decide) kt_565 rfl dM_step_239 ?_
          refine kw_iload_n C 5 dM_step_242 rfl rfl ?_
          refine kw_iald C 8 0 rfl rfl (kix_nI (by omega) (by decide)) dM_step_243 ?_
          refine kw_i2l C dM_step_244 ?_
          refine kw_lcmp C dM_step_245 ?_
          refine kw_if_le (tgt := 259) C dM_step_246 (by decide) (fun c_10 => ?_) (fun c_10 => ?_)
          · skip
            refine kw_lload C 0 dM_step_259 rfl ?_
            refine kw_eq rfl (show ([.long (jM_step_223 (fM_step_17 gu gv h_ i) gu gv h_ i)] : List Value) = [.long (jM_step_261 (fM_step_17 gu gv h_ i) gu gv h_ i)] from by unfold jM_step_261; rw [if_pos c_9, if_pos c_10]) rfl ?_
            exact J_
          · skip
            refine kw_aload_n C 6 dM_step_249 rfl rfl ?_
            refine kw_get (v := .ref (am 8)) C 0 rfl rfl ku_M 9 (by decide) kt_565 rfl dM_step_250 ?_
            refine kw_iload_n C 5 dM_step_253 rfl rfl ?_
            refine kw_iald C 8 0 rfl rfl (kix_nI (by omega) (by decide)) dM_step_254 ?_
            refine kw_i2l C dM_step_255 ?_
            refine kw_goto (tgt := 261) C dM_step_256 (by decide) ?_
            refine kw_eq rfl (show ([.long (((m_mostCooling gu) i).toInt64)] : List Value) = [.long (jM_step_261 (fM_step_17 gu gv h_ i) gu gv h_ i)] from by unfold jM_step_261; rw [if_pos c_9, if_neg c_10]) rfl ?_
            exact J_
        · skip
          refine kw_lconst (v := 0) C dM_step_232 (by decide) ?_
          refine kw_goto (tgt := 261) C dM_step_233 (by decide) ?_
          refine kw_eq rfl (show ([.long 0] : List Value) = [.long (jM_step_261 (fM_step_17 gu gv h_ i) gu gv h_ i)] from by unfold jM_step_261; rw [if_neg c_9]) rfl ?_
          exact J_
      refine kw_lstore (lv' := [(11, .long (jM_step_261 (fM_step_17 gu gv h_ i) gu gv h_ i)), (9, .long (jM_step_223 (fM_step_17 gu gv h_ i) gu gv h_ i)), (8, .int ((m_cool gu) ((24 * nI i + h_).toNatClampNeg))), (6, .long (jM_step_128 (fM_step_17 gu gv h_ i) gu gv h_ i)), (4, .long (jM_step_90 (fM_step_17 gu gv h_ i) gu gv h_ i)), (3, .int (jM_step_62 (fM_step_17 gu gv h_ i) gu gv h_ i)), (2, .int (nI i)), (0, .ref (am 0)), (1, .int h_)]) C dM_step_261 (by decide) rfl ?_
      refine kw_aload_n C 7 dM_step_263 rfl rfl ?_
      refine kw_get (v := .ref (am 2)) C 0 rfl rfl ku_M 3 (by decide) kt_559 rfl dM_step_264 ?_
      refine kw_iload_n C 6 dM_step_267 rfl rfl ?_
      refine kw_dup2_11 C dM_step_268 rfl rfl ?_
      refine kw_lald C 2 1 rfl rfl (kix_nI (by omega) (by decide)) dM_step_269 ?_
      refine kw_lload C 0 dM_step_270 rfl ?_
      refine kw_lsub C dM_step_272 ?_
      refine kw_last C 2 1 rfl rfl (kix_nI (by omega) (by decide)) dM_step_273 (wM_gv k am gu (vp_updL (vp_updL (m_heat (fM_step_17 gu gv h_ i)) i (((m_heat (fM_step_17 gu gv h_ i)) i) + (jM_step_128 (fM_step_17 gu gv h_ i) gu gv h_ i))) i (((vp_updL (m_heat (fM_step_17 gu gv h_ i)) i (((m_heat (fM_step_17 gu gv h_ i)) i) + (jM_step_128 (fM_step_17 gu gv h_ i) gu gv h_ i))) i) - (jM_step_261 (fM_step_17 gu gv h_ i) gu gv h_ i))) (m_uneasy (fM_step_17 gu gv h_ i)) (vp_updL (m_gave (fM_step_17 gu gv h_ i)) i (((m_gave (fM_step_17 gu gv h_ i)) i) + (jM_step_128 (fM_step_17 gu gv h_ i) gu gv h_ i))) (m_taken (fM_step_17 gu gv h_ i)) (vp_updL (m_greatest (fM_step_17 gu gv h_ i)) i (jM_step_180 (fM_step_17 gu gv h_ i) gu gv h_ i)) (m_now (fM_step_17 gu gv h_ i)) (m_bySun (fM_step_17 gu gv h_ i)) (m_byPersons (fM_step_17 gu gv h_ i)) (m_out (fM_step_17 gu gv h_ i)) (m_warmth (fM_step_17 gu gv h_ i)) (m_triedRoom (fM_step_17 gu gv h_ i)) (m_triedWarmth (fM_step_17 gu gv h_ i)) (m_triedFrom (fM_step_17 gu gv h_ i)) (m_wasLow (fM_step_17 gu gv h_ i)) (m_kept (fM_step_17 gu gv h_ i))) rfl ?_
      refine kw_aload_n C 7 dM_step_274 rfl rfl ?_
      refine kw_get (v := .ref (am 5)) C 0 rfl rfl ku_M 6 (by decide) kt_562 rfl dM_step_275 ?_
      refine kw_iload_n C 6 dM_step_278 rfl rfl ?_
      refine kw_dup2_11 C dM_step_279 rfl rfl ?_
      refine kw_lald C 5 1 rfl rfl (kix_nI (by omega) (by decide)) dM_step_280 ?_
      refine kw_lload C 0 dM_step_281 rfl ?_
      refine kw_ladd C dM_step_283 ?_
      refine kw_last C 5 1 rfl rfl (kix_nI (by omega) (by decide)) dM_step_284 (wM_gv k am gu (vp_updL (vp_updL (m_heat (fM_step_17 gu gv h_ i)) i (((m_heat (fM_step_17 gu gv h_ i)) i) + (jM_step_128 (fM_step_17 gu gv h_ i) gu gv h_ i))) i (((vp_updL (m_heat (fM_step_17 gu gv h_ i)) i (((m_heat (fM_step_17 gu gv h_ i)) i) + (jM_step_128 (fM_step_17 gu gv h_ i) gu gv h_ i))) i) - (jM_step_261 (fM_step_17 gu gv h_ i) gu gv h_ i))) (m_uneasy (fM_step_17 gu gv h_ i)) (vp_updL (m_gave (fM_step_17 gu gv h_ i)) i (((m_gave (fM_step_17 gu gv h_ i)) i) + (jM_step_128 (fM_step_17 gu gv h_ i) gu gv h_ i))) (vp_updL (m_taken (fM_step_17 gu gv h_ i)) i (((m_taken (fM_step_17 gu gv h_ i)) i) + (jM_step_261 (fM_step_17 gu gv h_ i) gu gv h_ i))) (vp_updL (m_greatest (fM_step_17 gu gv h_ i)) i (jM_step_180 (fM_step_17 gu gv h_ i) gu gv h_ i)) (m_now (fM_step_17 gu gv h_ i)) (m_bySun (fM_step_17 gu gv h_ i)) (m_byPersons (fM_step_17 gu gv h_ i)) (m_out (fM_step_17 gu gv h_ i)) (m_warmth (fM_step_17 gu gv h_ i)) (m_triedRoom (fM_step_17 gu gv h_ i)) (m_triedWarmth (fM_step_17 gu gv h_ i)) (m_triedFrom (fM_step_17 gu gv h_ i)) (m_wasLow (fM_step_17 gu gv h_ i)) (m_kept (fM_step_17 gu gv h_ i))) rfl ?_
      refine kw_iinc (v := nI (i + 1)) (lv' := [(2, .int (nI (i + 1))), (11, .long (jM_step_261 (fM_step_17 gu gv h_ i) gu gv h_ i)), (9, .long (jM_step_223 (fM_step_17 gu gv h_ i) gu gv h_ i)), (8, .int ((m_cool gu) ((24 * nI i + h_).toNatClampNeg))), (6, .long (jM_step_128 (fM_step_17 gu gv h_ i) gu gv h_ i)), (4, .long (jM_step_90 (fM_step_17 gu gv h_ i) gu gv h_ i)), (3, .int (jM_step_62 (fM_step_17 gu gv h_ i) gu gv h_ i)), (0, .ref (am 0)), (1, .int h_)]) C 6 dM_step_285 rfl (nI_1 i) (by decide) rfl ?_
      refine kw_goto (tgt := 17) C dM_step_288 (by decide) ?_
      refine kw_sub [0, 7, 8] rfl ?_
      refine kw_eq rfl rfl (mk_wM_gv.trans (congrArg (fun z90 => wM k am gu z90) ((show ((vp_updL (vp_updL (m_heat (fM_step_17 gu gv h_ i)) i (((m_heat (fM_step_17 gu gv h_ i)) i) + (jM_step_128 (fM_step_17 gu gv h_ i) gu gv h_ i))) i (((vp_updL (m_heat (fM_step_17 gu gv h_ i)) i (((m_heat (fM_step_17 gu gv h_ i)) i) + (jM_step_128 (fM_step_17 gu gv h_ i) gu gv h_ i))) i) - (jM_step_261 (fM_step_17 gu gv h_ i) gu gv h_ i))), (m_uneasy (fM_step_17 gu gv h_ i)), (vp_updL (m_gave (fM_step_17 gu gv h_ i)) i (((m_gave (fM_step_17 gu gv h_ i)) i) + (jM_step_128 (fM_step_17 gu gv h_ i) gu gv h_ i))), (vp_updL (m_taken (fM_step_17 gu gv h_ i)) i (((m_taken (fM_step_17 gu gv h_ i)) i) + (jM_step_261 (fM_step_17 gu gv h_ i) gu gv h_ i))), (vp_updL (m_greatest (fM_step_17 gu gv h_ i)) i (jM_step_180 (fM_step_17 gu gv h_ i) gu gv h_ i)), (m_now (fM_step_17 gu gv h_ i)), (m_bySun (fM_step_17 gu gv h_ i)), (m_byPersons (fM_step_17 gu gv h_ i)), (m_out (fM_step_17 gu gv h_ i)), (m_warmth (fM_step_17 gu gv h_ i)), (m_triedRoom (fM_step_17 gu gv h_ i)), (m_triedWarmth (fM_step_17 gu gv h_ i)), (m_triedFrom (fM_step_17 gu gv h_ i)), (m_wasLow (fM_step_17 gu gv h_ i)), (m_kept (fM_step_17 gu gv h_ i))) = (bM_step_17 (fM_step_17 gu gv h_ i) gu gv h_ i) from by unfold bM_step_17; rfl).trans (show (bM_step_17 (fM_step_17 gu gv h_ i) gu gv h_ i) = (fM_step_17 gu gv h_ (i + 1)) from rfl)))) ?_
      exact ih (i + 1) (by omega) (by omega)
noncomputable def jM_step_372 (z : MV) (gu : MU) (gv : MV) (h_ : Int32) (i : Nat) : Int32 := if ((m_persons gu) ((24 * nI i + h_).toNatClampNeg)) ≤ 0 then 0 else (if (lg_cmp (rM_warmthOf gu z (nI i)) ((m_low gu).toInt64)) < 0 then 1 else (if (lg_cmp (rM_warmthOf gu z (nI i)) ((m_high gu).toInt64)) ≤ 0 then 0 else 1))
noncomputable def jM_step_419 (z : MV) (gu : MU) (gv : MV) (h_ : Int32) (i : Nat) : Int32 := if (m_wasLow z) = 0 then (if (nI i) = (m_triedRoom z) then (if ((m_persons gu) ((24 * nI i + h_).toNatClampNeg)) ≤ 0 then 0 else (if 0 ≤ (lg_cmp (rM_warmthOf gu z (nI i)) ((m_low gu).toInt64)) then 0 else 1)) else 0) else 1
theorem kzn_jM_step_419 {z : MV} {gu : MU} {gv : MV} {h_ : Int32} {i : Nat} : narrow .boolean (.int (jM_step_419 z gu gv h_ i)) = .int (jM_step_419 z gu gv h_ i) := by
  unfold jM_step_419
  (repeat' split) <;> rfl
theorem kzf_jM_step_419 {z : MV} {gu : MU} {gv : MV} {h_ : Int32} {i : Nat} : fits .boolean (.int (jM_step_419 z gu gv h_ i)) = true := by
  unfold jM_step_419
  (repeat' split) <;> rfl
noncomputable def bM_step_312 (z : MV) (gu : MU) (gv : MV) (h_ : Int32) (i : Nat) : MV := ((m_heat z), (upd (m_uneasy z) i (((m_uneasy z) i) + (jM_step_372 z gu gv h_ i))), (m_gave z), (m_taken z), (m_greatest z), (m_now z), (m_bySun z), (m_byPersons z), (m_out z), (m_warmth z), (m_triedRoom z), (m_triedWarmth z), (m_triedFrom z), (jM_step_419 z gu gv h_ i), (m_kept z))
noncomputable def fM_step_312 (gu : MU) (gv : MV) (h_ : Int32) (n : Nat) : MV := Nat.rec (motive := fun _ => MV) gv (fun i z => bM_step_312 z gu gv h_ i) n
set_option maxRecDepth 100000 in
set_option maxHeartbeats 4000000 in
theorem lM_step_312 {l : Launch} {p : Program} {e : Env} {s : State} {m : MethodId} {args : Array Value} {below : List Frame} {meth : Method} {c0 : Code} {D : va_G} {A : Nat → Prop} {Q : State → Prop} (k : Nat → ClassId) (am : Nat → Nat) (gu : MU) (gv : MV) (h_ : Int32) (hI : mInv gu) (hh : vp_in h_ 24) (C : kC p s m args c0 bM_step "RoomHoursModel" kT D kcl (kty k) A 13) (kk : kW p l e ({ frames := 3, cells := 0, slots := 0, locals := 71 }) s m args below meth c0 D kcl A 13 0 0 Q 428 [(2, .int (nI (mnR gu))), (0, .ref (am 0)), (1, .int h_)] [] (wM k am gu (fM_step_312 gu gv h_ (mnR gu)))) : ∀ (n i : Nat), i ≤ mnR gu → mnR gu < i + n → kW p l e ({ frames := 3, cells := 0, slots := 0, locals := 71 }) s m args below meth c0 D kcl A 13 0 0 Q 312 [(2, .int (nI i)), (0, .ref (am 0)), (1, .int h_)] [] (wM k am gu (fM_step_312 gu gv h_ i)) := by
  intro n
  induction n with
  | zero => exact fun i h1 h2 => absurd h2 (by omega)
  | succ n ih =>
    intro i hi hin
    have hb8 := hI.1.2
    refine kw_iload_n C 0 dM_step_312 rfl rfl ?_
    refine kw_aload_n C 1 dM_step_313 rfl rfl ?_
    refine kw_get (v := .int (m_rooms gu)) C 0 rfl rfl ku_M 1 (by decide) kt_557 rfl dM_step_314 ?_
    refine kw_icmp_ge (tgt := 428) C dM_step_317 (by decide) (fun c_1 => ?_) (fun c_1 => ?_)
    · skip
      have e9 : i = mnR gu := klp1 hI.1.1 (by omega) hi c_1
      subst e9
      refine kw_sub [0, 1, 2] rfl ?_
      exact kk
    · skip
      have hlt : i < mnR gu := klp2 hI.1.1 (by omega) c_1
      refine kw_aload_n C 1 dM_step_320 rfl rfl ?_
      refine kw_iload_n C 0 dM_step_321 rfl rfl ?_
      refine kw_callAl (w1 := (wM k am gu (fM_step_312 gu gv h_ i))) (st := []) C (cM_warmthOf l D k am gu (fM_step_312 gu gv h_ i) (nI i) hI (vp_in_nI hlt (by omega))) (cwV 1 C.1.2.2.2.2 (kgV kt_737 kt_739 ks_M_warmthOf kt_5 kt_740) rfl rfl rfl kdM_warmthOf ⟨Nat.le_of_ble_eq_true rfl, Nat.le_of_ble_eq_true rfl⟩) 0 3 rfl rfl rfl rfl rfl (Nat.le_of_ble_eq_true rfl) dM_step_322 ⟨Nat.zero_le _, Nat.zero_le _⟩ (ad_wM.trans ad_wM.symm) ?_
      refine kw_lstore_n (lv' := [(3, .long (rM_warmthOf gu (fM_step_312 gu gv h_ i) (nI i))), (2, .int (nI i)), (0, .ref (am 0)), (1, .int h_)]) C dM_step_325 rfl (by decide) rfl ?_
      refine kw_aload_n C 2 dM_step_326 rfl rfl ?_
      refine kw_get (v := .ref (am 3)) C 0 rfl rfl ku_M 4 (by decide) kt_560 rfl dM_step_327 ?_
      refine kw_iload_n C 1 dM_step_330 rfl rfl ?_
      refine kw_dup2_11 C dM_step_331 rfl rfl ?_
      refine kw_iald C 3 0 rfl rfl (kix_nI (by omega) (by decide)) dM_step_332 ?_
      refine kw_join (pc' := 372) (lv' := [(3, .long (rM_warmthOf gu (fM_step_312 gu gv h_ i) (nI i))), (2, .int (nI i)), (0, .ref (am 0)), (1, .int h_)]) (st' := [.int (jM_step_372 (fM_step_312 gu gv h_ i) gu gv h_ i), .int ((m_uneasy (fM_step_312 gu gv h_ i)) i), .int (nI i), .ref (am 3)]) (ws' := (wM k am gu (fM_step_312 gu gv h_ i))) (fun J_ => ?_) ?_
      · skip
        refine kw_aload_n C 2 dM_step_333 rfl rfl ?_
        refine kw_get (v := .ref (am 18)) C 0 rfl rfl ku_M 22 (by decide) kt_578 rfl dM_step_334 ?_
        refine kw_bipush (v := 24) C dM_step_337 (by decide) ?_
        refine kw_iload_n C 1 dM_step_339 rfl rfl ?_
        refine kw_imul C dM_step_340 ?_
        refine kw_iload_n C 3 dM_step_341 rfl rfl ?_
        refine kw_iadd C dM_step_342 ?_
        refine kw_iald C 18 0 rfl rfl (kix_of (kplanM (vp_in_nI (by omega) (by decide)) hh)) dM_step_343 ?_
        refine kw_if_le (tgt := 371) C dM_step_344 (by decide) (fun c_2 => ?_) (fun c_2 => ?_)
        · skip
          refine kw_iconst (v := 0) C dM_step_371 (by decide) ?_
          refine kw_eq rfl (show ([.int 0, .int ((m_uneasy (fM_step_312 gu gv h_ i)) i), .int (nI i), .ref (am 3)] : List Value) = [.int (jM_step_372 (fM_step_312 gu gv h_ i) gu gv h_ i), .int ((m_uneasy (fM_step_312 gu gv h_ i)) i), .int (nI i), .ref (am 3)] from by unfold jM_step_372; rw [if_pos c_2]) rfl ?_
          exact J_
        · skip
          refine kw_lload_n C 0 dM_step_347 rfl rfl ?_
          refine kw_aload_n C 2 dM_step_348 rfl rfl ?_
          refine kw_get (v := .int (m_low gu)) C 0 rfl rfl ku_M 25 (by decide) kt_581 rfl dM_step_349 ?_
          refine kw_i2l C dM_step_352 ?_
          refine kw_lcmp C dM_step_353 ?_
          refine kw_if_lt (tgt := 367) C dM_step_354 (by decide) (fun c_3 => ?_) (fun c_3 => ?_)
          · skip
            refine kw_iconst (v := 1) C dM_step_367 (by decide) ?_
            refine kw_goto (tgt := 372) C dM_step_368 (by decide) ?_
            refine kw_eq rfl (show ([.int 1, .int ((m_uneasy (fM_step_312 gu gv h_ i)) i), .int (nI i), .ref (am 3)] : List Value) = [.int (jM_step_372 (fM_step_312 gu gv h_ i) gu gv h_ i), .int ((m_uneasy (fM_step_312 gu gv h_ i)) i), .int (nI i), .ref (am 3)] from by unfold jM_step_372; rw [if_neg c_2, if_pos c_3]) rfl ?_
            exact J_
          · skip
            refine kw_lload_n C 0 dM_step_357 rfl rfl ?_
            refine kw_aload_n C 2 dM_step_358 rfl rfl ?_
            refine kw_get (v := .int (m_high gu)) C 0 rfl rfl ku_M 26 (by decide) kt_582 rfl dM_step_359 ?_
            refine kw_i2l C dM_step_362 ?_
            refine kw_lcmp C dM_step_363 ?_
            refine kw_if_le (tgt := 371) C dM_step_364 (by decide) (fun c_4 => ?_) (fun c_4 => ?_)
            · skip
              refine kw_iconst (v := 0) C dM_step_371 (by decide) ?_
              refine kw_eq rfl (show ([.int 0, .int ((m_uneasy (fM_step_312 gu gv h_ i)) i), .int (nI i), .ref (am 3)] : List Value) = [.int (jM_step_372 (fM_step_312 gu gv h_ i) gu gv h_ i), .int ((m_uneasy (fM_step_312 gu gv h_ i)) i), .int (nI i), .ref (am 3)] from by unfold jM_step_372; rw [if_neg c_2, if_neg c_3, if_pos c_4]) rfl ?_
              exact J_
            · skip
              refine kw_iconst (v := 1) C dM_step_367 (by decide) ?_
              refine kw_goto (tgt := 372) C dM_step_368 (by decide) ?_
              refine kw_eq rfl (show ([.int 1, .int ((m_uneasy (fM_step_312 gu gv h_ i)) i), .int (nI i), .ref (am 3)] : List Value) = [.int (jM_step_372 (fM_step_312 gu gv h_ i) gu gv h_ i), .int ((m_uneasy (fM_step_312 gu gv h_ i)) i), .int (nI i), .ref (am 3)] from by unfold jM_step_372; rw [if_neg c_2, if_neg c_3, if_neg c_4]) rfl ?_
              exact J_
      refine kw_iadd C dM_step_372 ?_
      refine kw_iast C 3 0 rfl rfl (kix_nI (by omega) (by decide)) dM_step_373 (wM_gv k am gu (m_heat (fM_step_312 gu gv h_ i)) (upd (m_uneasy (fM_step_312 gu gv h_ i)) i (((m_uneasy (fM_step_312 gu gv h_ i)) i) + (jM_step_372 (fM_step_312 gu gv h_ i) gu gv h_ i))) (m_gave (fM_step_312 gu gv h_ i)) (m_taken (fM_step_312 gu gv h_ i)) (m_greatest (fM_step_312 gu gv h_ i)) (m_now (fM_step_312 gu gv h_ i)) (m_bySun (fM_step_312 gu gv h_ i)) (m_byPersons (fM_step_312 gu gv h_ i)) (m_out (fM_step_312 gu gv h_ i)) (m_warmth (fM_step_312 gu gv h_ i)) (m_triedRoom (fM_step_312 gu gv h_ i)) (m_triedWarmth (fM_step_312 gu gv h_ i)) (m_triedFrom (fM_step_312 gu gv h_ i)) (m_wasLow (fM_step_312 gu gv h_ i)) (m_kept (fM_step_312 gu gv h_ i))) rfl ?_
      refine kw_aload_n C 2 dM_step_374 rfl rfl ?_
      refine kw_join (pc' := 419) (lv' := [(3, .long (rM_warmthOf gu (fM_step_312 gu gv h_ i) (nI i))), (2, .int (nI i)), (0, .ref (am 0)), (1, .int h_)]) (st' := [.int (jM_step_419 (fM_step_312 gu gv h_ i) gu gv h_ i), .ref (am 0)]) (ws' := (wM_gv k am gu (m_heat (fM_step_312 gu gv h_ i)) (upd (m_uneasy (fM_step_312 gu gv h_ i)) i (((m_uneasy (fM_step_312 gu gv h_ i)) i) + (jM_step_372 (fM_step_312 gu gv h_ i) gu gv h_ i))) (m_gave (fM_step_312 gu gv h_ i)) (m_taken (fM_step_312 gu gv h_ i)) (m_greatest (fM_step_312 gu gv h_ i)) (m_now (fM_step_312 gu gv h_ i)) (m_bySun (fM_step_312 gu gv h_ i)) (m_byPersons (fM_step_312 gu gv h_ i)) (m_out (fM_step_312 gu gv h_ i)) (m_warmth (fM_step_312 gu gv h_ i)) (m_triedRoom (fM_step_312 gu gv h_ i)) (m_triedWarmth (fM_step_312 gu gv h_ i)) (m_triedFrom (fM_step_312 gu gv h_ i)) (m_wasLow (fM_step_312 gu gv h_ i)) (m_kept (fM_step_312 gu gv h_ i)))) (fun J_ => ?_) ?_
      · skip
        refine kw_aload_n C 2 dM_step_375 rfl rfl ?_
        refine kw_get (v := .int (m_wasLow (fM_step_312 gu gv h_ i))) C 0 rfl rfl ku_M 35 (by decide) kt_591 rfl dM_step_376 ?_
        refine kw_if_ne (tgt := 414) C dM_step_379 (by decide) (fun c_5 => ?_) (fun c_5 => ?_)
        · skip
          refine kw_iconst (v := 1) C dM_step_414 (by decide) ?_
          refine kw_goto (tgt := 419) C dM_step_415 (by decide) ?_
          refine kw_eq rfl (show ([.int 1, .ref (am 0)] : List Value) = [.int (jM_step_419 (fM_step_312 gu gv h_ i) gu gv h_ i), .ref (am 0)] from by unfold jM_step_419; rw [if_neg c_5]) rfl ?_
          exact J_
        · skip
          refine kw_iload_n C 1 dM_step_382 rfl rfl ?_
          refine kw_aload_n C 2 dM_step_383 rfl rfl ?_
          refine kw_get (v := .int (m_triedRoom (fM_step_312 gu gv h_ i))) C 0 rfl rfl ku_M 32 (by decide) kt_588 rfl dM_step_384 ?_
          refine kw_icmp_ne (tgt := 418) C dM_step_387 (by decide) (fun c_6 => ?_) (fun c_6 => ?_)
          · skip
            refine kw_iconst (v := 0) C dM_step_418 (by decide) ?_
            refine kw_eq rfl (show ([.int 0, .ref (am 0)] : List Value) = [.int (jM_step_419 (fM_step_312 gu gv h_ i) gu gv h_ i), .ref (am 0)] from by unfold jM_step_419; rw [if_pos c_5, if_neg c_6]) rfl ?_
            exact J_
          · skip
            refine kw_aload_n C 2 dM_step_390 rfl rfl ?_
            refine kw_get (v := .ref (am 18)) C 0 rfl rfl ku_M 22 (by decide) kt_578 rfl dM_step_391 ?_
            refine kw_bipush (v := 24) C dM_step_394 (by decide) ?_
            refine kw_iload_n C 1 dM_step_396 rfl rfl ?_
            refine kw_imul C dM_step_397 ?_
            refine kw_iload_n C 3 dM_step_398 rfl rfl ?_
            refine kw_iadd C dM_step_399 ?_
            refine kw_iald C 18 0 rfl rfl (kix_of (kplanM (vp_in_nI (by omega) (by decide)) hh)) dM_step_400 ?_
            refine kw_if_le (tgt := 418) C dM_step_401 (by decide) (fun c_7 => ?_) (fun c_7 => ?_)
            · skip
              refine kw_iconst (v := 0) C dM_step_418 (by decide) ?_
              refine kw_eq rfl (show ([.int 0, .ref (am 0)] : List Value) = [.int (jM_step_419 (fM_step_312 gu gv h_ i) gu gv h_ i), .ref (am 0)] from by unfold jM_step_419; rw [if_pos c_5, if_pos c_6, if_pos c_7]) rfl ?_
              exact J_
            · skip
              refine kw_lload_n C 0 dM_step_404 rfl rfl ?_
              refine kw_aload_n C 2 dM_step_405 rfl rfl ?_
              refine kw_get (v := .int (m_low gu)) C 0 rfl rfl ku_M 25 (by decide) kt_581 rfl dM_step_406 ?_
              refine kw_i2l C dM_step_409 ?_
              refine kw_lcmp C dM_step_410 ?_
              refine kw_if_ge (tgt := 418) C dM_step_411 (by decide) (fun c_8 => ?_) (fun c_8 => ?_)
              · skip
                refine kw_iconst (v := 0) C dM_step_418 (by decide) ?_
                refine kw_eq rfl (show ([.int 0, .ref (am 0)] : List Value) = [.int (jM_step_419 (fM_step_312 gu gv h_ i) gu gv h_ i), .ref (am 0)] from by unfold jM_step_419; rw [if_pos c_5, if_pos c_6, if_neg c_7, if_pos c_8]) rfl ?_
                exact J_
              · skip
                refine kw_iconst (v := 1) C dM_step_414 (by decide) ?_
                refine kw_goto (tgt := 419) C dM_step_415 (by decide) ?_
                refine kw_eq rfl (show ([.int 1, .ref (am 0)] : List Value) = [.int (jM_step_419 (fM_step_312 gu gv h_ i) gu gv h_ i), .ref (am 0)] from by unfold jM_step_419; rw [if_pos c_5, if_pos c_6, if_neg c_7, if_neg c_8]) rfl ?_
                exact J_
      refine kw_put C 0 rfl rfl ku_M tM_ok nM 35 (by decide) kt_591 rfl (ty := .boolean) (by decide +kernel) kzn_jM_step_419 kzf_jM_step_419 (Nat.le_of_ble_eq_true rfl) dM_step_419 (wM_gv k am gu (m_heat (fM_step_312 gu gv h_ i)) (upd (m_uneasy (fM_step_312 gu gv h_ i)) i (((m_uneasy (fM_step_312 gu gv h_ i)) i) + (jM_step_372 (fM_step_312 gu gv h_ i) gu gv h_ i))) (m_gave (fM_step_312 gu gv h_ i)) (m_taken (fM_step_312 gu gv h_ i)) (m_greatest (fM_step_312 gu gv h_ i)) (m_now (fM_step_312 gu gv h_ i)) (m_bySun (fM_step_312 gu gv h_ i)) (m_byPersons (fM_step_312 gu gv h_ i)) (m_out (fM_step_312 gu gv h_ i)) (m_warmth (fM_step_312 gu gv h_ i)) (m_triedRoom (fM_step_312 gu gv h_ i)) (m_triedWarmth (fM_step_312 gu gv h_ i)) (m_triedFrom (fM_step_312 gu gv h_ i)) (jM_step_419 (fM_step_312 gu gv h_ i) gu gv h_ i) (m_kept (fM_step_312 gu gv h_ i))) rfl ?_
      refine kw_iinc (v := nI (i + 1)) (lv' := [(2, .int (nI (i + 1))), (3, .long (rM_warmthOf gu (fM_step_312 gu gv h_ i) (nI i))), (0, .ref (am 0)), (1, .int h_)]) C 1 dM_step_422 rfl (nI_1 i) (by decide) rfl ?_
      refine kw_goto (tgt := 312) C dM_step_425 (by decide) ?_
      refine kw_sub [0, 2, 3] rfl ?_
      refine kw_eq rfl rfl (mk_wM_gv.trans (congrArg (fun z90 => wM k am gu z90) ((show ((m_heat (fM_step_312 gu gv h_ i)), (upd (m_uneasy (fM_step_312 gu gv h_ i)) i (((m_uneasy (fM_step_312 gu gv h_ i)) i) + (jM_step_372 (fM_step_312 gu gv h_ i) gu gv h_ i))), (m_gave (fM_step_312 gu gv h_ i)), (m_taken (fM_step_312 gu gv h_ i)), (m_greatest (fM_step_312 gu gv h_ i)), (m_now (fM_step_312 gu gv h_ i)), (m_bySun (fM_step_312 gu gv h_ i)), (m_byPersons (fM_step_312 gu gv h_ i)), (m_out (fM_step_312 gu gv h_ i)), (m_warmth (fM_step_312 gu gv h_ i)), (m_triedRoom (fM_step_312 gu gv h_ i)), (m_triedWarmth (fM_step_312 gu gv h_ i)), (m_triedFrom (fM_step_312 gu gv h_ i)), (jM_step_419 (fM_step_312 gu gv h_ i) gu gv h_ i), (m_kept (fM_step_312 gu gv h_ i))) = (bM_step_312 (fM_step_312 gu gv h_ i) gu gv h_ i) from by unfold bM_step_312; rfl).trans (show (bM_step_312 (fM_step_312 gu gv h_ i) gu gv h_ i) = (fM_step_312 gu gv h_ (i + 1)) from rfl)))) ?_
      exact ih (i + 1) (by omega) (by omega)
noncomputable def sgvM_step_z (z1 : MV) (gu : MU) (gv : MV) : MV := if (((m_now z1) + 1) - ((m_now z1) + 1) / 4 * 4) = 0 then (fM_step_312 gu ((m_heat z1), (m_uneasy z1), (m_gave z1), (m_taken z1), (m_greatest z1), ((m_now z1) + 1), (m_bySun z1), (m_byPersons z1), (m_out z1), (m_warmth z1), (m_triedRoom z1), (m_triedWarmth z1), (m_triedFrom z1), (m_wasLow z1), (m_kept z1)) (((m_now gv) / 4) - ((m_now gv) / 4) / 24 * 24) (mnR gu)) else ((m_heat z1), (m_uneasy z1), (m_gave z1), (m_taken z1), (m_greatest z1), ((m_now z1) + 1), (m_bySun z1), (m_byPersons z1), (m_out z1), (m_warmth z1), (m_triedRoom z1), (m_triedWarmth z1), (m_triedFrom z1), (m_wasLow z1), (m_kept z1))
noncomputable def sgvM_step (gu : MU) (gv : MV) : MV := sgvM_step_z (fM_step_17 gu (sgvM_flows gu gv (((m_now gv) / 4) - ((m_now gv) / 4) / 24 * 24)) (((m_now gv) / 4) - ((m_now gv) / 4) / 24 * 24) (mnR gu)) gu gv
set_option maxRecDepth 100000 in
set_option maxHeartbeats 4000000 in
theorem cM_step (l : Launch) (D : va_G) (k : Nat → ClassId) (am : Nat → Nat) (gu : MU) (gv : MV)  (hI : mInv gu) (ho : ¬ m_now gv < 0) : kMv l yM_step (kwm yM_step bM_step 13 none) ({ frames := 3, cells := 0, slots := 0, locals := 71 }) D kcl (kty k) (wM k am gu gv) (wM k am gu (sgvM_step gu gv)) [.ref (am 0)] := by
  refine k_entry_v (lv0 := [(0, .ref (am 0))]) rfl (by decide +kernel) (Nat.le_of_ble_eq_true rfl) rfl ?_
  intro p e s m args below meth c0 C hr hlocks
  have hb8 := hI.1.2
  refine kw_aload_n C 0 dM_step_0 rfl rfl ?_
  refine kw_get (v := .int (m_now gv)) C 0 rfl rfl ku_M 27 (by decide) kt_583 rfl dM_step_1 ?_
  refine kw_iconst (v := 4) C dM_step_4 (by decide) ?_
  refine kw_idiv C dM_step_5 (by decide) ?_
  refine kw_bipush (v := 24) C dM_step_6 (by decide) ?_
  refine kw_irem C dM_step_8 (by decide) ?_
  refine kw_istore_n (lv' := [(1, .int (((m_now gv) / 4) - ((m_now gv) / 4) / 24 * 24)), (0, .ref (am 0))]) C dM_step_9 rfl (by decide) rfl ?_
  refine kw_aload_n C 1 dM_step_10 rfl rfl ?_
  refine kw_iload_n C 0 dM_step_11 rfl rfl ?_
  refine kw_callAv (w1 := (wM k am gu (sgvM_flows gu gv (((m_now gv) / 4) - ((m_now gv) / 4) / 24 * 24)))) (st := []) C (cM_flows l D k am gu gv (((m_now gv) / 4) - ((m_now gv) / 4) / 24 * 24) hI (khourM ho)) (cwV 1 C.1.2.2.2.2 (kgV kt_733 kt_735 ks_M_flows kt_5 kt_736) rfl rfl rfl kdM_flows ⟨Nat.le_of_ble_eq_true rfl, Nat.le_of_ble_eq_true rfl⟩) 0 3 rfl rfl rfl rfl rfl (Nat.le_of_ble_eq_true rfl) dM_step_12 ⟨Nat.zero_le _, Nat.zero_le _⟩ (ad_wM.trans ad_wM.symm) ?_
  refine kw_iconst (v := 0) C dM_step_15 (by decide) ?_
  refine kw_istore_n (lv' := [(2, .int 0), (1, .int (((m_now gv) / 4) - ((m_now gv) / 4) / 24 * 24)), (0, .ref (am 0))]) C dM_step_16 rfl (by decide) rfl ?_
  refine kw_sub [0, 2, 1] rfl ?_
  refine lM_step_17 k am gu (sgvM_flows gu gv (((m_now gv) / 4) - ((m_now gv) / 4) / 24 * 24)) (((m_now gv) / 4) - ((m_now gv) / 4) / 24 * 24) hI (khourM ho) C ?_ (mnR gu + 1) 0 (Nat.zero_le _) (by omega)
  generalize ez1 : (fM_step_17 gu (sgvM_flows gu gv (((m_now gv) / 4) - ((m_now gv) / 4) / 24 * 24)) (((m_now gv) / 4) - ((m_now gv) / 4) / 24 * 24) (mnR gu)) = z1
  refine kw_aload_n C 1 dM_step_291 rfl rfl ?_
  refine kw_dup C dM_step_292 rfl ?_
  refine kw_get (v := .int (m_now z1)) C 0 rfl rfl ku_M 27 (by decide) kt_583 rfl dM_step_293 ?_
  refine kw_iconst (v := 1) C dM_step_296 (by decide) ?_
  refine kw_iadd C dM_step_297 ?_
  refine kw_put C 0 rfl rfl ku_M tM_ok nM 27 (by decide) kt_583 rfl (ty := .int) (by decide +kernel) rfl rfl (Nat.le_of_ble_eq_true rfl) dM_step_298 (wM_gv k am gu (m_heat z1) (m_uneasy z1) (m_gave z1) (m_taken z1) (m_greatest z1) ((m_now z1) + 1) (m_bySun z1) (m_byPersons z1) (m_out z1) (m_warmth z1) (m_triedRoom z1) (m_triedWarmth z1) (m_triedFrom z1) (m_wasLow z1) (m_kept z1)) rfl ?_
  refine kw_aload_n C 1 dM_step_301 rfl rfl ?_
  refine kw_get (v := .int ((m_now z1) + 1)) C 0 rfl rfl ku_M 27 (by decide) kt_583 rfl dM_step_302 ?_
  refine kw_iconst (v := 4) C dM_step_305 (by decide) ?_
  refine kw_irem C dM_step_306 (by decide) ?_
  refine kw_if_ne (tgt := 428) C dM_step_307 (by decide) (fun c_1 => ?_) (fun c_1 => ?_)
  · skip
    refine kw_eq rfl rfl (mk_wM_gv.trans (congrArg (fun z90 => wM k am gu z90) ((show ((m_heat z1), (m_uneasy z1), (m_gave z1), (m_taken z1), (m_greatest z1), ((m_now z1) + 1), (m_bySun z1), (m_byPersons z1), (m_out z1), (m_warmth z1), (m_triedRoom z1), (m_triedWarmth z1), (m_triedFrom z1), (m_wasLow z1), (m_kept z1)) = sgvM_step_z z1 gu gv from by unfold sgvM_step_z; rw [if_neg c_1]).trans (show sgvM_step_z z1 gu gv = sgvM_step gu gv from by rw [← ez1]; rfl)))) ?_
    exact kw_vret C hr hlocks dM_step_428
  · skip
    refine kw_iconst (v := 0) C dM_step_310 (by decide) ?_
    refine kw_istore_n (lv' := [(2, .int 0), (0, .ref (am 0)), (1, .int (((m_now gv) / 4) - ((m_now gv) / 4) / 24 * 24))]) C dM_step_311 rfl (by decide) rfl ?_
    refine kw_eq rfl rfl mk_wM_gv ?_
    refine kw_sub [0, 1, 2] rfl ?_
    refine lM_step_312 k am gu ((m_heat z1), (m_uneasy z1), (m_gave z1), (m_taken z1), (m_greatest z1), ((m_now z1) + 1), (m_bySun z1), (m_byPersons z1), (m_out z1), (m_warmth z1), (m_triedRoom z1), (m_triedWarmth z1), (m_triedFrom z1), (m_wasLow z1), (m_kept z1)) (((m_now gv) / 4) - ((m_now gv) / 4) / 24 * 24) hI (khourM ho) C ?_ (mnR gu + 1) 0 (Nat.zero_le _) (by omega)
    refine kw_eq rfl rfl ((congrArg (fun z90 => wM k am gu z90) ((show (fM_step_312 gu ((m_heat z1), (m_uneasy z1), (m_gave z1), (m_taken z1), (m_greatest z1), ((m_now z1) + 1), (m_bySun z1), (m_byPersons z1), (m_out z1), (m_warmth z1), (m_triedRoom z1), (m_triedWarmth z1), (m_triedFrom z1), (m_wasLow z1), (m_kept z1)) (((m_now gv) / 4) - ((m_now gv) / 4) / 24 * 24) (mnR gu)) = sgvM_step_z z1 gu gv from by unfold sgvM_step_z; rw [if_pos c_1]).trans (show sgvM_step_z z1 gu gv = sgvM_step gu gv from by rw [← ez1]; rfl)))) ?_
    exact kw_vret C hr hlocks dM_step_428
