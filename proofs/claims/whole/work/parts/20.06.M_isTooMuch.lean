noncomputable def bM_isTooMuch_6 (z : Int64) (gu : MU) (gv : MV) (r : Int32) (more : Int32) (i : Nat) : Int64 := if ((m_wallRoom gu) i) = r then z + (((m_leads gu) i).toInt64) else (if ((m_wallOther gu) i) = r then z + (((m_leads gu) i).toInt64) else z + 0)
noncomputable def fM_isTooMuch_6 (gu : MU) (gv : MV) (r : Int32) (more : Int32) (n : Nat) : Int64 := Nat.rec (motive := fun _ => Int64) more.toInt64 (fun i z => bM_isTooMuch_6 z gu gv r more i) n
set_option maxRecDepth 100000 in
set_option maxHeartbeats 4000000 in
theorem lM_isTooMuch_6 {l : Launch} {p : Program} {e : Env} {s : State} {m : MethodId} {args : Array Value} {below : List Frame} {meth : Method} {c0 : Code} {D : va_G} {A : Nat → Prop} {Q : State → Prop} (k : Nat → ClassId) (am : Nat → Nat) (gu : MU) (gv : MV) (r : Int32) (more : Int32) (hI : mInv gu) (hri : r < 0 ∨ vp_in r 8) (C : kC p s m args c0 bM_isTooMuch "RoomHoursModel" kT D kcl (kty k) A 6) (kk : kW p l e ({ frames := 0, cells := 0, slots := 0, locals := 0 }) s m args below meth c0 D kcl A 6 0 0 Q 58 [(5, .int (nI (mnW gu))), (0, .ref (am 0)), (1, .int r), (2, .int more), (3, .long (fM_isTooMuch_6 gu gv r more (mnW gu)))] [] (wM k am gu gv)) : ∀ (n i : Nat), i ≤ mnW gu → mnW gu < i + n → kW p l e ({ frames := 0, cells := 0, slots := 0, locals := 0 }) s m args below meth c0 D kcl A 6 0 0 Q 6 [(5, .int (nI i)), (0, .ref (am 0)), (1, .int r), (2, .int more), (3, .long (fM_isTooMuch_6 gu gv r more i))] [] (wM k am gu gv) := by
  intro n
  induction n with
  | zero => exact fun i h1 h2 => absurd h2 (by omega)
  | succ n ih =>
    intro i hi hin
    have hb8 := hI.2.1.2
    refine kw_iload C 0 dM_isTooMuch_6 rfl ?_
    refine kw_aload_n C 1 dM_isTooMuch_8 rfl rfl ?_
    refine kw_get (v := .int (m_walls gu)) C 0 rfl rfl ku_M 11 (by decide) kt_567 rfl dM_isTooMuch_9 ?_
    refine kw_icmp_ge (tgt := 58) C dM_isTooMuch_12 (by decide) (fun c_1 => ?_) (fun c_1 => ?_)
    · skip
      have e9 : i = mnW gu := klp1 hI.2.1.1 (by omega) hi c_1
      subst e9
      refine kw_sub [0, 1, 2, 3, 4] rfl ?_
      exact kk
    · skip
      have hlt : i < mnW gu := klp2 hI.2.1.1 (by omega) c_1
      refine kw_lload_n C 4 dM_isTooMuch_15 rfl rfl ?_
      refine kw_aload_n C 1 dM_isTooMuch_16 rfl rfl ?_
      refine kw_get (v := .ref (am 9)) C 0 rfl rfl ku_M 12 (by decide) kt_568 rfl dM_isTooMuch_17 ?_
      refine kw_iload C 0 dM_isTooMuch_20 rfl ?_
      refine kw_iald C 9 0 rfl rfl (kix_nI (by omega) (by decide)) dM_isTooMuch_22 ?_
      refine kw_iload_n C 2 dM_isTooMuch_23 rfl rfl ?_
      refine kw_icmp_eq (tgt := 38) C dM_isTooMuch_24 (by decide) (fun c_2 => ?_) (fun c_2 => ?_)
      · skip
        refine kw_aload_n C 1 dM_isTooMuch_38 rfl rfl ?_
        refine kw_get (v := .ref (am 11)) C 0 rfl rfl ku_M 14 (by decide) kt_570 rfl dM_isTooMuch_39 ?_
        refine kw_iload C 0 dM_isTooMuch_42 rfl ?_
        refine kw_iald C 11 0 rfl rfl (kix_nI (by omega) (by decide)) dM_isTooMuch_44 ?_
        refine kw_i2l C dM_isTooMuch_45 ?_
        refine kw_goto (tgt := 50) C dM_isTooMuch_46 (by decide) ?_
        refine kw_ladd C dM_isTooMuch_50 ?_
        refine kw_lstore_n (lv' := [(3, .long ((fM_isTooMuch_6 gu gv r more i) + (((m_leads gu) i).toInt64))), (5, .int (nI i)), (0, .ref (am 0)), (1, .int r), (2, .int more)]) C dM_isTooMuch_51 rfl (by decide) rfl ?_
        refine kw_iinc (v := nI (i + 1)) (lv' := [(5, .int (nI (i + 1))), (3, .long ((fM_isTooMuch_6 gu gv r more i) + (((m_leads gu) i).toInt64))), (0, .ref (am 0)), (1, .int r), (2, .int more)]) C 1 dM_isTooMuch_52 rfl (nI_1 i) (by decide) rfl ?_
        refine kw_goto (tgt := 6) C dM_isTooMuch_55 (by decide) ?_
        refine kw_sub [0, 2, 3, 4, 1] rfl ?_
        refine kw_eq (show ([(5, .int (nI (i + 1))), (0, .ref (am 0)), (1, .int r), (2, .int more), (3, .long ((fM_isTooMuch_6 gu gv r more i) + (((m_leads gu) i).toInt64)))] : List (Nat × Value)) = [(5, .int (nI (i + 1))), (0, .ref (am 0)), (1, .int r), (2, .int more), (3, .long (fM_isTooMuch_6 gu gv r more (i + 1)))] from by show ([(5, .int (nI (i + 1))), (0, .ref (am 0)), (1, .int r), (2, .int more), (3, .long ((fM_isTooMuch_6 gu gv r more i) + (((m_leads gu) i).toInt64)))] : List (Nat × Value)) = [(5, .int (nI (i + 1))), (0, .ref (am 0)), (1, .int r), (2, .int more), (3, .long (bM_isTooMuch_6 (fM_isTooMuch_6 gu gv r more i) gu gv r more i))]; unfold bM_isTooMuch_6; first | rw [if_pos c_2] | simp only [if_pos c_2]) rfl rfl ?_
        exact ih (i + 1) (by omega) (by omega)
      · skip
        refine kw_aload_n C 1 dM_isTooMuch_27 rfl rfl ?_
        refine kw_get (v := .ref (am 10)) C 0 rfl rfl ku_M 13 (by decide) kt_569 rfl dM_isTooMuch_28 ?_
        refine kw_iload C 0 dM_isTooMuch_31 rfl ?_
        refine kw_iald C 10 0 rfl rfl (kix_nI (by omega) (by decide)) dM_isTooMuch_33 ?_
        refine kw_iload_n C 2 dM_isTooMuch_34 rfl rfl ?_
        refine kw_icmp_ne (tgt := 49) C dM_isTooMuch_35 (by decide) (fun c_3 => ?_) (fun c_3 => ?_)
        · skip
          refine kw_lconst (v := 0) C dM_isTooMuch_49 (by decide) ?_
          refine kw_ladd C dM_isTooMuch_50 ?_
          refine kw_lstore_n (lv' := [(3, .long ((fM_isTooMuch_6 gu gv r more i) + 0)), (5, .int (nI i)), (0, .ref (am 0)), (1, .int r), (2, .int more)]) C dM_isTooMuch_51 rfl (by decide) rfl ?_
          refine kw_iinc (v := nI (i + 1)) (lv' := [(5, .int (nI (i + 1))), (3, .long ((fM_isTooMuch_6 gu gv r more i) + 0)), (0, .ref (am 0)), (1, .int r), (2, .int more)]) C 1 dM_isTooMuch_52 rfl (nI_1 i) (by decide) rfl ?_
          refine kw_goto (tgt := 6) C dM_isTooMuch_55 (by decide) ?_
          refine kw_sub [0, 2, 3, 4, 1] rfl ?_
          refine kw_eq (show ([(5, .int (nI (i + 1))), (0, .ref (am 0)), (1, .int r), (2, .int more), (3, .long ((fM_isTooMuch_6 gu gv r more i) + 0))] : List (Nat × Value)) = [(5, .int (nI (i + 1))), (0, .ref (am 0)), (1, .int r), (2, .int more), (3, .long (fM_isTooMuch_6 gu gv r more (i + 1)))] from by show ([(5, .int (nI (i + 1))), (0, .ref (am 0)), (1, .int r), (2, .int more), (3, .long ((fM_isTooMuch_6 gu gv r more i) + 0))] : List (Nat × Value)) = [(5, .int (nI (i + 1))), (0, .ref (am 0)), (1, .int r), (2, .int more), (3, .long (bM_isTooMuch_6 (fM_isTooMuch_6 gu gv r more i) gu gv r more i))]; unfold bM_isTooMuch_6; first | rw [if_neg c_2, if_neg c_3] | simp only [if_neg c_2, if_neg c_3]) rfl rfl ?_
          exact ih (i + 1) (by omega) (by omega)
        · skip
          refine kw_aload_n C 1 dM_isTooMuch_38 rfl rfl ?_
          refine kw_get (v := .ref (am 11)) C 0 rfl rfl ku_M 14 (by decide) kt_570 rfl dM_isTooMuch_39 ?_
          refine kw_iload C 0 dM_isTooMuch_42 rfl ?_
          refine kw_iald C 11 0 rfl rfl (kix_nI (by omega) (by decide)) dM_isTooMuch_44 ?_
          refine kw_i2l C dM_isTooMuch_45 ?_
          refine kw_goto (tgt := 50) C dM_isTooMuch_46 (by decide) ?_
          refine kw_ladd C dM_isTooMuch_50 ?_
          refine kw_lstore_n (lv' := [(3, .long ((fM_isTooMuch_6 gu gv r more i) + (((m_leads gu) i).toInt64))), (5, .int (nI i)), (0, .ref (am 0)), (1, .int r), (2, .int more)]) C dM_isTooMuch_51 rfl (by decide) rfl ?_
          refine kw_iinc (v := nI (i + 1)) (lv' := [(5, .int (nI (i + 1))), (3, .long ((fM_isTooMuch_6 gu gv r more i) + (((m_leads gu) i).toInt64))), (0, .ref (am 0)), (1, .int r), (2, .int more)]) C 1 dM_isTooMuch_52 rfl (nI_1 i) (by decide) rfl ?_
          refine kw_goto (tgt := 6) C dM_isTooMuch_55 (by decide) ?_
          refine kw_sub [0, 2, 3, 4, 1] rfl ?_
          refine kw_eq (show ([(5, .int (nI (i + 1))), (0, .ref (am 0)), (1, .int r), (2, .int more), (3, .long ((fM_isTooMuch_6 gu gv r more i) + (((m_leads gu) i).toInt64)))] : List (Nat × Value)) = [(5, .int (nI (i + 1))), (0, .ref (am 0)), (1, .int r), (2, .int more), (3, .long (fM_isTooMuch_6 gu gv r more (i + 1)))] from by show ([(5, .int (nI (i + 1))), (0, .ref (am 0)), (1, .int r), (2, .int more), (3, .long ((fM_isTooMuch_6 gu gv r more i) + (((m_leads gu) i).toInt64)))] : List (Nat × Value)) = [(5, .int (nI (i + 1))), (0, .ref (am 0)), (1, .int r), (2, .int more), (3, .long (bM_isTooMuch_6 (fM_isTooMuch_6 gu gv r more i) gu gv r more i))]; unfold bM_isTooMuch_6; first | rw [if_neg c_2, if_pos c_3] | simp only [if_neg c_2, if_pos c_3]) rfl rfl ?_
          exact ih (i + 1) (by omega) (by omega)
noncomputable def rM_isTooMuch (gu : MU) (gv : MV) (r : Int32) (more : Int32) : Int32 := if r < 0 then 0 else (if (lg_cmp (fM_isTooMuch_6 gu gv r more (mnW gu)) (100 * (((m_store gu) r.toNatClampNeg).toInt64))) ≤ 0 then 0 else 1)
set_option maxRecDepth 100000 in
set_option maxHeartbeats 4000000 in
theorem cM_isTooMuch (l : Launch) (D : va_G) (k : Nat → ClassId) (am : Nat → Nat) (gu : MU) (gv : MV) (r : Int32) (more : Int32) (hI : mInv gu) (hri : r < 0 ∨ vp_in r 8) : kMi l yM_isTooMuch (kwm yM_isTooMuch bM_isTooMuch 6 (some .boolean)) ({ frames := 0, cells := 0, slots := 0, locals := 0 }) D kcl (kty k) (wM k am gu gv) (wM k am gu gv) [.ref (am 0), .int r, .int more] (rM_isTooMuch gu gv r more) := by
  refine k_entry_i (lv0 := [(0, .ref (am 0)), (1, .int r), (2, .int more)]) rfl (by decide +kernel) (Nat.le_of_ble_eq_true rfl) rfl ?_
  intro p e s m args below meth c0 C hr hlocks
  have hb8 := hI.2.1.2
  refine kw_iload_n C 2 dM_isTooMuch_0 rfl rfl ?_
  refine kw_i2l C dM_isTooMuch_1 ?_
  refine kw_lstore_n (lv' := [(3, .long more.toInt64), (0, .ref (am 0)), (1, .int r), (2, .int more)]) C dM_isTooMuch_2 rfl (by decide) rfl ?_
  refine kw_iconst (v := 0) C dM_isTooMuch_3 (by decide) ?_
  refine kw_istore (lv' := [(5, .int 0), (3, .long more.toInt64), (0, .ref (am 0)), (1, .int r), (2, .int more)]) C dM_isTooMuch_4 (by decide) rfl ?_
  refine kw_sub [0, 2, 3, 4, 1] rfl ?_
  refine lM_isTooMuch_6 k am gu gv r more hI hri C ?_ (mnW gu + 1) 0 (Nat.zero_le _) (by omega)
  refine kw_iload_n C 2 dM_isTooMuch_58 rfl rfl ?_
  refine kw_if_lt (tgt := 82) C dM_isTooMuch_59 (by decide) (fun c_1 => ?_) (fun c_1 => ?_)
  · skip
    refine kw_iconst (v := 0) C dM_isTooMuch_82 (by decide) ?_
    exact kw_zret C hr hlocks (by unfold rM_isTooMuch; rw [if_pos c_1]) rfl dM_isTooMuch_83
  · skip
    refine kw_lload_n C 4 dM_isTooMuch_62 rfl rfl ?_
    refine kw_ldc2 (v := 100) C kt_694 dM_isTooMuch_63 ?_
    refine kw_aload_n C 1 dM_isTooMuch_66 rfl rfl ?_
    refine kw_get (v := .ref (am 1)) C 0 rfl rfl ku_M 2 (by decide) kt_558 rfl dM_isTooMuch_67 ?_
    refine kw_iload_n C 2 dM_isTooMuch_70 rfl rfl ?_
    refine kw_iald C 1 0 rfl rfl (kix_of (hri.resolve_left c_1)) dM_isTooMuch_71 ?_
    refine kw_i2l C dM_isTooMuch_72 ?_
    refine kw_lmul C dM_isTooMuch_73 ?_
    refine kw_lcmp C dM_isTooMuch_74 ?_
    refine kw_if_le (tgt := 82) C dM_isTooMuch_75 (by decide) (fun c_2 => ?_) (fun c_2 => ?_)
    · skip
      refine kw_iconst (v := 0) C dM_isTooMuch_82 (by decide) ?_
      exact kw_zret C hr hlocks (by unfold rM_isTooMuch; rw [if_neg c_1, if_pos c_2]) rfl dM_isTooMuch_83
    · skip
      refine kw_iconst (v := 1) C dM_isTooMuch_78 (by decide) ?_
      refine kw_goto (tgt := 83) C dM_isTooMuch_79 (by decide) ?_
      exact kw_zret C hr hlocks (by unfold rM_isTooMuch; rw [if_neg c_1, if_neg c_2]) rfl dM_isTooMuch_83
theorem kzb_M_isTooMuch {gu : MU} {gv : MV} {r : Int32} {more : Int32} : narrow .boolean (.int (rM_isTooMuch gu gv r more)) = .int (rM_isTooMuch gu gv r more) := by
  unfold rM_isTooMuch
  (repeat' split) <;> first | rfl | apply kzb_R_isWithin | apply kzb_R_isWarmth | apply kzb_R_isHour | apply kzb_R_isSide | apply kzb_R_isPlan | apply kzb_C_hourEnds | apply kzb_C_hasPersons | apply kzb_H_hasRoom | apply kzb_H_bears | apply kzb_M_in | apply kzb_M_isWarmth | apply kzb_M_isRoom
