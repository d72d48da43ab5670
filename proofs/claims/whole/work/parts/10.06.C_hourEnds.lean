def rC_hourEnds (c : CS) (h : HS) : Int32 := if ((c_over c) - (c_over c) / 4 * 4) = 0 then 1 else 0
set_option maxRecDepth 100000 in
set_option maxHeartbeats 4000000 in
theorem cC_hourEnds (l : Launch) (D : va_G) (k : Nat → ClassId) (ah : Nat → Nat) (ar : Nat → Nat → Nat) (ac : Nat → Nat) (c : CS) (h : HS)  : kMi l yC_hourEnds (kwm yC_hourEnds bC_hourEnds 1 (some .boolean)) ({ frames := 0, cells := 0, slots := 0, locals := 0 }) D kcl (kty k) (wC k ah ar ac c h) (wC k ah ar ac c h) [.ref (ac 0)] (rC_hourEnds c h) := by
  refine k_entry_i (lv0 := [(0, .ref (ac 0))]) rfl (by decide +kernel) (Nat.le_of_ble_eq_true rfl) rfl ?_
  intro p e s m args below meth c0 C hr hlocks
  refine kw_aload_n C 0 dC_hourEnds_0 rfl rfl ?_
  refine kw_get (v := .int (c_over c)) C 0 rfl rfl ku_C 1 (by decide) kt_123 rfl dC_hourEnds_1 ?_
  refine kw_iconst (v := 4) C dC_hourEnds_4 (by decide) ?_
  refine kw_irem C dC_hourEnds_5 (by decide) ?_
  refine kw_if_ne (tgt := 13) C dC_hourEnds_6 (by decide) (fun c_1 => ?_) (fun c_1 => ?_)
  · skip
    refine kw_iconst (v := 0) C dC_hourEnds_13 (by decide) ?_
    exact kw_zret C hr hlocks (by unfold rC_hourEnds; rw [if_neg c_1]) rfl dC_hourEnds_14
  · skip
    refine kw_iconst (v := 1) C dC_hourEnds_9 (by decide) ?_
    refine kw_goto (tgt := 14) C dC_hourEnds_10 (by decide) ?_
    exact kw_zret C hr hlocks (by unfold rC_hourEnds; rw [if_pos c_1]) rfl dC_hourEnds_14
theorem kzb_C_hourEnds {c : CS} {h : HS} : narrow .boolean (.int (rC_hourEnds c h)) = .int (rC_hourEnds c h) := by
  unfold rC_hourEnds
  (repeat' split) <;> first | rfl | apply kzb_R_isWithin | apply kzb_R_isWarmth | apply kzb_R_isHour | apply kzb_R_isSide | apply kzb_R_isPlan
