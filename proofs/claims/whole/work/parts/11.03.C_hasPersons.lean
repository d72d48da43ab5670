def rC_hasPersons (c : CS) (h : HS) (room : Int32) (hour : Int32) : Int32 := if (rC_planned c h 0 room hour) ≤ 0 then 0 else 1
set_option maxRecDepth 100000 in
set_option maxHeartbeats 4000000 in
theorem cC_hasPersons (l : Launch) (D : va_G) (k : Nat → ClassId) (ah : Nat → Nat) (ar : Nat → Nat → Nat) (ac : Nat → Nat) (c : CS) (h : HS) (room : Int32) (hour : Int32) (hp : vp_in (room * 24 + hour) 192) : kMi l yC_hasPersons (kwm yC_hasPersons bC_hasPersons 3 (some .boolean)) ({ frames := 1, cells := 0, slots := 0, locals := 23 }) D kcl (kty k) (wC k ah ar ac c h) (wC k ah ar ac c h) [.ref (ac 0), .int room, .int hour] (rC_hasPersons c h room hour) := by
  refine k_entry_i (lv0 := [(0, .ref (ac 0)), (1, .int room), (2, .int hour)]) rfl (by decide +kernel) (Nat.le_of_ble_eq_true rfl) rfl ?_
  intro p e s m args below meth c0 C hr hlocks
  refine kw_aload_n C 0 dC_hasPersons_0 rfl rfl ?_
  refine kw_iconst (v := 0) C dC_hasPersons_1 (by decide) ?_
  refine kw_iload_n C 1 dC_hasPersons_2 rfl rfl ?_
  refine kw_iload_n C 2 dC_hasPersons_3 rfl rfl ?_
  refine kw_callAi (w1 := (wC k ah ar ac c h)) (st := []) C (cC_planned l D k ah ar ac c h 0 room hour (by unfold vp_in; decide) hp) (cwV 3 C.1.2.2.2.2 (kgV kt_446 kt_448 ks_C_planned kt_4 kt_449) rfl rfl rfl kdC_planned ⟨Nat.le_of_ble_eq_true rfl, Nat.le_of_ble_eq_true rfl⟩) 0 0 rfl rfl rfl rfl rfl (Nat.le_of_ble_eq_true rfl) dC_hasPersons_4 ⟨Nat.zero_le _, Nat.zero_le _⟩ (ad_wC.trans ad_wC.symm) ?_
  refine kw_if_le (tgt := 14) C dC_hasPersons_7 (by decide) (fun c_1 => ?_) (fun c_1 => ?_)
  · skip
    refine kw_iconst (v := 0) C dC_hasPersons_14 (by decide) ?_
    exact kw_zret C hr hlocks (by unfold rC_hasPersons; rw [if_pos c_1]) rfl dC_hasPersons_15
  · skip
    refine kw_iconst (v := 1) C dC_hasPersons_10 (by decide) ?_
    refine kw_goto (tgt := 15) C dC_hasPersons_11 (by decide) ?_
    exact kw_zret C hr hlocks (by unfold rC_hasPersons; rw [if_neg c_1]) rfl dC_hasPersons_15
theorem kzb_C_hasPersons {c : CS} {h : HS} {room : Int32} {hour : Int32} : narrow .boolean (.int (rC_hasPersons c h room hour)) = .int (rC_hasPersons c h room hour) := by
  unfold rC_hasPersons
  (repeat' split) <;> first | rfl | apply kzb_R_isWithin | apply kzb_R_isWarmth | apply kzb_R_isHour | apply kzb_R_isSide | apply kzb_R_isPlan | apply kzb_C_hourEnds
