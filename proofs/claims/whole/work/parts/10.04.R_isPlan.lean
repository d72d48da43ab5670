def rR_isPlan (what : Int32) (v : Int32) : Int32 := if what = 0 then (rR_isWithin v 0 100) else (if v = (-1000000) then 1 else (if (rR_isWarmth v) = 0 then 0 else 1))
set_option maxRecDepth 100000 in
set_option maxHeartbeats 4000000 in
theorem cR_isPlan (l : Launch) (D : va_G) (k : Nat → ClassId) (what : Int32) (v : Int32) : kMi l yR_isPlan (kwm yR_isPlan bR_isPlan 2 (some .boolean)) ({ frames := 2, cells := 0, slots := 0, locals := 42 }) D kcl (kty k) [] [] [.int what, .int v] (rR_isPlan what v) := by
  refine k_entry_i (lv0 := [(0, .int what), (1, .int v)]) rfl (by decide +kernel) (Nat.le_of_ble_eq_true rfl) rfl ?_
  intro p e s m args below meth c0 C hr hlocks
  refine kw_iload_n C 0 dR_isPlan_0 rfl rfl ?_
  refine kw_if_ne (tgt := 14) C dR_isPlan_1 (by decide) (fun c_1 => ?_) (fun c_1 => ?_)
  · skip
    refine kw_iload_n C 1 dR_isPlan_14 rfl rfl ?_
    refine kw_ldc (v := -1000000) C kt_389 dR_isPlan_15 ?_
    refine kw_icmp_eq (tgt := 27) C dR_isPlan_17 (by decide) (fun c_2 => ?_) (fun c_2 => ?_)
    · skip
      refine kw_iconst (v := 1) C dR_isPlan_27 (by decide) ?_
      refine kw_goto (tgt := 32) C dR_isPlan_28 (by decide) ?_
      exact kw_zret C hr hlocks (by unfold rR_isPlan; rw [if_neg c_1, if_pos c_2]) rfl dR_isPlan_32
    · skip
      refine kw_iload_n C 1 dR_isPlan_20 rfl rfl ?_
      refine kw_callSi (st := []) C (cR_isWarmth l D k v) (va_cwS 1 C.1.2.2.2.2 (kgO kt_211 kt_212 kt_1 kt_213) rfl rfl rfl kdR_isWarmth ⟨Nat.le_of_ble_eq_true rfl, Nat.le_of_ble_eq_true rfl⟩) [] rfl rfl rfl rfl (Nat.le_of_ble_eq_true rfl) dR_isPlan_21 ⟨Nat.zero_le _, Nat.zero_le _⟩ rfl [] rfl ?_
      refine kw_if_eq (tgt := 31) C dR_isPlan_24 (by decide) (fun c_3 => ?_) (fun c_3 => ?_)
      · skip
        refine kw_iconst (v := 0) C dR_isPlan_31 (by decide) ?_
        exact kw_zret C hr hlocks (by unfold rR_isPlan; rw [if_neg c_1, if_neg c_2, if_pos c_3]) rfl dR_isPlan_32
      · skip
        refine kw_iconst (v := 1) C dR_isPlan_27 (by decide) ?_
        refine kw_goto (tgt := 32) C dR_isPlan_28 (by decide) ?_
        exact kw_zret C hr hlocks (by unfold rR_isPlan; rw [if_neg c_1, if_neg c_2, if_neg c_3]) rfl dR_isPlan_32
  · skip
    refine kw_iload_n C 1 dR_isPlan_4 rfl rfl ?_
    refine kw_iconst (v := 0) C dR_isPlan_5 (by decide) ?_
    refine kw_bipush (v := 100) C dR_isPlan_6 (by decide) ?_
    refine kw_callSi (st := []) C (cR_isWithin l D k v 0 100) (va_cwS 3 C.1.2.2.2.2 (kgO kt_208 kt_209 kt_1 kt_210) rfl rfl rfl kdR_isWithin ⟨Nat.le_of_ble_eq_true rfl, Nat.le_of_ble_eq_true rfl⟩) [] rfl rfl rfl rfl (Nat.le_of_ble_eq_true rfl) dR_isPlan_8 ⟨Nat.zero_le _, Nat.zero_le _⟩ rfl [] rfl ?_
    refine kw_goto (tgt := 32) C dR_isPlan_11 (by decide) ?_
    exact kw_zret C hr hlocks (by unfold rR_isPlan; rw [if_pos c_1]) (kzb_R_isWithin) dR_isPlan_32
theorem kzb_R_isPlan {what : Int32} {v : Int32} : narrow .boolean (.int (rR_isPlan what v)) = .int (rR_isPlan what v) := by
  unfold rR_isPlan
  (repeat' split) <;> first | rfl | apply kzb_R_isWithin | apply kzb_R_isWarmth | apply kzb_R_isHour | apply kzb_R_isSide
