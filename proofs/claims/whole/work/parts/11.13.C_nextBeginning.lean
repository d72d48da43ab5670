def rC_nextBeginning (c : CS) (h : HS) (hour : Int32) : Int32 := if (rJ_floorMod ((hour * 4) - (c_over c)) 96) = 0 then (c_over c) + 96 else (c_over c) + (rJ_floorMod ((hour * 4) - (c_over c)) 96)
set_option maxRecDepth 100000 in
set_option maxHeartbeats 4000000 in
theorem cC_nextBeginning (l : Launch) (D : va_G) (k : Nat → ClassId) (ah : Nat → Nat) (ar : Nat → Nat → Nat) (ac : Nat → Nat) (c : CS) (h : HS) (hour : Int32) : kMi l yC_nextBeginning (kwm yC_nextBeginning bC_nextBeginning 3 (some .int)) ({ frames := 1, cells := 0, slots := 0, locals := 22 }) D kcl (kty k) (wC k ah ar ac c h) (wC k ah ar ac c h) [.ref (ac 0), .int hour] (rC_nextBeginning c h hour) := by
  refine k_entry_i (lv0 := [(0, .ref (ac 0)), (1, .int hour)]) rfl (by decide +kernel) (Nat.le_of_ble_eq_true rfl) rfl ?_
  intro p e s m args below meth c0 C hr hlocks
  refine kw_iload_n C 1 dC_nextBeginning_0 rfl rfl ?_
  refine kw_iconst (v := 4) C dC_nextBeginning_1 (by decide) ?_
  refine kw_imul C dC_nextBeginning_2 ?_
  refine kw_aload_n C 0 dC_nextBeginning_3 rfl rfl ?_
  refine kw_get (v := .int (c_over c)) C 0 rfl rfl ku_C 1 (by decide) kt_123 rfl dC_nextBeginning_4 ?_
  refine kw_isub C dC_nextBeginning_7 ?_
  refine kw_bipush (v := 96) C dC_nextBeginning_8 (by decide) ?_
  refine kw_callSi (st := []) C (cJ_floorMod l D k ((hour * 4) - (c_over c)) 96 (by decide)) (va_cwS 2 C.1.2.2.2.2 (kgO kt_518 kt_519 kt_11 kt_520) rfl rfl rfl kdJ_floorMod ⟨Nat.le_of_ble_eq_true rfl, Nat.le_of_ble_eq_true rfl⟩) [] rfl rfl rfl rfl (Nat.le_of_ble_eq_true rfl) dC_nextBeginning_10 ⟨Nat.zero_le _, Nat.zero_le _⟩ rfl (wC k ah ar ac c h) rfl ?_
  refine kw_istore_n (lv' := [(2, .int (rJ_floorMod ((hour * 4) - (c_over c)) 96)), (0, .ref (ac 0)), (1, .int hour)]) C dC_nextBeginning_13 rfl (by decide) rfl ?_
  refine kw_aload_n C 1 dC_nextBeginning_14 rfl rfl ?_
  refine kw_get (v := .int (c_over c)) C 0 rfl rfl ku_C 1 (by decide) kt_123 rfl dC_nextBeginning_15 ?_
  refine kw_iload_n C 0 dC_nextBeginning_18 rfl rfl ?_
  refine kw_if_ne (tgt := 27) C dC_nextBeginning_19 (by decide) (fun c_1 => ?_) (fun c_1 => ?_)
  · skip
    refine kw_iload_n C 0 dC_nextBeginning_27 rfl rfl ?_
    refine kw_iadd C dC_nextBeginning_28 ?_
    exact kw_iret C hr hlocks (by unfold rC_nextBeginning; rw [if_neg c_1]) dC_nextBeginning_29
  · skip
    refine kw_bipush (v := 96) C dC_nextBeginning_22 (by decide) ?_
    refine kw_goto (tgt := 28) C dC_nextBeginning_24 (by decide) ?_
    refine kw_iadd C dC_nextBeginning_28 ?_
    exact kw_iret C hr hlocks (by unfold rC_nextBeginning; rw [if_pos c_1]) dC_nextBeginning_29
