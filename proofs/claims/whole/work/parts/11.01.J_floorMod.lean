def rJ_floorMod (x : Int32) (y : Int32) : Int32 := if 0 ≤ (x ^^^ y) then x - x / y * y else (if (x - x / y * y) = 0 then x - x / y * y else (x - x / y * y) + y)
set_option maxRecDepth 100000 in
set_option maxHeartbeats 4000000 in
theorem cJ_floorMod (l : Launch) (D : va_G) (k : Nat → ClassId) (x : Int32) (y : Int32) (hy : ¬ y = 0) : kMi l yJ_floorMod (kwm yJ_floorMod bJ_floorMod 3 (some .int)) ({ frames := 0, cells := 0, slots := 0, locals := 0 }) D kcl (kty k) [] [] [.int x, .int y] (rJ_floorMod x y) := by
  refine k_entry_i (lv0 := [(0, .int x), (1, .int y)]) rfl (by decide +kernel) (Nat.le_of_ble_eq_true rfl) rfl ?_
  intro p e s m args below meth c0 C hr hlocks
  refine kw_iload_n C 0 dJ_floorMod_0 rfl rfl ?_
  refine kw_iload_n C 1 dJ_floorMod_1 rfl rfl ?_
  refine kw_irem C dJ_floorMod_2 hy ?_
  refine kw_istore_n (lv' := [(2, .int (x - x / y * y)), (0, .int x), (1, .int y)]) C dJ_floorMod_3 rfl (by decide) rfl ?_
  refine kw_iload_n C 1 dJ_floorMod_4 rfl rfl ?_
  refine kw_iload_n C 2 dJ_floorMod_5 rfl rfl ?_
  refine kw_ixor C dJ_floorMod_6 ?_
  refine kw_if_ge (tgt := 18) C dJ_floorMod_7 (by decide) (fun c_1 => ?_) (fun c_1 => ?_)
  · skip
    refine kw_iload_n C 0 dJ_floorMod_18 rfl rfl ?_
    exact kw_iret C hr hlocks (by unfold rJ_floorMod; rw [if_pos c_1]) dJ_floorMod_19
  · skip
    refine kw_iload_n C 0 dJ_floorMod_10 rfl rfl ?_
    refine kw_if_eq (tgt := 18) C dJ_floorMod_11 (by decide) (fun c_2 => ?_) (fun c_2 => ?_)
    · skip
      refine kw_iload_n C 0 dJ_floorMod_18 rfl rfl ?_
      exact kw_iret C hr hlocks (by unfold rJ_floorMod; rw [if_neg c_1, if_pos c_2]) dJ_floorMod_19
    · skip
      refine kw_iload_n C 0 dJ_floorMod_14 rfl rfl ?_
      refine kw_iload_n C 2 dJ_floorMod_15 rfl rfl ?_
      refine kw_iadd C dJ_floorMod_16 ?_
      exact kw_iret C hr hlocks (by unfold rJ_floorMod; rw [if_neg c_1, if_neg c_2]) dJ_floorMod_17
