def rM_floor (a : Int64) (b : Int32) : Int64 := if (lg_cmp ((a / b.toInt64) * b.toInt64) a) ≤ 0 then a / b.toInt64 else (a / b.toInt64) - 1
set_option maxRecDepth 100000 in
set_option maxHeartbeats 4000000 in
theorem cM_floor (l : Launch) (D : va_G) (k : Nat → ClassId) (a : Int64) (b : Int32) (hb : ¬ b.toInt64 = 0) : kMl l yM_floor (kwm yM_floor bM_floor 5 (some .long)) ({ frames := 0, cells := 0, slots := 0, locals := 0 }) D kcl (kty k) [] [] [.long a, .int b] (rM_floor a b) := by
  refine k_entry_l (lv0 := [(0, .long a), (2, .int b)]) rfl (by decide +kernel) (Nat.le_of_ble_eq_true rfl) rfl ?_
  intro p e s m args below meth c0 C hr hlocks
  refine kw_lload_n C 0 dM_floor_0 rfl rfl ?_
  refine kw_iload_n C 1 dM_floor_1 rfl rfl ?_
  refine kw_i2l C dM_floor_2 ?_
  refine kw_ldiv C dM_floor_3 hb ?_
  refine kw_lstore_n (lv' := [(3, .long (a / b.toInt64)), (0, .long a), (2, .int b)]) C dM_floor_4 rfl (by decide) rfl ?_
  refine kw_lload_n C 0 dM_floor_5 rfl rfl ?_
  refine kw_iload_n C 2 dM_floor_6 rfl rfl ?_
  refine kw_i2l C dM_floor_7 ?_
  refine kw_lmul C dM_floor_8 ?_
  refine kw_lload_n C 1 dM_floor_9 rfl rfl ?_
  refine kw_lcmp C dM_floor_10 ?_
  refine kw_if_le (tgt := 20) C dM_floor_11 (by decide) (fun c_1 => ?_) (fun c_1 => ?_)
  · skip
    refine kw_lload_n C 0 dM_floor_20 rfl rfl ?_
    exact kw_lret C hr hlocks (by unfold rM_floor; rw [if_pos c_1]) dM_floor_21
  · skip
    refine kw_lload_n C 0 dM_floor_14 rfl rfl ?_
    refine kw_lconst (v := 1) C dM_floor_15 (by decide) ?_
    refine kw_lsub C dM_floor_16 ?_
    refine kw_goto (tgt := 21) C dM_floor_17 (by decide) ?_
    exact kw_lret C hr hlocks (by unfold rM_floor; rw [if_neg c_1]) dM_floor_21
theorem kfull {x y : Int32} {N : Nat} (hx : x = nI x.toNatClampNeg) (hN : x.toNatClampNeg ≤ N) (hc : ¬ x = y) (hy : y = nI N := by rfl) (hN2 : N < 2 ^ 31 := by decide) : vp_in x N := by
  rw [hx]
  refine vp_in_nI ?_ hN2
  rcases Nat.lt_or_ge x.toNatClampNeg N with h | h
  · exact h
  · exact absurd (by rw [hx, hy, Nat.le_antisymm hN h]) hc
