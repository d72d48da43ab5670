theorem kin_lt {i : Int32} {n : Nat} (h : vp_in i n) : i.toNatClampNeg < n := Nat.not_le.mp (fun q => h (Or.inr q))
theorem klc1 {x : Int64} (h : ¬ lg_cmp x 1 < 0) : ¬ x = 0 := by
  intro e
  subst e
  exact h (by decide)
theorem klc1g {x : Int64} (h : 0 ≤ lg_cmp x 1) : ¬ x = 0 := by
  intro e
  subst e
  revert h
  decide
theorem pC_plans (k : Nat → ClassId) (ah : Nat → Nat) (ar : Nat → Nat → Nat) (ac : Nat → Nat) (c : CS) (h : HS) : ∀ j : Nat, j < 3 → (wC k ah ar ac c h)[22 + j]? = some (ar 1 j, .inl (k 0, 192, .inl (h_plans h j)))
  | 0, _ => rfl
  | 1, _ => rfl
  | 2, _ => rfl
  | j + 3, hj => absurd hj (by omega)
def rJ_floorDiv (x : Int64) (y : Int64) : Int64 := if 0 ≤ (lg_cmp (x ^^^ y) 0) then x / y else (if (lg_cmp ((x / y) * y) x) = 0 then x / y else (x / y) - 1)
set_option maxRecDepth 100000 in
set_option maxHeartbeats 4000000 in
theorem cJ_floorDiv (l : Launch) (D : va_G) (k : Nat → ClassId) (x : Int64) (y : Int64) (hy : ¬ y = 0) : kMl l yJ_floorDiv (kwm yJ_floorDiv bJ_floorDiv 6 (some .long)) ({ frames := 0, cells := 0, slots := 0, locals := 0 }) D kcl (kty k) [] [] [.long x, .long y] (rJ_floorDiv x y) := by
  refine k_entry_l (lv0 := [(0, .long x), (2, .long y)]) rfl (by decide +kernel) (Nat.le_of_ble_eq_true rfl) rfl ?_
  intro p e s m args below meth c0 C hr hlocks
  refine kw_lload_n C 0 dJ_floorDiv_0 rfl rfl ?_
  refine kw_lload_n C 1 dJ_floorDiv_1 rfl rfl ?_
  refine kw_ldiv C dJ_floorDiv_2 hy ?_
  refine kw_lstore (lv' := [(4, .long (x / y)), (0, .long x), (2, .long y)]) C dJ_floorDiv_3 (by decide) rfl ?_
  refine kw_lload_n C 1 dJ_floorDiv_5 rfl rfl ?_
  refine kw_lload_n C 2 dJ_floorDiv_6 rfl rfl ?_
  refine kw_lxor C dJ_floorDiv_7 ?_
  refine kw_lconst (v := 0) C dJ_floorDiv_8 (by decide) ?_
  refine kw_lcmp C dJ_floorDiv_9 ?_
  refine kw_if_ge (tgt := 27) C dJ_floorDiv_10 (by decide) (fun c_1 => ?_) (fun c_1 => ?_)
  · skip
    refine kw_lload C 0 dJ_floorDiv_27 rfl ?_
    exact kw_lret C hr hlocks (by unfold rJ_floorDiv; rw [if_pos c_1]) dJ_floorDiv_29
  · skip
    refine kw_lload C 0 dJ_floorDiv_13 rfl ?_
    refine kw_lload_n C 2 dJ_floorDiv_15 rfl rfl ?_
    refine kw_lmul C dJ_floorDiv_16 ?_
    refine kw_lload_n C 1 dJ_floorDiv_17 rfl rfl ?_
    refine kw_lcmp C dJ_floorDiv_18 ?_
    refine kw_if_eq (tgt := 27) C dJ_floorDiv_19 (by decide) (fun c_2 => ?_) (fun c_2 => ?_)
    · skip
      refine kw_lload C 0 dJ_floorDiv_27 rfl ?_
      exact kw_lret C hr hlocks (by unfold rJ_floorDiv; rw [if_neg c_1, if_pos c_2]) dJ_floorDiv_29
    · skip
      refine kw_lload C 0 dJ_floorDiv_22 rfl ?_
      refine kw_lconst (v := 1) C dJ_floorDiv_24 (by decide) ?_
      refine kw_lsub C dJ_floorDiv_25 ?_
      exact kw_lret C hr hlocks (by unfold rJ_floorDiv; rw [if_neg c_1, if_neg c_2]) dJ_floorDiv_26
