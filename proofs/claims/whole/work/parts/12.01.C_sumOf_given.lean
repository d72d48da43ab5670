noncomputable def bC_sumOf_given_5 (z : Int64) (c : CS) (h : HS) (i : Nat) : Int64 := z + ((c_given c) i)
noncomputable def fC_sumOf_given_5 (c : CS) (h : HS) (n : Nat) : Int64 := Nat.rec (motive := fun _ => Int64) 0 (fun i z => bC_sumOf_given_5 z c h i) n
set_option maxRecDepth 100000 in
set_option maxHeartbeats 4000000 in
theorem lC_sumOf_given_5 {l : Launch} {p : Program} {e : Env} {s : State} {m : MethodId} {args : Array Value} {below : List Frame} {meth : Method} {c0 : Code} {D : va_G} {A : Nat → Prop} {Q : State → Prop} (k : Nat → ClassId) (ah : Nat → Nat) (ar : Nat → Nat → Nat) (ac : Nat → Nat) (c : CS) (h : HS)  (hI : kInv h) (C : kC p s m args c0 bC_sumOf "RoomHours$Course" kT D kcl (kty k) A 5) (kk : kW p l e ({ frames := 0, cells := 0, slots := 0, locals := 0 }) s m args below meth c0 D kcl A 5 0 0 Q 30 [(4, .int (nI (hnR h))), (0, .ref (ac 0)), (1, .ref (ac 3)), (2, .long (fC_sumOf_given_5 c h (hnR h)))] [] (wC k ah ar ac c h)) : ∀ (n i : Nat), i ≤ hnR h → hnR h < i + n → kW p l e ({ frames := 0, cells := 0, slots := 0, locals := 0 }) s m args below meth c0 D kcl A 5 0 0 Q 5 [(4, .int (nI i)), (0, .ref (ac 0)), (1, .ref (ac 3)), (2, .long (fC_sumOf_given_5 c h i))] [] (wC k ah ar ac c h) := by
  intro n
  induction n with
  | zero => exact fun i h1 h2 => absurd h2 (by omega)
  | succ n ih =>
    intro i hi hin
    have hb8 := hI.1.2
    refine kw_iload C 0 dC_sumOf_5 rfl ?_
    refine kw_aload_n C 1 dC_sumOf_7 rfl rfl ?_
    refine kw_get (v := .ref (ah 0)) C 0 rfl rfl ku_C 0 (by decide) kt_122 rfl dC_sumOf_8 ?_
    refine kw_get (v := .int (h_rooms h)) C 7 rfl rfl ku_H 0 (by decide) kt_35 rfl dC_sumOf_11 ?_
    refine kw_icmp_ge (tgt := 30) C dC_sumOf_14 (by decide) (fun c_1 => ?_) (fun c_1 => ?_)
    · skip
      have e9 : i = hnR h := klp1 hI.1.1 (by omega) hi c_1
      subst e9
      refine kw_sub [0, 1, 2, 3] rfl ?_
      exact kk
    · skip
      have hlt : i < hnR h := klp2 hI.1.1 (by omega) c_1
      refine kw_lload_n C 3 dC_sumOf_17 rfl rfl ?_
      refine kw_aload_n C 2 dC_sumOf_18 rfl rfl ?_
      refine kw_iload C 0 dC_sumOf_19 rfl ?_
      refine kw_lald C 3 1 rfl rfl (kix_nI (by omega) (by decide)) dC_sumOf_21 ?_
      refine kw_ladd C dC_sumOf_22 ?_
      refine kw_lstore_n (lv' := [(2, .long ((fC_sumOf_given_5 c h i) + ((c_given c) i))), (4, .int (nI i)), (0, .ref (ac 0)), (1, .ref (ac 3))]) C dC_sumOf_23 rfl (by decide) rfl ?_
      refine kw_iinc (v := nI (i + 1)) (lv' := [(4, .int (nI (i + 1))), (2, .long ((fC_sumOf_given_5 c h i) + ((c_given c) i))), (0, .ref (ac 0)), (1, .ref (ac 3))]) C 1 dC_sumOf_24 rfl (nI_1 i) (by decide) rfl ?_
      refine kw_goto (tgt := 5) C dC_sumOf_27 (by decide) ?_
      refine kw_sub [0, 2, 3, 1] rfl ?_
      refine kw_eq (show ([(4, .int (nI (i + 1))), (0, .ref (ac 0)), (1, .ref (ac 3)), (2, .long ((fC_sumOf_given_5 c h i) + ((c_given c) i)))] : List (Nat × Value)) = [(4, .int (nI (i + 1))), (0, .ref (ac 0)), (1, .ref (ac 3)), (2, .long (fC_sumOf_given_5 c h (i + 1)))] from by show ([(4, .int (nI (i + 1))), (0, .ref (ac 0)), (1, .ref (ac 3)), (2, .long ((fC_sumOf_given_5 c h i) + ((c_given c) i)))] : List (Nat × Value)) = [(4, .int (nI (i + 1))), (0, .ref (ac 0)), (1, .ref (ac 3)), (2, .long (bC_sumOf_given_5 (fC_sumOf_given_5 c h i) c h i))]; unfold bC_sumOf_given_5; rfl) rfl rfl ?_
      exact ih (i + 1) (by omega) (by omega)
noncomputable def rC_sumOf_given (c : CS) (h : HS) : Int64 := (fC_sumOf_given_5 c h (hnR h))
set_option maxRecDepth 100000 in
set_option maxHeartbeats 4000000 in
theorem cC_sumOf_given (l : Launch) (D : va_G) (k : Nat → ClassId) (ah : Nat → Nat) (ar : Nat → Nat → Nat) (ac : Nat → Nat) (c : CS) (h : HS)  (hI : kInv h) : kMl l yC_sumOf (kwm yC_sumOf bC_sumOf 5 (some .long)) ({ frames := 0, cells := 0, slots := 0, locals := 0 }) D kcl (kty k) (wC k ah ar ac c h) (wC k ah ar ac c h) [.ref (ac 0), .ref (ac 3)] (rC_sumOf_given c h) := by
  refine k_entry_l (lv0 := [(0, .ref (ac 0)), (1, .ref (ac 3))]) rfl (by decide +kernel) (Nat.le_of_ble_eq_true rfl) rfl ?_
  intro p e s m args below meth c0 C hr hlocks
  have hb8 := hI.1.2
  refine kw_lconst (v := 0) C dC_sumOf_0 (by decide) ?_
  refine kw_lstore_n (lv' := [(2, .long 0), (0, .ref (ac 0)), (1, .ref (ac 3))]) C dC_sumOf_1 rfl (by decide) rfl ?_
  refine kw_iconst (v := 0) C dC_sumOf_2 (by decide) ?_
  refine kw_istore (lv' := [(4, .int 0), (2, .long 0), (0, .ref (ac 0)), (1, .ref (ac 3))]) C dC_sumOf_3 (by decide) rfl ?_
  refine kw_sub [0, 2, 3, 1] rfl ?_
  refine lC_sumOf_given_5 k ah ar ac c h hI C ?_ (hnR h + 1) 0 (Nat.zero_le _) (by omega)
  refine kw_lload_n C 3 dC_sumOf_30 rfl rfl ?_
  exact kw_lret C hr hlocks rfl dC_sumOf_31
