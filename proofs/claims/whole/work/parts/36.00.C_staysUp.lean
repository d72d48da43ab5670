noncomputable def hC_staysUp (rec_ : CS → Int32 × CS) (z : CS) (h : HS) (room : Int32) (steps : Int32) : Int32 × CS := if (rC_hourEnds (scC_step z h) h) = 0 then rec_ (scC_step z h) else (if (rC_hasPersons (scC_step z h) h room (rC_hourOfDay z h)) = 0 then rec_ (scC_step z h) else (if 0 ≤ (lg_cmp (rC_warmthOf (scC_step z h) h room) ((h_low h).toInt64)) then rec_ (scC_step z h) else (0, (scC_step z h))))
noncomputable def gC_staysUp (h : HS) (room : Int32) (steps : Int32) (n : Nat) : CS → Int32 × CS := Nat.rec (motive := fun _ => CS → Int32 × CS) (fun z => (1, z)) (fun _ rec_ z => hC_staysUp rec_ z h room steps) n
set_option maxRecDepth 100000 in
set_option maxHeartbeats 4000000 in
theorem lC_staysUp {l : Launch} {p : Program} {e : Env} {s : State} {m : MethodId} {args : Array Value} {below : List Frame} {meth : Method} {c0 : Code} {D : va_G} (k : Nat → ClassId) (ah : Nat → Nat) (ar : Nat → Nat → Nat) (ac : Nat → Nat) (c : CS) (h : HS) (room : Int32) (steps : Int32) (hI : kInv h) (hr8 : vp_in room 8) (hs : steps = nI steps.toNatClampNeg ∧ steps.toNatClampNeg ≤ 192) (o : Nat) (ho : c_over c = nI o) (ho5 : o ≤ 100000) (C : kC p s m args c0 bC_staysUp "RoomHours$Course" kT D kcl (kty k) (va_A (wC k ah ar ac c h) s.heap.size) 5) (hr : meth.sig.returnType = some .boolean) (hlocks : meth.locks = false) {G : Int32 × CS} : ∀ (n i : Nat) (z : CS), i ≤ steps.toNatClampNeg → steps.toNatClampNeg < i + n → c_over z = nI (o + i) → gC_staysUp h room steps (steps.toNatClampNeg - i) z = G → kW p l e ({ frames := 4, cells := 0, slots := 0, locals := 96 }) s m args below meth c0 D kcl (va_A (wC k ah ar ac c h) s.heap.size) 5 0 0 (MQ below (kQi D kcl (wC k ah ar ac c h) (wC k ah ar ac G.2 h) G.1 s.heap.size) args s 0 0 (va_A (wC k ah ar ac c h) s.heap.size)) 2 [(3, .int (nI i)), (0, .ref (ac 0)), (1, .int room), (2, .int steps)] [] (wC k ah ar ac z h) := by
  intro n
  induction n with
  | zero => exact fun i z h1 h2 => absurd h2 (by omega)
  | succ n ih =>
    intro i z hi hin hz hg
    have hs5 := hs.2
    refine kw_iload_n C 0 dC_staysUp_2 rfl rfl ?_
    refine kw_iload_n C 3 dC_staysUp_3 rfl rfl ?_
    refine kw_icmp_ge (tgt := 59) C dC_staysUp_4 (by decide) (fun c_1 => ?_) (fun c_1 => ?_)
    · skip
      refine kw_iconst (v := 1) C dC_staysUp_59 (by decide) ?_
      have e9 : i = steps.toNatClampNeg := klp1 hs.1 (by omega) hi c_1
      have hg2 : (1, z) = G := by rw [e9, Nat.sub_self] at hg; exact hg
      refine kw_eq rfl rfl ((congrArg (fun z90 => wC k ah ar ac z90 h) (show z = G.2 from by rw [← hg2]))) ?_
      exact kw_zret C hr hlocks (show 1 = G.1 from by rw [← hg2]) rfl dC_staysUp_60
    · skip
      have hlt : i < steps.toNatClampNeg := klp2 hs.1 (by omega) c_1
      have hg1 : hC_staysUp (gC_staysUp h room steps (steps.toNatClampNeg - (i + 1))) z h room steps = G := by rw [show steps.toNatClampNeg - i = (steps.toNatClampNeg - (i + 1)) + 1 from by omega] at hg; exact hg
      refine kw_aload_n C 1 dC_staysUp_7 rfl rfl ?_
      refine kw_callAi (w1 := (wC k ah ar ac z h)) (st := []) C (cC_hourOfDay l D k ah ar ac z h) (cwV 0 C.1.2.2.2.2 (kgV kt_422 kt_424 ks_C_hourOfDay kt_4 kt_425) rfl rfl rfl kdC_hourOfDay ⟨Nat.le_of_ble_eq_true rfl, Nat.le_of_ble_eq_true rfl⟩) 0 0 rfl rfl rfl rfl rfl (Nat.le_of_ble_eq_true rfl) dC_staysUp_8 ⟨Nat.zero_le _, Nat.zero_le _⟩ (ad_wC.trans ad_wC.symm) ?_
      refine kw_istore (lv' := [(4, .int (rC_hourOfDay z h)), (3, .int (nI i)), (0, .ref (ac 0)), (1, .int room), (2, .int steps)]) C dC_staysUp_11 (by decide) rfl ?_
      refine kw_aload_n C 2 dC_staysUp_13 rfl rfl ?_
      refine kw_callAv (w1 := (wC k ah ar ac (scC_step z h) h)) (st := []) C (cC_step l D k ah ar ac z h hI (by rw [hz]; exact nI_pos (by omega))) (cwV 0 C.1.2.2.2.2 (kgV kt_548 kt_419 kt_420 kt_4 kt_421) rfl rfl rfl kdC_step ⟨Nat.le_of_ble_eq_true rfl, Nat.le_of_ble_eq_true rfl⟩) 0 0 rfl rfl rfl rfl rfl (Nat.le_of_ble_eq_true rfl) dC_staysUp_14 ⟨Nat.zero_le _, Nat.zero_le _⟩ (ad_wC.trans ad_wC.symm) ?_
      refine kw_aload_n C 2 dC_staysUp_17 rfl rfl ?_
      refine kw_callAi (w1 := (wC k ah ar ac (scC_step z h) h)) (st := []) C (cC_hourEnds l D k ah ar ac (scC_step z h) h) (cwV 0 C.1.2.2.2.2 (kgV kt_473 kt_475 ks_C_hourEnds kt_4 kt_476) rfl rfl rfl kdC_hourEnds ⟨Nat.le_of_ble_eq_true rfl, Nat.le_of_ble_eq_true rfl⟩) 0 0 rfl rfl rfl rfl rfl (Nat.le_of_ble_eq_true rfl) dC_staysUp_18 ⟨Nat.zero_le _, Nat.zero_le _⟩ (ad_wC.trans ad_wC.symm) ?_
      refine kw_if_eq (tgt := 53) C dC_staysUp_21 (by decide) (fun c_2 => ?_) (fun c_2 => ?_)
      · skip
        refine kw_iinc (v := nI (i + 1)) (lv' := [(3, .int (nI (i + 1))), (4, .int (rC_hourOfDay z h)), (0, .ref (ac 0)), (1, .int room), (2, .int steps)]) C 1 dC_staysUp_53 rfl (nI_1 i) (by decide) rfl ?_
        refine kw_goto (tgt := 2) C dC_staysUp_56 (by decide) ?_
        have hg2 : gC_staysUp h room steps (steps.toNatClampNeg - (i + 1)) (scC_step z h) = G := by rw [← hg1]; unfold hC_staysUp; rw [if_pos c_2]
        refine kw_sub [0, 2, 3, 4] rfl ?_
        exact ih (i + 1) (scC_step z h) (by omega) (by omega) (by rw [ov_step, hz, nI_1, Nat.add_assoc]) hg2
      · skip
        refine kw_aload_n C 2 dC_staysUp_24 rfl rfl ?_
        refine kw_iload_n C 3 dC_staysUp_25 rfl rfl ?_
        refine kw_iload C 0 dC_staysUp_26 rfl ?_
        refine kw_callAi (w1 := (wC k ah ar ac (scC_step z h) h)) (st := []) C (cC_hasPersons l D k ah ar ac (scC_step z h) h room (rC_hourOfDay z h) (kplanR hr8 (khour (h := h) (by rw [hz]; exact nI_pos (by omega))))) (cwV 2 C.1.2.2.2.2 (kgV kt_481 kt_483 ks_C_hasPersons kt_4 kt_484) rfl rfl rfl kdC_hasPersons ⟨Nat.le_of_ble_eq_true rfl, Nat.le_of_ble_eq_true rfl⟩) 0 0 rfl rfl rfl rfl rfl (Nat.le_of_ble_eq_true rfl) dC_staysUp_28 ⟨Nat.zero_le _, Nat.zero_le _⟩ (ad_wC.trans ad_wC.symm) ?_
        refine kw_if_eq (tgt := 53) C dC_staysUp_31 (by decide) (fun c_3 => ?_) (fun c_3 => ?_)
        · skip
          refine kw_iinc (v := nI (i + 1)) (lv' := [(3, .int (nI (i + 1))), (4, .int (rC_hourOfDay z h)), (0, .ref (ac 0)), (1, .int room), (2, .int steps)]) C 1 dC_staysUp_53 rfl (nI_1 i) (by decide) rfl ?_
          refine kw_goto (tgt := 2) C dC_staysUp_56 (by decide) ?_
          have hg2 : gC_staysUp h room steps (steps.toNatClampNeg - (i + 1)) (scC_step z h) = G := by rw [← hg1]; unfold hC_staysUp; rw [if_neg c_2, if_pos c_3]
          refine kw_sub [0, 2, 3, 4] rfl ?_
          exact ih (i + 1) (scC_step z h) (by omega) (by omega) (by rw [ov_step, hz, nI_1, Nat.add_assoc]) hg2
        · skip
          refine kw_aload_n C 2 dC_staysUp_34 rfl rfl ?_
          refine kw_iload_n C 3 dC_staysUp_35 rfl rfl ?_
          refine kw_callAl (w1 := (wC k ah ar ac (scC_step z h) h)) (st := []) C (cC_warmthOf l D k ah ar ac (scC_step z h) h room hr8) (cwV 1 C.1.2.2.2.2 (kgV kt_426 kt_427 kt_428 kt_4 kt_429) rfl rfl rfl kdC_warmthOf ⟨Nat.le_of_ble_eq_true rfl, Nat.le_of_ble_eq_true rfl⟩) 0 0 rfl rfl rfl rfl rfl (Nat.le_of_ble_eq_true rfl) dC_staysUp_36 ⟨Nat.zero_le _, Nat.zero_le _⟩ (ad_wC.trans ad_wC.symm) ?_
          refine kw_aload_n C 2 dC_staysUp_39 rfl rfl ?_
          refine kw_get (v := .ref (ah 0)) C 0 rfl rfl ku_C 0 (by decide) kt_122 rfl dC_staysUp_40 ?_
          refine kw_get (v := .int (h_low h)) C 7 rfl rfl ku_H 16 (by decide) kt_74 rfl dC_staysUp_43 ?_
          refine kw_i2l C dC_staysUp_46 ?_
          refine kw_lcmp C dC_staysUp_47 ?_
          refine kw_if_ge (tgt := 53) C dC_staysUp_48 (by decide) (fun c_4 => ?_) (fun c_4 => ?_)
          · skip
            refine kw_iinc (v := nI (i + 1)) (lv' := [(3, .int (nI (i + 1))), (4, .int (rC_hourOfDay z h)), (0, .ref (ac 0)), (1, .int room), (2, .int steps)]) C 1 dC_staysUp_53 rfl (nI_1 i) (by decide) rfl ?_
            refine kw_goto (tgt := 2) C dC_staysUp_56 (by decide) ?_
            have hg2 : gC_staysUp h room steps (steps.toNatClampNeg - (i + 1)) (scC_step z h) = G := by rw [← hg1]; unfold hC_staysUp; rw [if_neg c_2, if_neg c_3, if_pos c_4]
            refine kw_sub [0, 2, 3, 4] rfl ?_
            exact ih (i + 1) (scC_step z h) (by omega) (by omega) (by rw [ov_step, hz, nI_1, Nat.add_assoc]) hg2
          · skip
            refine kw_iconst (v := 0) C dC_staysUp_51 (by decide) ?_
            have hg2 : (0, (scC_step z h)) = G := by rw [← hg1]; unfold hC_staysUp; rw [if_neg c_2, if_neg c_3, if_neg c_4]
            refine kw_eq rfl rfl ((congrArg (fun z90 => wC k ah ar ac z90 h) (show (scC_step z h) = G.2 from by rw [← hg2]))) ?_
            exact kw_zret C hr hlocks (show 0 = G.1 from by rw [← hg2]) rfl dC_staysUp_52
noncomputable def rC_staysUp (c : CS) (h : HS) (room : Int32) (steps : Int32) : Int32 := (gC_staysUp h room steps steps.toNatClampNeg c).1
noncomputable def scC_staysUp (c : CS) (h : HS) (room : Int32) (steps : Int32) : CS := (gC_staysUp h room steps steps.toNatClampNeg c).2
set_option maxRecDepth 100000 in
set_option maxHeartbeats 4000000 in
theorem cC_staysUp (l : Launch) (D : va_G) (k : Nat → ClassId) (ah : Nat → Nat) (ar : Nat → Nat → Nat) (ac : Nat → Nat) (c : CS) (h : HS) (room : Int32) (steps : Int32) (hI : kInv h) (hr8 : vp_in room 8) (hs : steps = nI steps.toNatClampNeg ∧ steps.toNatClampNeg ≤ 192) (o : Nat) (ho : c_over c = nI o) (ho5 : o ≤ 100000) : kMi l yC_staysUp (kwm yC_staysUp bC_staysUp 5 (some .boolean)) ({ frames := 4, cells := 0, slots := 0, locals := 96 }) D kcl (kty k) (wC k ah ar ac c h) (wC k ah ar ac (scC_staysUp c h room steps) h) [.ref (ac 0), .int room, .int steps] (rC_staysUp c h room steps) := by
  refine k_entry_i (lv0 := [(0, .ref (ac 0)), (1, .int room), (2, .int steps)]) rfl (by decide +kernel) (Nat.le_of_ble_eq_true rfl) rfl ?_
  intro p e s m args below meth c0 C hr hlocks
  refine kw_iconst (v := 0) C dC_staysUp_0 (by decide) ?_
  refine kw_istore_n (lv' := [(3, .int 0), (0, .ref (ac 0)), (1, .int room), (2, .int steps)]) C dC_staysUp_1 rfl (by decide) rfl ?_
  refine kw_sub [0, 1, 2, 3] rfl ?_
  exact lC_staysUp k ah ar ac c h room steps hI hr8 hs o ho ho5 C hr hlocks (G := gC_staysUp h room steps steps.toNatClampNeg c) (steps.toNatClampNeg + 1) 0 c (Nat.zero_le _) (by omega) ho rfl
