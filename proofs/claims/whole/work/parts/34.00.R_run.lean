theorem over_mk {x0 : Int32} {x1 : Int32} {x2 : Int32} {x3 : Int32} {x4 : Int32} {x5 : Int32} {x6 : Int32} {x7 : Int64} {x8 : Int64} {x9 : Int64} {x10 : Int64} {x11 : Nat → Int64} {x12 : Nat → Int64} {x13 : Nat → Int64} {x14 : Nat → Int64} {x15 : Nat → Int64} {x16 : Nat → Int32} : c_over (x0, x1, x2, x3, x4, x5, x6, x7, x8, x9, x10, x11, x12, x13, x14, x15, x16) = x0 := rfl
theorem ov_bringPersons (c : CS) (h : HS) (room hour : Int32) : c_over (scC_bringPersons c h room hour) = c_over c := by
  unfold scC_bringPersons
  (repeat' split) <;> first | rfl | exact over_mk
theorem ov_heatUp (c : CS) (h : HS) (room hour : Int32) : c_over (scC_heatUp c h room hour) = c_over c := by
  unfold scC_heatUp
  (repeat' split) <;> first | rfl | exact over_mk
theorem ov_coolDown (c : CS) (h : HS) (room hour : Int32) : c_over (scC_coolDown c h room hour) = c_over c := by
  unfold scC_coolDown
  (repeat' split) <;> first | rfl | exact over_mk
theorem ov_C_step_7 (c : CS) (h : HS) (hour : Int32) (n : Nat) : c_over (fC_step_7 c h hour n) = c_over c := by
  induction n with
  | zero => rfl
  | succ n ih =>
    show c_over (bC_step_7 (fC_step_7 c h hour n) c h hour n) = c_over c
    unfold bC_step_7
    (repeat' split) <;> first | exact over_mk.trans ih | exact ih
theorem ov_C_passWalls_2 (c : CS) (h : HS) (hour : Int32) (n : Nat) : c_over (fC_passWalls_2 c h hour n) = c_over c := by
  induction n with
  | zero => rfl
  | succ n ih =>
    show c_over (bC_passWalls_2 (fC_passWalls_2 c h hour n) c h hour n) = c_over c
    unfold bC_passWalls_2
    (repeat' split) <;> first | exact over_mk.trans ih | exact ih
theorem ov_C_passWindows_2 (c : CS) (h : HS) (hour : Int32) (n : Nat) : c_over (fC_passWindows_2 c h hour n) = c_over c := by
  induction n with
  | zero => rfl
  | succ n ih =>
    show c_over (bC_passWindows_2 (fC_passWindows_2 c h hour n) c h hour n) = c_over c
    unfold bC_passWindows_2
    (repeat' split) <;> first | exact over_mk.trans ih | exact ih
theorem ov_C_countUneasy_2 (c : CS) (h : HS) (hour : Int32) (n : Nat) : c_over (fC_countUneasy_2 c h hour n) = c_over c := by
  induction n with
  | zero => rfl
  | succ n ih =>
    show c_over (bC_countUneasy_2 (fC_countUneasy_2 c h hour n) c h hour n) = c_over c
    unfold bC_countUneasy_2
    (repeat' split) <;> first | exact over_mk.trans ih | exact ih
theorem ov_C_step_47 (c : CS) (h : HS) (hour : Int32) (n : Nat) : c_over (fC_step_47 c h hour n) = c_over c := by
  induction n with
  | zero => rfl
  | succ n ih =>
    show c_over (bC_step_47 (fC_step_47 c h hour n) c h hour n) = c_over c
    unfold bC_step_47
    rw [ov_coolDown, ov_heatUp, ov_bringPersons, ih]
theorem ov_step (c : CS) (h : HS) : c_over (scC_step c h) = c_over c + 1 := by
  have e : ∀ z : CS, c_over (scC_step_z z c h) = c_over z + 1 := by
    intro z
    unfold scC_step_z
    split
    · exact over_mk
    · unfold scC_countUneasy
      rw [ov_C_countUneasy_2, over_mk]
  unfold scC_step
  rw [e, ov_C_step_47]
  unfold scC_passWindows scC_passWalls
  rw [ov_C_passWindows_2, ov_C_passWalls_2, ov_C_step_7]
noncomputable def bR_run_47 (z : CS) (c : CS) (t : CS) (h : HS) (nn : Int32) (i : Nat) : CS := (scC_step z h)
noncomputable def fR_run_47 (c : CS) (t : CS) (h : HS) (nn : Int32) (n : Nat) : CS := Nat.rec (motive := fun _ => CS) c (fun i z => bR_run_47 z c t h nn i) n
theorem ov_R_run (c t : CS) (h : HS) (nn : Int32) (o : Nat) (ho : c_over c = nI o) (i : Nat) : c_over (fR_run_47 c t h nn i) = nI o + nI i := by
  induction i with
  | zero => exact ho.trans (by rw [nI_add, Nat.add_zero])
  | succ i ih =>
    show c_over (scC_step (fR_run_47 c t h nn i) h) = _
    rw [ov_step, ih, ← nI_1, Int32.add_assoc]
set_option maxRecDepth 100000 in
set_option maxHeartbeats 4000000 in
theorem lR_run_47 {l : Launch} {p : Program} {e : Env} {s : State} {m : MethodId} {args : Array Value} {below : List Frame} {meth : Method} {c0 : Code} {D : va_G} {A : Nat → Prop} {Q : State → Prop} (k : Nat → ClassId) (ah : Nat → Nat) (ar : Nat → Nat → Nat) (ac ax : Nat → Nat) (a : Nat) (c t : CS) (h : HS) (nn : Int32) (hI : kInv h) (o : Nat) (ho : c_over c = nI o) (ho5 : o ≤ 100000) (hn : nn = nI nn.toNatClampNeg) (hn5 : nn.toNatClampNeg ≤ 400) (C : kC p s m args c0 bR_run "RoomHours" kT D kcl (kty k) A 3) (kk : kW p l e ({ frames := 6, cells := 1, slots := 6, locals := 96 }) s m args below meth c0 D kcl A 3 0 0 Q 65 [(2, .int (nI nn.toNatClampNeg)), (0, .ref a), (1, .int nn)] [] (wR k ah ar ac ax a (fR_run_47 c t h nn nn.toNatClampNeg) t h)) : ∀ (n i : Nat), i ≤ nn.toNatClampNeg → nn.toNatClampNeg < i + n → kW p l e ({ frames := 6, cells := 1, slots := 6, locals := 96 }) s m args below meth c0 D kcl A 3 0 0 Q 47 [(2, .int (nI i)), (0, .ref a), (1, .int nn)] [] (wR k ah ar ac ax a (fR_run_47 c t h nn i) t h) := by
  intro n
  induction n with
  | zero => exact fun i h1 h2 => absurd h2 (by omega)
  | succ n ih =>
    intro i hi hin
    refine kw_iload_n C 0 dR_run_47 rfl rfl ?_
    refine kw_iload_n C 2 dR_run_48 rfl rfl ?_
    refine kw_icmp_ge (tgt := 65) C dR_run_49 (by decide) (fun c_1 => ?_) (fun c_1 => ?_)
    · skip
      have e9 : i = nn.toNatClampNeg := klp1 hn (by omega) hi c_1
      subst e9
      refine kw_sub [0, 1, 2] rfl ?_
      exact kk
    · skip
      have hlt : i < nn.toNatClampNeg := klp2 hn (by omega) c_1
      refine kw_aload_n C 1 dR_run_52 rfl rfl ?_
      refine kw_get (v := .ref (ac 0)) C 0 rfl rfl ku_R 1 (by decide) kt_190 rfl dR_run_53 ?_
      refine kw_callPv (ws' := (wR k ah ar ac ax a (scC_step (fR_run_47 c t h nn i) h) t h)) (st := []) C (cC_step l D k ah ar ac (fR_run_47 c t h nn i) h hI (know (ov_R_run c t h nn o ho i) (by omega))) (cwV 0 C.1.2.2.2.2 (kgV kt_418 kt_419 kt_420 kt_4 kt_421) rfl rfl rfl kdC_step ⟨Nat.le_of_ble_eq_true rfl, Nat.le_of_ble_eq_true rfl⟩) [1, 2, 3, 4, 5, 6, 7, 8, 9, 10, 11, 12, 13, 14, 15, 16, 17, 18, 19, 20, 21, 22, 23, 24, 25, 26, 27, 28, 29, 30] [0, 31, 32, 33, 34, 35, 36, 37] [0, 8, 9, 10, 11, 12, 13, 14, 15, 16, 17, 18, 19, 20, 21, 22, 23, 24, 25, 26, 27, 28, 29, 30, 31, 32, 33, 34, 35, 36, 37, 1, 2, 3, 4, 5, 6, 7] chR_C rhR_C ppR_C (by decide) (by decide) (by decide) (by decide) 0 0 rfl rfl rfl rfl rfl (Nat.le_of_ble_eq_true rfl) dR_run_56 ⟨Nat.zero_le _, Nat.zero_le _⟩ ?_
      refine kw_iinc (v := nI (i + 1)) (lv' := [(2, .int (nI (i + 1))), (0, .ref a), (1, .int nn)]) C 0 dR_run_59 rfl (nI_1 i) (by decide) rfl ?_
      refine kw_goto (tgt := 47) C dR_run_62 (by decide) ?_
      refine kw_sub [0, 1, 2] rfl ?_
      refine kw_eq rfl rfl ((congrArg (fun z90 => wR k ah ar ac ax a z90 t h) ((show (scC_step (fR_run_47 c t h nn i) h) = (bR_run_47 (fR_run_47 c t h nn i) c t h nn i) from by unfold bR_run_47; rfl).trans (show (bR_run_47 (fR_run_47 c t h nn i) c t h nn i) = (fR_run_47 c t h nn (i + 1)) from rfl)))) ?_
      exact ih (i + 1) (by omega) (by omega)
noncomputable def oR_run (c : CS) (t : CS) (h : HS) (nn : Int32) : String ⊕ Unit := if (rR_isWithin nn 1 400) = 0 then .inl "java/lang/IllegalArgumentException" else (if ((c_over c) + nn) ≤ 100000 then .inr () else .inl "java/lang/IllegalStateException")
noncomputable def rR_run (c : CS) (t : CS) (h : HS) (nn : Int32) : Int32 := if (rR_isWithin nn 1 400) = 0 then 0 else (if ((c_over c) + nn) ≤ 100000 then (c_over (fR_run_47 c t h nn nn.toNatClampNeg)) else 0)
noncomputable def scR_run (c : CS) (t : CS) (h : HS) (nn : Int32) : CS := if (rR_isWithin nn 1 400) = 0 then c else (if ((c_over c) + nn) ≤ 100000 then (fR_run_47 c t h nn nn.toNatClampNeg) else c)
set_option maxRecDepth 100000 in
set_option maxHeartbeats 4000000 in
theorem cR_run (l : Launch) (D : va_G) (k : Nat → ClassId) (ah : Nat → Nat) (ar : Nat → Nat → Nat) (ac ax : Nat → Nat) (a : Nat) (c t : CS) (h : HS) (nn : Int32) (hl9 : l.stackTraces = false) (hI : kInv h) (o : Nat) (ho : c_over c = nI o) (ho5 : o ≤ 100000) : kNi l yR_run (kwm yR_run bR_run 3 (some .int)) ({ frames := 6, cells := 1, slots := 6, locals := 96 }) D kcl (kty k) (wR k ah ar ac ax a c t h) (wR k ah ar ac ax a (scR_run c t h nn) t h) [.ref a, .int nn] (oR_run c t h nn) (rR_run c t h nn) := by
  refine k_enX_i (lv0 := [(0, .ref a), (1, .int nn)]) rfl (by decide +kernel) (Nat.le_of_ble_eq_true rfl) rfl ?_
  intro p e s m args below meth c0 C hr hlocks hEx hE hZ
  refine kw_iload_n C 1 dR_run_0 rfl rfl ?_
  refine kw_iconst (v := 1) C dR_run_1 (by decide) ?_
  refine kw_sipush (v := 400) C dR_run_2 (by decide) ?_
  refine kw_callSi (st := []) C (cR_isWithin l D k nn 1 400) (va_cwS 3 C.1.2.2.2.2 (kgO kt_208 kt_209 kt_1 kt_210) rfl rfl rfl kdR_isWithin ⟨Nat.le_of_ble_eq_true rfl, Nat.le_of_ble_eq_true rfl⟩) [] rfl rfl rfl rfl (Nat.le_of_ble_eq_true rfl) dR_run_5 ⟨Nat.zero_le _, Nat.zero_le _⟩ rfl (wR k ah ar ac ax a c t h) rfl ?_
  refine kw_if_ne (tgt := 21) C dR_run_8 (by decide) (fun c_1 => ?_) (fun c_1 => ?_)
  · skip
    refine kw_aload_n C 0 dR_run_21 rfl rfl ?_
    refine kw_get (v := .ref (ac 0)) C 0 rfl rfl ku_R 1 (by decide) kt_190 rfl dR_run_22 ?_
    refine kw_get (v := .int (c_over c)) C 1 rfl rfl ku_C 1 (by decide) kt_124 rfl dR_run_25 ?_
    refine kw_iload_n C 1 dR_run_28 rfl rfl ?_
    refine kw_iadd C dR_run_29 ?_
    refine kw_ldc (v := 100000) C kt_416 dR_run_30 ?_
    refine kw_icmp_le (tgt := 45) C dR_run_32 (by decide) (fun c_2 => ?_) (fun c_2 => ?_)
    · skip
      refine kw_iconst (v := 0) C dR_run_45 (by decide) ?_
      refine kw_istore_n (lv' := [(2, .int 0), (0, .ref a), (1, .int nn)]) C dR_run_46 rfl (by decide) rfl ?_
      refine kw_sub [0, 1, 2] rfl ?_
      refine lR_run_47 k ah ar ac ax a c t h nn hI o ho ho5 (krange c_1).1 (krange c_1).2 C ?_ (nn.toNatClampNeg + 1) 0 (Nat.zero_le _) (by omega)
      refine kw_aload_n C 1 dR_run_65 rfl rfl ?_
      refine kw_get (v := .ref (ac 0)) C 0 rfl rfl ku_R 1 (by decide) kt_190 rfl dR_run_66 ?_
      refine kw_get (v := .int (c_over (fR_run_47 c t h nn nn.toNatClampNeg))) C 1 rfl rfl ku_C 1 (by decide) kt_124 rfl dR_run_69 ?_
      refine kw_eq rfl rfl ((congrArg (fun z90 => wR k ah ar ac ax a z90 t h) (show (fR_run_47 c t h nn nn.toNatClampNeg) = scR_run c t h nn from by unfold scR_run; rw [if_neg c_1, if_pos c_2]))) ?_
      exact kx_iret C hr hlocks (by unfold oR_run; rw [if_neg c_1, if_pos c_2]) (by unfold rR_run; rw [if_neg c_1, if_pos c_2]) dR_run_72
    · skip
      exact kx_throwISE hl9 C hlocks hEx hE hZ (by unfold oR_run; rw [if_neg c_1, if_neg c_2]) 158 "there would be more than 100000 steps" (by decide +kernel) dR_run_35 dR_run_38 dR_run_39 dR_run_41 dR_run_44 (Nat.le_of_ble_eq_true rfl) (Nat.le_of_ble_eq_true rfl) (Nat.le_of_ble_eq_true rfl) (Nat.le_of_ble_eq_true rfl)
  · skip
    exact kx_throwIAE hl9 C hlocks hEx hE hZ (by unfold oR_run; rw [if_pos c_1]) 152 "no such number of steps" (by decide +kernel) dR_run_11 dR_run_14 dR_run_15 dR_run_17 dR_run_20 (Nat.le_of_ble_eq_true rfl) (Nat.le_of_ble_eq_true rfl) (Nat.le_of_ble_eq_true rfl) (Nat.le_of_ble_eq_true rfl)
