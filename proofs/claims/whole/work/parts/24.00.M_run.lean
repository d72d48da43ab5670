theorem krange {n : Int32} (h : ¬ rM_in n 1 400 = 0) : n = nI n.toNatClampNeg ∧ n.toNatClampNeg ≤ 400 := by
  unfold rM_in at h
  split at h
  · exact absurd rfl h
  · rename_i h1
    split at h
    · exact absurd rfl h
    · rename_i h2
      have h3 : ¬ n < 0 := by
        intro q
        apply h1
        rw [Int32.lt_iff_toInt_lt] at q ⊢
        have : (1 : Int32).toInt = 1 := by decide
        have : (0 : Int32).toInt = 0 := by decide
        omega
      obtain ⟨j, hj, e⟩ := nI_of h3
      rw [e, nI_clamp hj]
      rw [e, show (400 : Int32) = nI 400 from rfl, nI_ltI (by decide) hj] at h2
      exact ⟨rfl, by omega⟩
theorem now_mk {x0 : Nat → Int64} {x1 : Nat → Int32} {x2 : Nat → Int64} {x3 : Nat → Int64} {x4 : Nat → Int64} {x5 : Int32} {x6 : Int64} {x7 : Int64} {x8 : Int64} {x9 : Nat → Int64} {x10 : Int32} {x11 : Int32} {x12 : Int32} {x13 : Int32} {x14 : Nat → Int64} : m_now (x0, x1, x2, x3, x4, x5, x6, x7, x8, x9, x10, x11, x12, x13, x14) = x5 := rfl
theorem nw_M_flows_2 (gu : MU) (gv : MV) (h_ : Int32) (n : Nat) : m_now (fM_flows_2 gu gv h_ n) = m_now gv := by
  induction n with
  | zero => rfl
  | succ n ih =>
    show m_now (bM_flows_2 (fM_flows_2 gu gv h_ n) gu gv h_ n) = m_now gv
    unfold bM_flows_2
    (repeat' split) <;> exact now_mk.trans ih
theorem nw_M_flows_29 (gu : MU) (gv : MV) (h_ : Int32) (n : Nat) : m_now (fM_flows_29 gu gv h_ n) = m_now gv := by
  induction n with
  | zero => rfl
  | succ n ih =>
    show m_now (bM_flows_29 (fM_flows_29 gu gv h_ n) gu gv h_ n) = m_now gv
    unfold bM_flows_29
    (repeat' split) <;> exact now_mk.trans ih
theorem nw_M_flows_145 (gu : MU) (gv : MV) (h_ : Int32) (n : Nat) : m_now (fM_flows_145 gu gv h_ n) = m_now gv := by
  induction n with
  | zero => rfl
  | succ n ih =>
    show m_now (bM_flows_145 (fM_flows_145 gu gv h_ n) gu gv h_ n) = m_now gv
    unfold bM_flows_145
    (repeat' split) <;> exact now_mk.trans ih
theorem nw_M_flows_248 (gu : MU) (gv : MV) (h_ : Int32) (n : Nat) : m_now (fM_flows_248 gu gv h_ n) = m_now gv := by
  induction n with
  | zero => rfl
  | succ n ih =>
    show m_now (bM_flows_248 (fM_flows_248 gu gv h_ n) gu gv h_ n) = m_now gv
    unfold bM_flows_248
    (repeat' split) <;> exact now_mk.trans ih
theorem nw_M_step_17 (gu : MU) (gv : MV) (h_ : Int32) (n : Nat) : m_now (fM_step_17 gu gv h_ n) = m_now gv := by
  induction n with
  | zero => rfl
  | succ n ih =>
    show m_now (bM_step_17 (fM_step_17 gu gv h_ n) gu gv h_ n) = m_now gv
    unfold bM_step_17
    (repeat' split) <;> exact now_mk.trans ih
theorem nw_M_step_312 (gu : MU) (gv : MV) (h_ : Int32) (n : Nat) : m_now (fM_step_312 gu gv h_ n) = m_now gv := by
  induction n with
  | zero => rfl
  | succ n ih =>
    show m_now (bM_step_312 (fM_step_312 gu gv h_ n) gu gv h_ n) = m_now gv
    unfold bM_step_312
    (repeat' split) <;> exact now_mk.trans ih
theorem nw_flows (gu : MU) (gv : MV) (h_ : Int32) : m_now (sgvM_flows gu gv h_) = m_now gv := by
  unfold sgvM_flows
  rw [nw_M_flows_248, nw_M_flows_145, nw_M_flows_29, nw_M_flows_2]
theorem nw_step (gu : MU) (gv : MV) : m_now (sgvM_step gu gv) = m_now gv + 1 := by
  have e : ∀ z : MV, m_now (sgvM_step_z z gu gv) = m_now z + 1 := by
    intro z
    unfold sgvM_step_z
    split
    · rw [nw_M_step_312, now_mk]
    · exact now_mk
  unfold sgvM_step
  rw [e, nw_M_step_17, nw_flows]
theorem mInv_t {gu : MU} {x : Int32} (hI : mInv gu) : mInv (x, (m_rooms gu), (m_store gu), (m_mostHeating gu), (m_mostCooling gu), (m_began gu), (m_walls gu), (m_wallRoom gu), (m_wallOther gu), (m_leads gu), (m_windows gu), (m_windowRoom gu), (m_windowSide gu), (m_windowArea gu), (m_windowLimit gu), (m_outside gu), (m_sun gu), (m_persons gu), (m_set gu), (m_cool gu), (m_low gu), (m_high gu)) := hI
theorem know {x : Int32} {o i : Nat} (hx : x = nI o + nI i) (h : o + i < 2 ^ 31) : ¬ x < 0 := by
  rw [hx, nI_add]
  exact nI_pos h
noncomputable def bM_run_46 (z : MV) (gu : MU) (gv : MV) (nn : Int32) (i : Nat) : MV := (sgvM_step gu z)
noncomputable def fM_run_46 (gu : MU) (gv : MV) (nn : Int32) (n : Nat) : MV := Nat.rec (motive := fun _ => MV) gv (fun i z => bM_run_46 z gu gv nn i) n
theorem nw_M_run (gu : MU) (gv : MV) (nn : Int32) (o : Nat) (ho : m_now gv = nI o) (i : Nat) : m_now (fM_run_46 gu gv nn i) = nI o + nI i := by
  induction i with
  | zero => exact ho.trans (by rw [nI_add, Nat.add_zero])
  | succ i ih =>
    show m_now (sgvM_step gu (fM_run_46 gu gv nn i)) = _
    rw [nw_step, ih, ← nI_1, Int32.add_assoc]
set_option maxRecDepth 100000 in
set_option maxHeartbeats 4000000 in
theorem lM_run_46 {l : Launch} {p : Program} {e : Env} {s : State} {m : MethodId} {args : Array Value} {below : List Frame} {meth : Method} {c0 : Code} {D : va_G} {A : Nat → Prop} {Q : State → Prop} (k : Nat → ClassId) (am : Nat → Nat) (gu : MU) (gv : MV) (nn : Int32) (hI : mInv gu) (o : Nat) (ho : m_now gv = nI o) (ho5 : o ≤ 100000) (hn : nn = nI nn.toNatClampNeg) (hn5 : nn.toNatClampNeg ≤ 400) (C : kC p s m args c0 bM_run "RoomHoursModel" kT D kcl (kty k) A 3) (kk : kW p l e ({ frames := 4, cells := 0, slots := 0, locals := 103 }) s m args below meth c0 D kcl A 3 0 0 Q 61 [(2, .int (nI nn.toNatClampNeg)), (0, .ref (am 0)), (1, .int nn)] [] (wM k am gu (fM_run_46 gu gv nn nn.toNatClampNeg))) : ∀ (n i : Nat), i ≤ nn.toNatClampNeg → nn.toNatClampNeg < i + n → kW p l e ({ frames := 4, cells := 0, slots := 0, locals := 103 }) s m args below meth c0 D kcl A 3 0 0 Q 46 [(2, .int (nI i)), (0, .ref (am 0)), (1, .int nn)] [] (wM k am gu (fM_run_46 gu gv nn i)) := by
  intro n
  induction n with
  | zero => exact fun i h1 h2 => absurd h2 (by omega)
  | succ n ih =>
    intro i hi hin
    refine kw_iload_n C 0 dM_run_46 rfl rfl ?_
    refine kw_iload_n C 2 dM_run_47 rfl rfl ?_
    refine kw_icmp_ge (tgt := 61) C dM_run_48 (by decide) (fun c_1 => ?_) (fun c_1 => ?_)
    · skip
      have e9 : i = nn.toNatClampNeg := klp1 hn (by omega) hi c_1
      subst e9
      refine kw_sub [0, 1, 2] rfl ?_
      exact kk
    · skip
      have hlt : i < nn.toNatClampNeg := klp2 hn (by omega) c_1
      refine kw_aload_n C 1 dM_run_51 rfl rfl ?_
      refine kw_callAv (w1 := (wM k am gu (sgvM_step gu (fM_run_46 gu gv nn i)))) (st := []) C (cM_step l D k am gu (fM_run_46 gu gv nn i) hI (know (nw_M_run gu gv nn o ho i) (by omega))) (cwV 0 C.1.2.2.2.2 (kgV kt_729 kt_731 ks_M_step kt_5 kt_732) rfl rfl rfl kdM_step ⟨Nat.le_of_ble_eq_true rfl, Nat.le_of_ble_eq_true rfl⟩) 0 3 rfl rfl rfl rfl rfl (Nat.le_of_ble_eq_true rfl) dM_run_52 ⟨Nat.zero_le _, Nat.zero_le _⟩ (ad_wM.trans ad_wM.symm) ?_
      refine kw_iinc (v := nI (i + 1)) (lv' := [(2, .int (nI (i + 1))), (0, .ref (am 0)), (1, .int nn)]) C 0 dM_run_55 rfl (nI_1 i) (by decide) rfl ?_
      refine kw_goto (tgt := 46) C dM_run_58 (by decide) ?_
      refine kw_sub [0, 1, 2] rfl ?_
      refine kw_eq rfl rfl ((congrArg (fun z90 => wM k am gu z90) ((show (sgvM_step gu (fM_run_46 gu gv nn i)) = (bM_run_46 (fM_run_46 gu gv nn i) gu gv nn i) from by unfold bM_run_46; rfl).trans (show (bM_run_46 (fM_run_46 gu gv nn i) gu gv nn i) = (fM_run_46 gu gv nn (i + 1)) from rfl)))) ?_
      exact ih (i + 1) (by omega) (by omega)
noncomputable def rM_run (gu : MU) (gv : MV) (nn : Int32) : Int32 := if (rM_in nn 1 400) = 0 then 0 else (if ((m_now gv) + nn) ≤ 100000 then (m_now (fM_run_46 (0, (m_rooms gu), (m_store gu), (m_mostHeating gu), (m_mostCooling gu), (m_began gu), (m_walls gu), (m_wallRoom gu), (m_wallOther gu), (m_leads gu), (m_windows gu), (m_windowRoom gu), (m_windowSide gu), (m_windowArea gu), (m_windowLimit gu), (m_outside gu), (m_sun gu), (m_persons gu), (m_set gu), (m_cool gu), (m_low gu), (m_high gu)) gv nn nn.toNatClampNeg)) else 0)
noncomputable def sguM_run (gu : MU) (gv : MV) (nn : Int32) : MU := if (rM_in nn 1 400) = 0 then (1, (m_rooms gu), (m_store gu), (m_mostHeating gu), (m_mostCooling gu), (m_began gu), (m_walls gu), (m_wallRoom gu), (m_wallOther gu), (m_leads gu), (m_windows gu), (m_windowRoom gu), (m_windowSide gu), (m_windowArea gu), (m_windowLimit gu), (m_outside gu), (m_sun gu), (m_persons gu), (m_set gu), (m_cool gu), (m_low gu), (m_high gu)) else (if ((m_now gv) + nn) ≤ 100000 then (0, (m_rooms gu), (m_store gu), (m_mostHeating gu), (m_mostCooling gu), (m_began gu), (m_walls gu), (m_wallRoom gu), (m_wallOther gu), (m_leads gu), (m_windows gu), (m_windowRoom gu), (m_windowSide gu), (m_windowArea gu), (m_windowLimit gu), (m_outside gu), (m_sun gu), (m_persons gu), (m_set gu), (m_cool gu), (m_low gu), (m_high gu)) else (2, (m_rooms gu), (m_store gu), (m_mostHeating gu), (m_mostCooling gu), (m_began gu), (m_walls gu), (m_wallRoom gu), (m_wallOther gu), (m_leads gu), (m_windows gu), (m_windowRoom gu), (m_windowSide gu), (m_windowArea gu), (m_windowLimit gu), (m_outside gu), (m_sun gu), (m_persons gu), (m_set gu), (m_cool gu), (m_low gu), (m_high gu)))
noncomputable def sgvM_run (gu : MU) (gv : MV) (nn : Int32) : MV := if (rM_in nn 1 400) = 0 then gv else (if ((m_now gv) + nn) ≤ 100000 then (fM_run_46 (0, (m_rooms gu), (m_store gu), (m_mostHeating gu), (m_mostCooling gu), (m_began gu), (m_walls gu), (m_wallRoom gu), (m_wallOther gu), (m_leads gu), (m_windows gu), (m_windowRoom gu), (m_windowSide gu), (m_windowArea gu), (m_windowLimit gu), (m_outside gu), (m_sun gu), (m_persons gu), (m_set gu), (m_cool gu), (m_low gu), (m_high gu)) gv nn nn.toNatClampNeg) else gv)
set_option maxRecDepth 100000 in
set_option maxHeartbeats 4000000 in
theorem cM_run (l : Launch) (D : va_G) (k : Nat → ClassId) (am : Nat → Nat) (gu : MU) (gv : MV) (nn : Int32) (hI : mInv gu) (o : Nat) (ho : m_now gv = nI o) (ho5 : o ≤ 100000) : kMi l yM_run (kwm yM_run bM_run 3 (some .int)) ({ frames := 4, cells := 0, slots := 0, locals := 103 }) D kcl (kty k) (wM k am gu gv) (wM k am (sguM_run gu gv nn) (sgvM_run gu gv nn)) [.ref (am 0), .int nn] (rM_run gu gv nn) := by
  refine k_entry_i (lv0 := [(0, .ref (am 0)), (1, .int nn)]) rfl (by decide +kernel) (Nat.le_of_ble_eq_true rfl) rfl ?_
  intro p e s m args below meth c0 C hr hlocks
  refine kw_aload_n C 0 dM_run_0 rfl rfl ?_
  refine kw_iload_n C 1 dM_run_1 rfl rfl ?_
  refine kw_iconst (v := 1) C dM_run_2 (by decide) ?_
  refine kw_sipush (v := 400) C dM_run_3 (by decide) ?_
  refine kw_callSi (st := [.ref (am 0)]) C (cM_in l D k nn 1 400) (va_cwS 3 C.1.2.2.2.2 (kgO kt_676 kt_677 kt_5 kt_678) rfl rfl rfl kdM_in ⟨Nat.le_of_ble_eq_true rfl, Nat.le_of_ble_eq_true rfl⟩) [] rfl rfl rfl rfl (Nat.le_of_ble_eq_true rfl) dM_run_6 ⟨Nat.zero_le _, Nat.zero_le _⟩ rfl (wM k am gu gv) rfl ?_
  refine kw_if_ne (tgt := 16) C dM_run_9 (by decide) (fun c_1 => ?_) (fun c_1 => ?_)
  · skip
    refine kw_aload_n C 0 dM_run_16 rfl rfl ?_
    refine kw_get (v := .int (m_now gv)) C 0 rfl rfl ku_M 27 (by decide) kt_583 rfl dM_run_17 ?_
    refine kw_iload_n C 1 dM_run_20 rfl rfl ?_
    refine kw_iadd C dM_run_21 ?_
    refine kw_ldc (v := 100000) C kt_728 dM_run_22 ?_
    refine kw_icmp_le (tgt := 31) C dM_run_24 (by decide) (fun c_2 => ?_) (fun c_2 => ?_)
    · skip
      refine kw_iconst (v := 0) C dM_run_31 (by decide) ?_
      refine kw_put C 0 rfl rfl ku_M tM_ok nM 0 (by decide) kt_556 rfl (ty := .int) (by decide +kernel) rfl rfl (Nat.le_of_ble_eq_true rfl) dM_run_32 (wM_gu k am 0 (m_rooms gu) (m_store gu) (m_mostHeating gu) (m_mostCooling gu) (m_began gu) (m_walls gu) (m_wallRoom gu) (m_wallOther gu) (m_leads gu) (m_windows gu) (m_windowRoom gu) (m_windowSide gu) (m_windowArea gu) (m_windowLimit gu) (m_outside gu) (m_sun gu) (m_persons gu) (m_set gu) (m_cool gu) (m_low gu) (m_high gu) gv) rfl ?_
      refine kw_aload_n C 0 dM_run_35 rfl rfl ?_
      refine kw_get (v := .int 0) C 0 rfl rfl ku_M 0 (by decide) kt_556 rfl dM_run_36 ?_
      refine kw_if_le (tgt := 44) C dM_run_39 (by decide) (fun c_3 => ?_) (fun c_3 => ?_)
      · skip
        refine kw_iconst (v := 0) C dM_run_44 (by decide) ?_
        refine kw_istore_n (lv' := [(2, .int 0), (0, .ref (am 0)), (1, .int nn)]) C dM_run_45 rfl (by decide) rfl ?_
        refine kw_eq rfl rfl mk_wM_gu ?_
        refine kw_sub [0, 1, 2] rfl ?_
        refine lM_run_46 k am (0, (m_rooms gu), (m_store gu), (m_mostHeating gu), (m_mostCooling gu), (m_began gu), (m_walls gu), (m_wallRoom gu), (m_wallOther gu), (m_leads gu), (m_windows gu), (m_windowRoom gu), (m_windowSide gu), (m_windowArea gu), (m_windowLimit gu), (m_outside gu), (m_sun gu), (m_persons gu), (m_set gu), (m_cool gu), (m_low gu), (m_high gu)) gv nn (mInv_t hI) o ho ho5 (krange c_1).1 (krange c_1).2 C ?_ (nn.toNatClampNeg + 1) 0 (Nat.zero_le _) (by omega)
        refine kw_aload_n C 1 dM_run_61 rfl rfl ?_
        refine kw_get (v := .int (m_now (fM_run_46 (0, (m_rooms gu), (m_store gu), (m_mostHeating gu), (m_mostCooling gu), (m_began gu), (m_walls gu), (m_wallRoom gu), (m_wallOther gu), (m_leads gu), (m_windows gu), (m_windowRoom gu), (m_windowSide gu), (m_windowArea gu), (m_windowLimit gu), (m_outside gu), (m_sun gu), (m_persons gu), (m_set gu), (m_cool gu), (m_low gu), (m_high gu)) gv nn nn.toNatClampNeg))) C 0 rfl rfl ku_M 27 (by decide) kt_583 rfl dM_run_62 ?_
        refine kw_eq rfl rfl ((kc2 (f := fun z90 z91 => wM k am z90 z91) (show (0, (m_rooms gu), (m_store gu), (m_mostHeating gu), (m_mostCooling gu), (m_began gu), (m_walls gu), (m_wallRoom gu), (m_wallOther gu), (m_leads gu), (m_windows gu), (m_windowRoom gu), (m_windowSide gu), (m_windowArea gu), (m_windowLimit gu), (m_outside gu), (m_sun gu), (m_persons gu), (m_set gu), (m_cool gu), (m_low gu), (m_high gu)) = sguM_run gu gv nn from by unfold sguM_run; rw [if_neg c_1, if_pos c_2]) (show (fM_run_46 (0, (m_rooms gu), (m_store gu), (m_mostHeating gu), (m_mostCooling gu), (m_began gu), (m_walls gu), (m_wallRoom gu), (m_wallOther gu), (m_leads gu), (m_windows gu), (m_windowRoom gu), (m_windowSide gu), (m_windowArea gu), (m_windowLimit gu), (m_outside gu), (m_sun gu), (m_persons gu), (m_set gu), (m_cool gu), (m_low gu), (m_high gu)) gv nn nn.toNatClampNeg) = sgvM_run gu gv nn from by unfold sgvM_run; rw [if_neg c_1, if_pos c_2]))) ?_
        exact kw_iret C hr hlocks (by unfold rM_run; rw [if_neg c_1, if_pos c_2]) dM_run_65
      · skip
        exact absurd (by decide) c_3
    · skip
      refine kw_iconst (v := 2) C dM_run_27 (by decide) ?_
      refine kw_goto (tgt := 32) C dM_run_28 (by decide) ?_
      refine kw_put C 0 rfl rfl ku_M tM_ok nM 0 (by decide) kt_556 rfl (ty := .int) (by decide +kernel) rfl rfl (Nat.le_of_ble_eq_true rfl) dM_run_32 (wM_gu k am 2 (m_rooms gu) (m_store gu) (m_mostHeating gu) (m_mostCooling gu) (m_began gu) (m_walls gu) (m_wallRoom gu) (m_wallOther gu) (m_leads gu) (m_windows gu) (m_windowRoom gu) (m_windowSide gu) (m_windowArea gu) (m_windowLimit gu) (m_outside gu) (m_sun gu) (m_persons gu) (m_set gu) (m_cool gu) (m_low gu) (m_high gu) gv) rfl ?_
      refine kw_aload_n C 0 dM_run_35 rfl rfl ?_
      refine kw_get (v := .int 2) C 0 rfl rfl ku_M 0 (by decide) kt_556 rfl dM_run_36 ?_
      refine kw_if_le (tgt := 44) C dM_run_39 (by decide) (fun c_4 => ?_) (fun c_4 => ?_)
      · skip
        exact absurd c_4 (by decide)
      · skip
        refine kw_iconst (v := 0) C dM_run_42 (by decide) ?_
        refine kw_eq rfl rfl (mk_wM_gu.trans (kc2 (f := fun z90 z91 => wM k am z90 z91) (show (2, (m_rooms gu), (m_store gu), (m_mostHeating gu), (m_mostCooling gu), (m_began gu), (m_walls gu), (m_wallRoom gu), (m_wallOther gu), (m_leads gu), (m_windows gu), (m_windowRoom gu), (m_windowSide gu), (m_windowArea gu), (m_windowLimit gu), (m_outside gu), (m_sun gu), (m_persons gu), (m_set gu), (m_cool gu), (m_low gu), (m_high gu)) = sguM_run gu gv nn from by unfold sguM_run; rw [if_neg c_1, if_neg c_2]) (show gv = sgvM_run gu gv nn from by unfold sgvM_run; rw [if_neg c_1, if_neg c_2]))) ?_
        exact kw_iret C hr hlocks (by unfold rM_run; rw [if_neg c_1, if_neg c_2]) dM_run_43
  · skip
    refine kw_iconst (v := 1) C dM_run_12 (by decide) ?_
    refine kw_goto (tgt := 32) C dM_run_13 (by decide) ?_
    refine kw_put C 0 rfl rfl ku_M tM_ok nM 0 (by decide) kt_556 rfl (ty := .int) (by decide +kernel) rfl rfl (Nat.le_of_ble_eq_true rfl) dM_run_32 (wM_gu k am 1 (m_rooms gu) (m_store gu) (m_mostHeating gu) (m_mostCooling gu) (m_began gu) (m_walls gu) (m_wallRoom gu) (m_wallOther gu) (m_leads gu) (m_windows gu) (m_windowRoom gu) (m_windowSide gu) (m_windowArea gu) (m_windowLimit gu) (m_outside gu) (m_sun gu) (m_persons gu) (m_set gu) (m_cool gu) (m_low gu) (m_high gu) gv) rfl ?_
    refine kw_aload_n C 0 dM_run_35 rfl rfl ?_
    refine kw_get (v := .int 1) C 0 rfl rfl ku_M 0 (by decide) kt_556 rfl dM_run_36 ?_
    refine kw_if_le (tgt := 44) C dM_run_39 (by decide) (fun c_5 => ?_) (fun c_5 => ?_)
    · skip
      exact absurd c_5 (by decide)
    · skip
      refine kw_iconst (v := 0) C dM_run_42 (by decide) ?_
      refine kw_eq rfl rfl (mk_wM_gu.trans (kc2 (f := fun z90 z91 => wM k am z90 z91) (show (1, (m_rooms gu), (m_store gu), (m_mostHeating gu), (m_mostCooling gu), (m_began gu), (m_walls gu), (m_wallRoom gu), (m_wallOther gu), (m_leads gu), (m_windows gu), (m_windowRoom gu), (m_windowSide gu), (m_windowArea gu), (m_windowLimit gu), (m_outside gu), (m_sun gu), (m_persons gu), (m_set gu), (m_cool gu), (m_low gu), (m_high gu)) = sguM_run gu gv nn from by unfold sguM_run; rw [if_pos c_1]) (show gv = sgvM_run gu gv nn from by unfold sgvM_run; rw [if_pos c_1]))) ?_
      exact kw_iret C hr hlocks (by unfold rM_run; rw [if_pos c_1]) dM_run_43
