theorem krw {x hi : Int32} {N : Nat} (hN : hi = nI N - 1) (hb : N < 2 ^ 30) (hc : ¬ rR_isWithin x 0 hi = 0) : vp_in x N := krin hN hb hc
theorem krh {x : Int32} (hc : ¬ rR_isHour x = 0) : vp_in x 24 := krw rfl (by decide) hc
theorem krs {x : Int32} (hc : ¬ rR_isSide x = 0) : vp_in x 4 := krw rfl (by decide) hc
noncomputable def oR_outside (c : CS) (t : CS) (h : HS) (hour : Int32) (warmth : Int32) : String ⊕ Unit := if (rR_isHour hour) = 0 then .inl "java/lang/IllegalArgumentException" else (if (rR_isWarmth warmth) = 0 then .inl "java/lang/IllegalArgumentException" else .inr ())
noncomputable def rR_outside (c : CS) (t : CS) (h : HS) (hour : Int32) (warmth : Int32) : Int32 := if (rR_isHour hour) = 0 then 0 else (if (rR_isWarmth warmth) = 0 then 0 else (h_outsides h) hour.toNatClampNeg)
noncomputable def shR_outside (c : CS) (t : CS) (h : HS) (hour : Int32) (warmth : Int32) : HS := if (rR_isHour hour) = 0 then h else (if (rR_isWarmth warmth) = 0 then h else ((h_rooms h), (h_walls h), (h_windows h), (h_low h), (h_high h), (h_stores h), (h_leadsAt h), (h_mosts h), (h_plans h), (h_wallFrom h), (h_wallTo h), (h_wallLeads h), (h_windowRoom h), (h_windowSide h), (h_windowArea h), (h_windowLimit h), (upd (h_outsides h) hour.toNatClampNeg warmth), (h_suns h)))
set_option maxRecDepth 100000 in
set_option maxHeartbeats 4000000 in
theorem cR_outside (l : Launch) (D : va_G) (k : Nat → ClassId) (ah : Nat → Nat) (ar : Nat → Nat → Nat) (ac ax : Nat → Nat) (a : Nat) (c t : CS) (h : HS) (hour : Int32) (warmth : Int32) (hl9 : l.stackTraces = false) : kNi l yR_outside (kwm yR_outside bR_outside 4 (some .int)) ({ frames := 6, cells := 1, slots := 6, locals := 82 }) D kcl (kty k) (wR k ah ar ac ax a c t h) (wR k ah ar ac ax a c t (shR_outside c t h hour warmth)) [.ref a, .int hour, .int warmth] (oR_outside c t h hour warmth) (rR_outside c t h hour warmth) := by
  refine k_enX_i (lv0 := [(0, .ref a), (1, .int hour), (2, .int warmth)]) rfl (by decide +kernel) (Nat.le_of_ble_eq_true rfl) rfl ?_
  intro p e s m args below meth c0 C hr hlocks hEx hE hZ
  refine kw_iload_n C 1 dR_outside_0 rfl rfl ?_
  refine kw_callSi (st := []) C (cR_isHour l D k hour) (va_cwS 1 C.1.2.2.2.2 (kgO kt_366 kt_367 kt_1 kt_368) rfl rfl rfl kdR_isHour ⟨Nat.le_of_ble_eq_true rfl, Nat.le_of_ble_eq_true rfl⟩) [] rfl rfl rfl rfl (Nat.le_of_ble_eq_true rfl) dR_outside_1 ⟨Nat.zero_le _, Nat.zero_le _⟩ rfl (wR k ah ar ac ax a c t h) rfl ?_
  refine kw_if_eq (tgt := 14) C dR_outside_4 (by decide) (fun c_1 => ?_) (fun c_1 => ?_)
  · skip
    exact kx_throwIAE hl9 C hlocks hEx hE hZ (by unfold oR_outside; rw [if_pos c_1]) 117 "no such hour or warmth" (by decide +kernel) dR_outside_14 dR_outside_17 dR_outside_18 dR_outside_20 dR_outside_23 (Nat.le_of_ble_eq_true rfl) (Nat.le_of_ble_eq_true rfl) (Nat.le_of_ble_eq_true rfl) (Nat.le_of_ble_eq_true rfl)
  · skip
    refine kw_iload_n C 2 dR_outside_7 rfl rfl ?_
    refine kw_callSi (st := []) C (cR_isWarmth l D k warmth) (va_cwS 1 C.1.2.2.2.2 (kgO kt_211 kt_212 kt_1 kt_213) rfl rfl rfl kdR_isWarmth ⟨Nat.le_of_ble_eq_true rfl, Nat.le_of_ble_eq_true rfl⟩) [] rfl rfl rfl rfl (Nat.le_of_ble_eq_true rfl) dR_outside_8 ⟨Nat.zero_le _, Nat.zero_le _⟩ rfl (wR k ah ar ac ax a c t h) rfl ?_
    refine kw_if_ne (tgt := 24) C dR_outside_11 (by decide) (fun c_2 => ?_) (fun c_2 => ?_)
    · skip
      refine kw_aload_n C 0 dR_outside_24 rfl rfl ?_
      refine kw_get (v := .ref (ah 0)) C 0 rfl rfl ku_R 0 (by decide) kt_189 rfl dR_outside_25 ?_
      refine kw_get (v := .ref (ah 12)) C 8 rfl rfl ku_H 14 (by decide) kt_69 rfl dR_outside_28 ?_
      refine kw_iload_n C 1 dR_outside_31 rfl rfl ?_
      refine kw_iald C 18 0 rfl rfl (kix_of (krh c_1)) dR_outside_32 ?_
      refine kw_istore_n (lv' := [(3, .int ((h_outsides h) hour.toNatClampNeg)), (0, .ref a), (1, .int hour), (2, .int warmth)]) C dR_outside_33 rfl (by decide) rfl ?_
      refine kw_aload_n C 1 dR_outside_34 rfl rfl ?_
      refine kw_get (v := .ref (ah 0)) C 0 rfl rfl ku_R 0 (by decide) kt_189 rfl dR_outside_35 ?_
      refine kw_get (v := .ref (ah 12)) C 8 rfl rfl ku_H 14 (by decide) kt_69 rfl dR_outside_38 ?_
      refine kw_iload_n C 2 dR_outside_41 rfl rfl ?_
      refine kw_iload_n C 3 dR_outside_42 rfl rfl ?_
      refine kw_iast C 18 0 rfl rfl (kix_of (krh c_1)) dR_outside_43 (wR_h k ah ar ac ax a c t (h_rooms h) (h_walls h) (h_windows h) (h_low h) (h_high h) (h_stores h) (h_leadsAt h) (h_mosts h) (h_plans h) (h_wallFrom h) (h_wallTo h) (h_wallLeads h) (h_windowRoom h) (h_windowSide h) (h_windowArea h) (h_windowLimit h) (upd (h_outsides h) hour.toNatClampNeg warmth) (h_suns h)) rfl ?_
      refine kw_iload_n C 0 dR_outside_44 rfl rfl ?_
      refine kw_eq rfl rfl (mk_wR_h.trans (congrArg (fun z90 => wR k ah ar ac ax a c t z90) (show ((h_rooms h), (h_walls h), (h_windows h), (h_low h), (h_high h), (h_stores h), (h_leadsAt h), (h_mosts h), (h_plans h), (h_wallFrom h), (h_wallTo h), (h_wallLeads h), (h_windowRoom h), (h_windowSide h), (h_windowArea h), (h_windowLimit h), (upd (h_outsides h) hour.toNatClampNeg warmth), (h_suns h)) = shR_outside c t h hour warmth from by unfold shR_outside; rw [if_neg c_1, if_neg c_2]))) ?_
      exact kx_iret C hr hlocks (by unfold oR_outside; rw [if_neg c_1, if_neg c_2]) (by unfold rR_outside; rw [if_neg c_1, if_neg c_2]) dR_outside_45
    · skip
      exact kx_throwIAE hl9 C hlocks hEx hE hZ (by unfold oR_outside; rw [if_neg c_1, if_pos c_2]) 117 "no such hour or warmth" (by decide +kernel) dR_outside_14 dR_outside_17 dR_outside_18 dR_outside_20 dR_outside_23 (Nat.le_of_ble_eq_true rfl) (Nat.le_of_ble_eq_true rfl) (Nat.le_of_ble_eq_true rfl) (Nat.le_of_ble_eq_true rfl)
noncomputable def oR_ease (c : CS) (t : CS) (h : HS) (low : Int32) (high : Int32) : String ⊕ Unit := if (rR_isWarmth low) = 0 then .inl "java/lang/IllegalArgumentException" else (if (rR_isWarmth high) = 0 then .inl "java/lang/IllegalArgumentException" else (if low ≤ high then .inr () else .inl "java/lang/IllegalArgumentException"))
