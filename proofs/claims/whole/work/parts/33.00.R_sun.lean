theorem pR_mosts (k : Nat → ClassId) (ah : Nat → Nat) (ar : Nat → Nat → Nat) (ac ax : Nat → Nat) (a : Nat) (c t : CS) (h : HS) : ∀ j : Nat, j < 2 → (wR k ah ar ac ax a c t h)[20 + j]? = some (ar 0 j, .inl (k 0, 8, .inl (h_mosts h j)))
  | 0, _ => rfl
  | 1, _ => rfl
  | j + 2, hj => absurd hj (by omega)
set_option maxRecDepth 100000 in
theorem sR_mosts (k : Nat → ClassId) (ah : Nat → Nat) (ar : Nat → Nat → Nat) (ac ax : Nat → Nat) (a : Nat) (c t : CS) (h : HS) (x : Nat → Int32) : ∀ j : Nat, j < 2 → (wR k ah ar ac ax a c t h).set (20 + j) (ar 0 j, .inl (k 0, 8, .inl x)) = wR_h k ah ar ac ax a c t (h_rooms h) (h_walls h) (h_windows h) (h_low h) (h_high h) (h_stores h) (h_leadsAt h) (va_up (h_mosts h) j x) (h_plans h) (h_wallFrom h) (h_wallTo h) (h_wallLeads h) (h_windowRoom h) (h_windowSide h) (h_windowArea h) (h_windowLimit h) (h_outsides h) (h_suns h)
  | 0, _ => rfl
  | 1, _ => rfl
  | j + 2, hj => absurd hj (by omega)
theorem pR_plans (k : Nat → ClassId) (ah : Nat → Nat) (ar : Nat → Nat → Nat) (ac ax : Nat → Nat) (a : Nat) (c t : CS) (h : HS) : ∀ j : Nat, j < 3 → (wR k ah ar ac ax a c t h)[23 + j]? = some (ar 1 j, .inl (k 0, 192, .inl (h_plans h j)))
  | 0, _ => rfl
  | 1, _ => rfl
  | 2, _ => rfl
  | j + 3, hj => absurd hj (by omega)
set_option maxRecDepth 100000 in
theorem sR_plans (k : Nat → ClassId) (ah : Nat → Nat) (ar : Nat → Nat → Nat) (ac ax : Nat → Nat) (a : Nat) (c t : CS) (h : HS) (x : Nat → Int32) : ∀ j : Nat, j < 3 → (wR k ah ar ac ax a c t h).set (23 + j) (ar 1 j, .inl (k 0, 192, .inl x)) = wR_h k ah ar ac ax a c t (h_rooms h) (h_walls h) (h_windows h) (h_low h) (h_high h) (h_stores h) (h_leadsAt h) (h_mosts h) (va_up (h_plans h) j x) (h_wallFrom h) (h_wallTo h) (h_wallLeads h) (h_windowRoom h) (h_windowSide h) (h_windowArea h) (h_windowLimit h) (h_outsides h) (h_suns h)
  | 0, _ => rfl
  | 1, _ => rfl
  | 2, _ => rfl
  | j + 3, hj => absurd hj (by omega)
theorem pR_suns (k : Nat → ClassId) (ah : Nat → Nat) (ar : Nat → Nat → Nat) (ac ax : Nat → Nat) (a : Nat) (c t : CS) (h : HS) : ∀ j : Nat, j < 4 → (wR k ah ar ac ax a c t h)[27 + j]? = some (ar 2 j, .inl (k 0, 24, .inl (h_suns h j)))
  | 0, _ => rfl
  | 1, _ => rfl
  | 2, _ => rfl
  | 3, _ => rfl
  | j + 4, hj => absurd hj (by omega)
set_option maxRecDepth 100000 in
theorem sR_suns (k : Nat → ClassId) (ah : Nat → Nat) (ar : Nat → Nat → Nat) (ac ax : Nat → Nat) (a : Nat) (c t : CS) (h : HS) (x : Nat → Int32) : ∀ j : Nat, j < 4 → (wR k ah ar ac ax a c t h).set (27 + j) (ar 2 j, .inl (k 0, 24, .inl x)) = wR_h k ah ar ac ax a c t (h_rooms h) (h_walls h) (h_windows h) (h_low h) (h_high h) (h_stores h) (h_leadsAt h) (h_mosts h) (h_plans h) (h_wallFrom h) (h_wallTo h) (h_wallLeads h) (h_windowRoom h) (h_windowSide h) (h_windowArea h) (h_windowLimit h) (h_outsides h) (va_up (h_suns h) j x)
  | 0, _ => rfl
  | 1, _ => rfl
  | 2, _ => rfl
  | 3, _ => rfl
  | j + 4, hj => absurd hj (by omega)
noncomputable def oR_sun (c : CS) (t : CS) (h : HS) (side : Int32) (hour : Int32) (v : Int32) : String ⊕ Unit := if (rR_isSide side) = 0 then .inl "java/lang/IllegalArgumentException" else (if (rR_isHour hour) = 0 then .inl "java/lang/IllegalArgumentException" else (if (rR_isWithin v 0 1000) = 0 then .inl "java/lang/IllegalArgumentException" else .inr ()))
noncomputable def rR_sun (c : CS) (t : CS) (h : HS) (side : Int32) (hour : Int32) (v : Int32) : Int32 := if (rR_isSide side) = 0 then 0 else (if (rR_isHour hour) = 0 then 0 else (if (rR_isWithin v 0 1000) = 0 then 0 else ((h_suns h) side.toNatClampNeg) hour.toNatClampNeg))
noncomputable def shR_sun (c : CS) (t : CS) (h : HS) (side : Int32) (hour : Int32) (v : Int32) : HS := if (rR_isSide side) = 0 then h else (if (rR_isHour hour) = 0 then h else (if (rR_isWithin v 0 1000) = 0 then h else ((h_rooms h), (h_walls h), (h_windows h), (h_low h), (h_high h), (h_stores h), (h_leadsAt h), (h_mosts h), (h_plans h), (h_wallFrom h), (h_wallTo h), (h_wallLeads h), (h_windowRoom h), (h_windowSide h), (h_windowArea h), (h_windowLimit h), (h_outsides h), (va_up (h_suns h) side.toNatClampNeg (upd ((h_suns h) side.toNatClampNeg) hour.toNatClampNeg v)))))
set_option maxRecDepth 100000 in
set_option maxHeartbeats 4000000 in
theorem cR_sun (l : Launch) (D : va_G) (k : Nat → ClassId) (ah : Nat → Nat) (ar : Nat → Nat → Nat) (ac ax : Nat → Nat) (a : Nat) (c t : CS) (h : HS) (side : Int32) (hour : Int32) (v : Int32) (hl9 : l.stackTraces = false) : kNi l yR_sun (kwm yR_sun bR_sun 5 (some .int)) ({ frames := 6, cells := 1, slots := 6, locals := 82 }) D kcl (kty k) (wR k ah ar ac ax a c t h) (wR k ah ar ac ax a c t (shR_sun c t h side hour v)) [.ref a, .int side, .int hour, .int v] (oR_sun c t h side hour v) (rR_sun c t h side hour v) := by
  refine k_enX_i (lv0 := [(0, .ref a), (1, .int side), (2, .int hour), (3, .int v)]) rfl (by decide +kernel) (Nat.le_of_ble_eq_true rfl) rfl ?_
  intro p e s m args below meth c0 C hr hlocks hEx hE hZ
  refine kw_iload_n C 1 dR_sun_0 rfl rfl ?_
  refine kw_callSi (st := []) C (cR_isSide l D k side) (va_cwS 1 C.1.2.2.2.2 (kgO kt_349 kt_350 kt_1 kt_351) rfl rfl rfl kdR_isSide ⟨Nat.le_of_ble_eq_true rfl, Nat.le_of_ble_eq_true rfl⟩) [] rfl rfl rfl rfl (Nat.le_of_ble_eq_true rfl) dR_sun_1 ⟨Nat.zero_le _, Nat.zero_le _⟩ rfl (wR k ah ar ac ax a c t h) rfl ?_
  refine kw_if_eq (tgt := 25) C dR_sun_4 (by decide) (fun c_1 => ?_) (fun c_1 => ?_)
  · skip
    exact kx_throwIAE hl9 C hlocks hEx hE hZ (by unfold oR_sun; rw [if_pos c_1]) 122 "no such side, hour or sun" (by decide +kernel) dR_sun_25 dR_sun_28 dR_sun_29 dR_sun_31 dR_sun_34 (Nat.le_of_ble_eq_true rfl) (Nat.le_of_ble_eq_true rfl) (Nat.le_of_ble_eq_true rfl) (Nat.le_of_ble_eq_true rfl)
  · skip
    refine kw_iload_n C 2 dR_sun_7 rfl rfl ?_
    refine kw_callSi (st := []) C (cR_isHour l D k hour) (va_cwS 1 C.1.2.2.2.2 (kgO kt_366 kt_367 kt_1 kt_368) rfl rfl rfl kdR_isHour ⟨Nat.le_of_ble_eq_true rfl, Nat.le_of_ble_eq_true rfl⟩) [] rfl rfl rfl rfl (Nat.le_of_ble_eq_true rfl) dR_sun_8 ⟨Nat.zero_le _, Nat.zero_le _⟩ rfl (wR k ah ar ac ax a c t h) rfl ?_
    refine kw_if_eq (tgt := 25) C dR_sun_11 (by decide) (fun c_2 => ?_) (fun c_2 => ?_)
    · skip
      exact kx_throwIAE hl9 C hlocks hEx hE hZ (by unfold oR_sun; rw [if_neg c_1, if_pos c_2]) 122 "no such side, hour or sun" (by decide +kernel) dR_sun_25 dR_sun_28 dR_sun_29 dR_sun_31 dR_sun_34 (Nat.le_of_ble_eq_true rfl) (Nat.le_of_ble_eq_true rfl) (Nat.le_of_ble_eq_true rfl) (Nat.le_of_ble_eq_true rfl)
    · skip
      refine kw_iload_n C 3 dR_sun_14 rfl rfl ?_
      refine kw_iconst (v := 0) C dR_sun_15 (by decide) ?_
      refine kw_sipush (v := 1000) C dR_sun_16 (by decide) ?_
      refine kw_callSi (st := []) C (cR_isWithin l D k v 0 1000) (va_cwS 3 C.1.2.2.2.2 (kgO kt_208 kt_209 kt_1 kt_210) rfl rfl rfl kdR_isWithin ⟨Nat.le_of_ble_eq_true rfl, Nat.le_of_ble_eq_true rfl⟩) [] rfl rfl rfl rfl (Nat.le_of_ble_eq_true rfl) dR_sun_19 ⟨Nat.zero_le _, Nat.zero_le _⟩ rfl (wR k ah ar ac ax a c t h) rfl ?_
      refine kw_if_ne (tgt := 35) C dR_sun_22 (by decide) (fun c_3 => ?_) (fun c_3 => ?_)
      · skip
        refine kw_aload_n C 0 dR_sun_35 rfl rfl ?_
        refine kw_get (v := .ref (ah 0)) C 0 rfl rfl ku_R 0 (by decide) kt_189 rfl dR_sun_36 ?_
        refine kw_get (v := .ref (ah 13)) C 8 rfl rfl ku_H 15 (by decide) kt_72 rfl dR_sun_39 ?_
        refine kw_iload_n C 1 dR_sun_42 rfl rfl ?_
        refine kw_aldA (b := ar 2 side.toNatClampNeg) C 26 2 rfl rfl (kix_of (krs c_1)) (if_pos (kin_lt (krs c_1))) dR_sun_43 ?_
        refine kw_iload_n C 2 dR_sun_44 rfl rfl ?_
        refine kw_iald C (27 + side.toNatClampNeg) 0 (pR_suns k ah ar ac ax a c t h _ (kin_lt (krs c_1))) rfl (kix_of (krh c_2)) dR_sun_45 ?_
        refine kw_istore (lv' := [(4, .int (((h_suns h) side.toNatClampNeg) hour.toNatClampNeg)), (0, .ref a), (1, .int side), (2, .int hour), (3, .int v)]) C dR_sun_46 (by decide) rfl ?_
        refine kw_aload_n C 1 dR_sun_48 rfl rfl ?_
        refine kw_get (v := .ref (ah 0)) C 0 rfl rfl ku_R 0 (by decide) kt_189 rfl dR_sun_49 ?_
        refine kw_get (v := .ref (ah 13)) C 8 rfl rfl ku_H 15 (by decide) kt_72 rfl dR_sun_52 ?_
        refine kw_iload_n C 2 dR_sun_55 rfl rfl ?_
        refine kw_aldA (b := ar 2 side.toNatClampNeg) C 26 2 rfl rfl (kix_of (krs c_1)) (if_pos (kin_lt (krs c_1))) dR_sun_56 ?_
        refine kw_iload_n C 3 dR_sun_57 rfl rfl ?_
        refine kw_iload_n C 4 dR_sun_58 rfl rfl ?_
        refine kw_iast C (27 + side.toNatClampNeg) 0 (pR_suns k ah ar ac ax a c t h _ (kin_lt (krs c_1))) rfl (kix_of (krh c_2)) dR_sun_59 (wR_h k ah ar ac ax a c t (h_rooms h) (h_walls h) (h_windows h) (h_low h) (h_high h) (h_stores h) (h_leadsAt h) (h_mosts h) (h_plans h) (h_wallFrom h) (h_wallTo h) (h_wallLeads h) (h_windowRoom h) (h_windowSide h) (h_windowArea h) (h_windowLimit h) (h_outsides h) (va_up (h_suns h) side.toNatClampNeg (upd ((h_suns h) side.toNatClampNeg) hour.toNatClampNeg v))) (sR_suns k ah ar ac ax a c t h _ _ (kin_lt (krs c_1))) ?_
        refine kw_iload C 0 dR_sun_60 rfl ?_
        refine kw_eq rfl rfl (mk_wR_h.trans (congrArg (fun z90 => wR k ah ar ac ax a c t z90) (show ((h_rooms h), (h_walls h), (h_windows h), (h_low h), (h_high h), (h_stores h), (h_leadsAt h), (h_mosts h), (h_plans h), (h_wallFrom h), (h_wallTo h), (h_wallLeads h), (h_windowRoom h), (h_windowSide h), (h_windowArea h), (h_windowLimit h), (h_outsides h), (va_up (h_suns h) side.toNatClampNeg (upd ((h_suns h) side.toNatClampNeg) hour.toNatClampNeg v))) = shR_sun c t h side hour v from by unfold shR_sun; rw [if_neg c_1, if_neg c_2, if_neg c_3]))) ?_
        exact kx_iret C hr hlocks (by unfold oR_sun; rw [if_neg c_1, if_neg c_2, if_neg c_3]) (by unfold rR_sun; rw [if_neg c_1, if_neg c_2, if_neg c_3]) dR_sun_62
      · skip
        exact kx_throwIAE hl9 C hlocks hEx hE hZ (by unfold oR_sun; rw [if_neg c_1, if_neg c_2, if_pos c_3]) 122 "no such side, hour or sun" (by decide +kernel) dR_sun_25 dR_sun_28 dR_sun_29 dR_sun_31 dR_sun_34 (Nat.le_of_ble_eq_true rfl) (Nat.le_of_ble_eq_true rfl) (Nat.le_of_ble_eq_true rfl) (Nat.le_of_ble_eq_true rfl)
theorem kplanR {a b : Int32} (h1 : vp_in a 8) (h2 : vp_in b 24) : vp_in (a * 24 + b) 192 := by
  obtain ⟨i, hi, rfl⟩ := vp_in_of h1 (by decide)
  exact kplan hi h2
noncomputable def oR_plan (c : CS) (t : CS) (h : HS) (room : Int32) (hour : Int32) (what : Int32) (v : Int32) : String ⊕ Unit := if (rH_hasRoom h room) = 0 then .inl "java/lang/IllegalArgumentException" else (if (rR_isHour hour) = 0 then .inl "java/lang/IllegalArgumentException" else (if (rR_isWithin what 0 2) = 0 then .inl "java/lang/IllegalArgumentException" else (if (rR_isPlan what v) = 0 then .inl "java/lang/IllegalArgumentException" else .inr ())))
