noncomputable def shR_ease (c : CS) (t : CS) (h : HS) (low : Int32) (high : Int32) : HS := if (rR_isWarmth low) = 0 then h else (if (rR_isWarmth high) = 0 then h else (if low ≤ high then ((h_rooms h), (h_walls h), (h_windows h), low, high, (h_stores h), (h_leadsAt h), (h_mosts h), (h_plans h), (h_wallFrom h), (h_wallTo h), (h_wallLeads h), (h_windowRoom h), (h_windowSide h), (h_windowArea h), (h_windowLimit h), (h_outsides h), (h_suns h)) else h))
set_option maxRecDepth 100000 in
set_option maxHeartbeats 4000000 in
theorem cR_ease (l : Launch) (D : va_G) (k : Nat → ClassId) (ah : Nat → Nat) (ar : Nat → Nat → Nat) (ac ax : Nat → Nat) (a : Nat) (c t : CS) (h : HS) (low : Int32) (high : Int32) (hl9 : l.stackTraces = false) : kNv l yR_ease (kwm yR_ease bR_ease 3 none) ({ frames := 6, cells := 1, slots := 6, locals := 82 }) D kcl (kty k) (wR k ah ar ac ax a c t h) (wR k ah ar ac ax a c t (shR_ease c t h low high)) [.ref a, .int low, .int high] (oR_ease c t h low high) := by
  refine k_enX_v (lv0 := [(0, .ref a), (1, .int low), (2, .int high)]) rfl (by decide +kernel) (Nat.le_of_ble_eq_true rfl) rfl ?_
  intro p e s m args below meth c0 C hr hlocks hEx hE hZ
  refine kw_iload_n C 1 dR_ease_0 rfl rfl ?_
  refine kw_callSi (st := []) C (cR_isWarmth l D k low) (va_cwS 1 C.1.2.2.2.2 (kgO kt_211 kt_212 kt_1 kt_213) rfl rfl rfl kdR_isWarmth ⟨Nat.le_of_ble_eq_true rfl, Nat.le_of_ble_eq_true rfl⟩) [] rfl rfl rfl rfl (Nat.le_of_ble_eq_true rfl) dR_ease_1 ⟨Nat.zero_le _, Nat.zero_le _⟩ rfl (wR k ah ar ac ax a c t h) rfl ?_
  refine kw_if_eq (tgt := 19) C dR_ease_4 (by decide) (fun c_1 => ?_) (fun c_1 => ?_)
  · skip
    exact kx_throwIAE hl9 C hlocks hEx hE hZ (by unfold oR_ease; rw [if_pos c_1]) 144 "no such warmths, or low is above high" (by decide +kernel) dR_ease_19 dR_ease_22 dR_ease_23 dR_ease_25 dR_ease_28 (Nat.le_of_ble_eq_true rfl) (Nat.le_of_ble_eq_true rfl) (Nat.le_of_ble_eq_true rfl) (Nat.le_of_ble_eq_true rfl)
  · skip
    refine kw_iload_n C 2 dR_ease_7 rfl rfl ?_
    refine kw_callSi (st := []) C (cR_isWarmth l D k high) (va_cwS 1 C.1.2.2.2.2 (kgO kt_211 kt_212 kt_1 kt_213) rfl rfl rfl kdR_isWarmth ⟨Nat.le_of_ble_eq_true rfl, Nat.le_of_ble_eq_true rfl⟩) [] rfl rfl rfl rfl (Nat.le_of_ble_eq_true rfl) dR_ease_8 ⟨Nat.zero_le _, Nat.zero_le _⟩ rfl (wR k ah ar ac ax a c t h) rfl ?_
    refine kw_if_eq (tgt := 19) C dR_ease_11 (by decide) (fun c_2 => ?_) (fun c_2 => ?_)
    · skip
      exact kx_throwIAE hl9 C hlocks hEx hE hZ (by unfold oR_ease; rw [if_neg c_1, if_pos c_2]) 144 "no such warmths, or low is above high" (by decide +kernel) dR_ease_19 dR_ease_22 dR_ease_23 dR_ease_25 dR_ease_28 (Nat.le_of_ble_eq_true rfl) (Nat.le_of_ble_eq_true rfl) (Nat.le_of_ble_eq_true rfl) (Nat.le_of_ble_eq_true rfl)
    · skip
      refine kw_iload_n C 1 dR_ease_14 rfl rfl ?_
      refine kw_iload_n C 2 dR_ease_15 rfl rfl ?_
      refine kw_icmp_le (tgt := 29) C dR_ease_16 (by decide) (fun c_3 => ?_) (fun c_3 => ?_)
      · skip
        refine kw_aload_n C 0 dR_ease_29 rfl rfl ?_
        refine kw_get (v := .ref (ah 0)) C 0 rfl rfl ku_R 0 (by decide) kt_189 rfl dR_ease_30 ?_
        refine kw_iload_n C 1 dR_ease_33 rfl rfl ?_
        refine kw_put C 8 rfl rfl ku_H tH_ok nH 16 (by decide) kt_75 rfl (ty := .int) (by decide +kernel) rfl rfl (Nat.le_of_ble_eq_true rfl) dR_ease_34 (wR_h k ah ar ac ax a c t (h_rooms h) (h_walls h) (h_windows h) low (h_high h) (h_stores h) (h_leadsAt h) (h_mosts h) (h_plans h) (h_wallFrom h) (h_wallTo h) (h_wallLeads h) (h_windowRoom h) (h_windowSide h) (h_windowArea h) (h_windowLimit h) (h_outsides h) (h_suns h)) rfl ?_
        refine kw_aload_n C 0 dR_ease_37 rfl rfl ?_
        refine kw_get (v := .ref (ah 0)) C 0 rfl rfl ku_R 0 (by decide) kt_189 rfl dR_ease_38 ?_
        refine kw_iload_n C 2 dR_ease_41 rfl rfl ?_
        refine kw_put C 8 rfl rfl ku_H tH_ok nH 17 (by decide) kt_76 rfl (ty := .int) (by decide +kernel) rfl rfl (Nat.le_of_ble_eq_true rfl) dR_ease_42 (wR_h k ah ar ac ax a c t (h_rooms h) (h_walls h) (h_windows h) low high (h_stores h) (h_leadsAt h) (h_mosts h) (h_plans h) (h_wallFrom h) (h_wallTo h) (h_wallLeads h) (h_windowRoom h) (h_windowSide h) (h_windowArea h) (h_windowLimit h) (h_outsides h) (h_suns h)) rfl ?_
        refine kw_eq rfl rfl (mk_wR_h.trans (congrArg (fun z90 => wR k ah ar ac ax a c t z90) (show ((h_rooms h), (h_walls h), (h_windows h), low, high, (h_stores h), (h_leadsAt h), (h_mosts h), (h_plans h), (h_wallFrom h), (h_wallTo h), (h_wallLeads h), (h_windowRoom h), (h_windowSide h), (h_windowArea h), (h_windowLimit h), (h_outsides h), (h_suns h)) = shR_ease c t h low high from by unfold shR_ease; rw [if_neg c_1, if_neg c_2, if_pos c_3]))) ?_
        exact kx_vret C hr hlocks (by unfold oR_ease; rw [if_neg c_1, if_neg c_2, if_pos c_3]) dR_ease_45
      · skip
        exact kx_throwIAE hl9 C hlocks hEx hE hZ (by unfold oR_ease; rw [if_neg c_1, if_neg c_2, if_neg c_3]) 144 "no such warmths, or low is above high" (by decide +kernel) dR_ease_19 dR_ease_22 dR_ease_23 dR_ease_25 dR_ease_28 (Nat.le_of_ble_eq_true rfl) (Nat.le_of_ble_eq_true rfl) (Nat.le_of_ble_eq_true rfl) (Nat.le_of_ble_eq_true rfl)
theorem krooms8 {h : HS} (hI : kInv h) (hc : h_rooms h < 8) : vp_in (h_rooms h) 8 := by
  rw [hI.1.1] at hc ⊢
  rw [show (8 : Int32) = nI 8 from rfl, nI_ltI (by have := hI.1.2; omega) (by decide)] at hc
  exact vp_in_nI hc (by decide)
noncomputable def oR_room (c : CS) (t : CS) (h : HS) (store : Int32) (warmth : Int32) : String ⊕ Unit := if (rR_isWithin store 1 10000) = 0 then .inl "java/lang/IllegalArgumentException" else (if (rR_isWarmth warmth) = 0 then .inl "java/lang/IllegalArgumentException" else (if (h_rooms h) < 8 then .inr () else .inl "java/lang/IllegalStateException"))
