noncomputable def stC_copyOf (c : CS) (t : CS) (h : HS) : CS := ((c_over c), (-1), (c_setTried t), (c_setFrom t), (-1), (c_mostTried t), 0, (c_begun t), (c_fromSun t), (c_fromPersons t), (c_goneOut t), (va_cpy (c_heat c) (c_heat t) (0 : Int32).toNatClampNeg (0 : Int32).toNatClampNeg (8 : Int32).toNatClampNeg), (c_warmth t), (c_given t), (c_taken t), (c_greatest t), (c_uneasy t))
set_option maxRecDepth 100000 in
set_option maxHeartbeats 4000000 in
theorem cC_copyOf (l : Launch) (D : va_G) (k : Nat → ClassId) (ah : Nat → Nat) (ar : Nat → Nat → Nat) (ac ax : Nat → Nat) (a : Nat) (c t : CS) (h : HS)  : kMv l yC_copyOf (kwm yC_copyOf bC_copyOf 2 none) ({ frames := 1, cells := 0, slots := 0, locals := 60 }) D kcl (kty k) (wR k ah ar ac ax a c t h) (wR k ah ar ac ax a c (stC_copyOf c t h) h) [.ref (ax 0), .ref (ac 0)] := by
  refine k_entry_v (lv0 := [(0, .ref (ax 0)), (1, .ref (ac 0))]) rfl (by decide +kernel) (Nat.le_of_ble_eq_true rfl) rfl ?_
  intro p e s m args below meth c0 C hr hlocks
  refine kw_aload_n C 0 dC_copyOf_0 rfl rfl ?_
  refine kw_aload_n C 1 dC_copyOf_1 rfl rfl ?_
  refine kw_get (v := .int (c_over c)) C 1 rfl rfl ku_C 1 (by decide) kt_123 rfl dC_copyOf_2 ?_
  refine kw_put C 31 rfl rfl ku_C tC_ok nC 1 (by decide) kt_123 rfl (ty := .int) (by decide +kernel) rfl rfl (Nat.le_of_ble_eq_true rfl) dC_copyOf_5 (wR_t k ah ar ac ax a c (c_over c) (c_setRoom t) (c_setTried t) (c_setFrom t) (c_mostRoom t) (c_mostTried t) (c_fellShort t) (c_begun t) (c_fromSun t) (c_fromPersons t) (c_goneOut t) (c_heat t) (c_warmth t) (c_given t) (c_taken t) (c_greatest t) (c_uneasy t) h) rfl ?_
  refine kw_aload_n C 1 dC_copyOf_8 rfl rfl ?_
  refine kw_get (v := .ref (ac 1)) C 1 rfl rfl ku_C 2 (by decide) kt_125 rfl dC_copyOf_9 ?_
  refine kw_iconst (v := 0) C dC_copyOf_12 (by decide) ?_
  refine kw_aload_n C 0 dC_copyOf_13 rfl rfl ?_
  refine kw_get (v := .ref (ax 1)) C 31 rfl rfl ku_C 2 (by decide) kt_125 rfl dC_copyOf_14 ?_
  refine kw_iconst (v := 0) C dC_copyOf_17 (by decide) ?_
  refine kw_bipush (v := 8) C dC_copyOf_18 (by decide) ?_
  refine kw_copyl C kt_525 kt_527 kt_526 kt_12 2 32 1 1 rfl rfl rfl rfl (by decide) (by decide) (by decide) (by decide) (by decide) (Nat.le_of_ble_eq_true rfl) (by decide +kernel) dC_copyOf_20 (wR_t k ah ar ac ax a c (c_over c) (c_setRoom t) (c_setTried t) (c_setFrom t) (c_mostRoom t) (c_mostTried t) (c_fellShort t) (c_begun t) (c_fromSun t) (c_fromPersons t) (c_goneOut t) (va_cpy (c_heat c) (c_heat t) (0 : Int32).toNatClampNeg (0 : Int32).toNatClampNeg (8 : Int32).toNatClampNeg) (c_warmth t) (c_given t) (c_taken t) (c_greatest t) (c_uneasy t) h) rfl ?_
  refine kw_aload_n C 0 dC_copyOf_23 rfl rfl ?_
  refine kw_iconst (v := -1) C dC_copyOf_24 (by decide) ?_
  refine kw_put C 31 rfl rfl ku_C tC_ok nC 12 (by decide) kt_144 rfl (ty := .int) (by decide +kernel) rfl rfl (Nat.le_of_ble_eq_true rfl) dC_copyOf_25 (wR_t k ah ar ac ax a c (c_over c) (-1) (c_setTried t) (c_setFrom t) (c_mostRoom t) (c_mostTried t) (c_fellShort t) (c_begun t) (c_fromSun t) (c_fromPersons t) (c_goneOut t) (va_cpy (c_heat c) (c_heat t) (0 : Int32).toNatClampNeg (0 : Int32).toNatClampNeg (8 : Int32).toNatClampNeg) (c_warmth t) (c_given t) (c_taken t) (c_greatest t) (c_uneasy t) h) rfl ?_
  refine kw_aload_n C 0 dC_copyOf_28 rfl rfl ?_
  refine kw_iconst (v := -1) C dC_copyOf_29 (by decide) ?_
  refine kw_put C 31 rfl rfl ku_C tC_ok nC 15 (by decide) kt_147 rfl (ty := .int) (by decide +kernel) rfl rfl (Nat.le_of_ble_eq_true rfl) dC_copyOf_30 (wR_t k ah ar ac ax a c (c_over c) (-1) (c_setTried t) (c_setFrom t) (-1) (c_mostTried t) (c_fellShort t) (c_begun t) (c_fromSun t) (c_fromPersons t) (c_goneOut t) (va_cpy (c_heat c) (c_heat t) (0 : Int32).toNatClampNeg (0 : Int32).toNatClampNeg (8 : Int32).toNatClampNeg) (c_warmth t) (c_given t) (c_taken t) (c_greatest t) (c_uneasy t) h) rfl ?_
  refine kw_aload_n C 0 dC_copyOf_33 rfl rfl ?_
  refine kw_iconst (v := 0) C dC_copyOf_34 (by decide) ?_
  refine kw_put C 31 rfl rfl ku_C tC_ok nC 17 (by decide) kt_149 rfl (ty := .boolean) (by decide +kernel) rfl rfl (Nat.le_of_ble_eq_true rfl) dC_copyOf_35 (wR_t k ah ar ac ax a c (c_over c) (-1) (c_setTried t) (c_setFrom t) (-1) (c_mostTried t) 0 (c_begun t) (c_fromSun t) (c_fromPersons t) (c_goneOut t) (va_cpy (c_heat c) (c_heat t) (0 : Int32).toNatClampNeg (0 : Int32).toNatClampNeg (8 : Int32).toNatClampNeg) (c_warmth t) (c_given t) (c_taken t) (c_greatest t) (c_uneasy t) h) rfl ?_
  refine kw_eq rfl rfl (mk_wR_t.trans (congrArg (fun z90 => wR k ah ar ac ax a c z90 h) (show ((c_over c), (-1), (c_setTried t), (c_setFrom t), (-1), (c_mostTried t), 0, (c_begun t), (c_fromSun t), (c_fromPersons t), (c_goneOut t), (va_cpy (c_heat c) (c_heat t) (0 : Int32).toNatClampNeg (0 : Int32).toNatClampNeg (8 : Int32).toNatClampNeg), (c_warmth t), (c_given t), (c_taken t), (c_greatest t), (c_uneasy t)) = stC_copyOf c t h from rfl))) ?_
  exact kw_vret C hr hlocks dC_copyOf_38
