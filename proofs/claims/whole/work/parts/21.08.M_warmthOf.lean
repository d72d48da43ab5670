def rM_warmthOf (gu : MU) (gv : MV) (r : Int32) : Int64 := (rM_floor ((m_heat gv) r.toNatClampNeg) ((m_store gu) r.toNatClampNeg))
set_option maxRecDepth 100000 in
set_option maxHeartbeats 4000000 in
theorem cM_warmthOf (l : Launch) (D : va_G) (k : Nat → ClassId) (am : Nat → Nat) (gu : MU) (gv : MV) (r : Int32) (hI : mInv gu) (hr9 : vp_in r (mnR gu)) : kMl l yM_warmthOf (kwm yM_warmthOf bM_warmthOf 2 (some .long)) ({ frames := 1, cells := 0, slots := 0, locals := 24 }) D kcl (kty k) (wM k am gu gv) (wM k am gu gv) [.ref (am 0), .int r] (rM_warmthOf gu gv r) := by
  refine k_entry_l (lv0 := [(0, .ref (am 0)), (1, .int r)]) rfl (by decide +kernel) (Nat.le_of_ble_eq_true rfl) rfl ?_
  intro p e s m args below meth c0 C hr hlocks
  refine kw_aload_n C 0 dM_warmthOf_0 rfl rfl ?_
  refine kw_get (v := .ref (am 2)) C 0 rfl rfl ku_M 3 (by decide) kt_559 rfl dM_warmthOf_1 ?_
  refine kw_iload_n C 1 dM_warmthOf_4 rfl rfl ?_
  refine kw_lald C 2 1 rfl rfl (kix_of (kin_le hr9 hI.1.2)) dM_warmthOf_5 ?_
  refine kw_aload_n C 0 dM_warmthOf_6 rfl rfl ?_
  refine kw_get (v := .ref (am 1)) C 0 rfl rfl ku_M 2 (by decide) kt_558 rfl dM_warmthOf_7 ?_
  refine kw_iload_n C 1 dM_warmthOf_10 rfl rfl ?_
  refine kw_iald C 1 0 rfl rfl (kix_of (kin_le hr9 hI.1.2)) dM_warmthOf_11 ?_
  refine kw_callSl (st := []) C (cM_floor l D k ((m_heat gv) r.toNatClampNeg) ((m_store gu) r.toNatClampNeg) (kstore hI hr9)) (va_cwS 2 C.1.2.2.2.2 (kgO kt_741 kt_742 kt_5 kt_743) rfl rfl rfl kdM_floor ⟨Nat.le_of_ble_eq_true rfl, Nat.le_of_ble_eq_true rfl⟩) [] rfl rfl rfl rfl (Nat.le_of_ble_eq_true rfl) dM_warmthOf_12 ⟨Nat.zero_le _, Nat.zero_le _⟩ rfl (wM k am gu gv) rfl ?_
  exact kw_lret C hr hlocks rfl dM_warmthOf_15
