def rM_isRoom (gu : MU) (gv : MV) (r : Int32) : Int32 := (rM_in r 0 ((m_rooms gu) - 1))
set_option maxRecDepth 100000 in
set_option maxHeartbeats 4000000 in
theorem cM_isRoom (l : Launch) (D : va_G) (k : Nat → ClassId) (am : Nat → Nat) (gu : MU) (gv : MV) (r : Int32) : kMi l yM_isRoom (kwm yM_isRoom bM_isRoom 2 (some .boolean)) ({ frames := 1, cells := 0, slots := 0, locals := 22 }) D kcl (kty k) (wM k am gu gv) (wM k am gu gv) [.ref (am 0), .int r] (rM_isRoom gu gv r) := by
  refine k_entry_i (lv0 := [(0, .ref (am 0)), (1, .int r)]) rfl (by decide +kernel) (Nat.le_of_ble_eq_true rfl) rfl ?_
  intro p e s m args below meth c0 C hr hlocks
  refine kw_iload_n C 1 dM_isRoom_0 rfl rfl ?_
  refine kw_iconst (v := 0) C dM_isRoom_1 (by decide) ?_
  refine kw_aload_n C 0 dM_isRoom_2 rfl rfl ?_
  refine kw_get (v := .int (m_rooms gu)) C 0 rfl rfl ku_M 1 (by decide) kt_557 rfl dM_isRoom_3 ?_
  refine kw_iconst (v := 1) C dM_isRoom_6 (by decide) ?_
  refine kw_isub C dM_isRoom_7 ?_
  refine kw_callSi (st := []) C (cM_in l D k r 0 ((m_rooms gu) - 1)) (va_cwS 3 C.1.2.2.2.2 (kgO kt_676 kt_677 kt_5 kt_678) rfl rfl rfl kdM_in ⟨Nat.le_of_ble_eq_true rfl, Nat.le_of_ble_eq_true rfl⟩) [] rfl rfl rfl rfl (Nat.le_of_ble_eq_true rfl) dM_isRoom_8 ⟨Nat.zero_le _, Nat.zero_le _⟩ rfl (wM k am gu gv) rfl ?_
  exact kw_zret C hr hlocks rfl (kzb_M_in) dM_isRoom_11
theorem kzb_M_isRoom {gu : MU} {gv : MV} {r : Int32} : narrow .boolean (.int (rM_isRoom gu gv r)) = .int (rM_isRoom gu gv r) := by
  unfold rM_isRoom
  (repeat' split) <;> first | rfl | apply kzb_R_isWithin | apply kzb_R_isWarmth | apply kzb_R_isHour | apply kzb_R_isSide | apply kzb_R_isPlan | apply kzb_C_hourEnds | apply kzb_C_hasPersons | apply kzb_H_hasRoom | apply kzb_H_bears | apply kzb_M_in | apply kzb_M_isWarmth
theorem krin {x hi : Int32} {N : Nat} (hN : hi = nI N - 1) (hb : N < 2 ^ 30) (hc : ¬ rM_in x 0 hi = 0) : vp_in x N := by
  unfold rM_in at hc
  split at hc
  · exact absurd rfl hc
  · rename_i h1
    split at hc
    · exact absurd rfl hc
    · rename_i h2
      obtain ⟨j, hj, e⟩ := nI_of h1
      rw [vp_in_iff]
      rw [e, hN, Int32.lt_iff_toInt_lt, show nI N - 1 = nI N - nI 1 from rfl, pk_sub_toInt hb (by decide), nI_toInt hj] at h2
      rw [e, nI_toInt hj]
      omega
theorem kroomM {gu : MU} {gv : MV} {r : Int32} (hI : mInv gu) (hc : ¬ rM_isRoom gu gv r = 0) : vp_in r (mnR gu) := by
  unfold rM_isRoom at hc
  rw [hI.1.1] at hc
  exact krin rfl (by have := hI.1.2; omega) hc
theorem kstore {gu : MU} (hI : mInv gu) {r : Int32} (h : vp_in r (mnR gu)) : ¬ (m_store gu r.toNatClampNeg).toInt64 = 0 := by
  intro e
  refine hI.2.2.2.2.2.2.2 r.toNatClampNeg (kin_lt h) ?_
  have h2 := congrArg Int64.toInt e
  rw [Int32.toInt_toInt64] at h2
  exact Int32.toInt_inj.mp h2
