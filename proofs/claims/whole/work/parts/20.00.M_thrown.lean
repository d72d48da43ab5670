abbrev mnR (gu : MU) : Nat := (m_rooms gu).toNatClampNeg
abbrev mnW (gu : MU) : Nat := (m_walls gu).toNatClampNeg
abbrev mnN (gu : MU) : Nat := (m_windows gu).toNatClampNeg
def mInv (gu : MU) : Prop := (m_rooms gu = nI (mnR gu) ∧ mnR gu ≤ 8) ∧ (m_walls gu = nI (mnW gu) ∧ mnW gu ≤ 20) ∧ (m_windows gu = nI (mnN gu) ∧ mnN gu ≤ 12) ∧ (∀ w, w < mnW gu → vp_in (m_wallRoom gu w) 8) ∧ (∀ w, w < mnW gu → m_wallOther gu w = -1 ∨ vp_in (m_wallOther gu w) 8) ∧ (∀ w, w < mnN gu → vp_in (m_windowRoom gu w) 8) ∧ (∀ w, w < mnN gu → vp_in (m_windowSide gu w) 4) ∧ (∀ r, r < mnR gu → ¬ m_store gu r = 0)
def rM_thrown (gu : MU) (gv : MV) : Int32 := (m_thrown gu)
set_option maxRecDepth 100000 in
set_option maxHeartbeats 4000000 in
theorem cM_thrown (l : Launch) (D : va_G) (k : Nat → ClassId) (am : Nat → Nat) (gu : MU) (gv : MV)  : kMi l yM_thrown (kwm yM_thrown bM_thrown 1 (some .int)) ({ frames := 0, cells := 0, slots := 0, locals := 0 }) D kcl (kty k) (wM k am gu gv) (wM k am gu gv) [.ref (am 0)] (rM_thrown gu gv) := by
  refine k_entry_i (lv0 := [(0, .ref (am 0))]) rfl (by decide +kernel) (Nat.le_of_ble_eq_true rfl) rfl ?_
  intro p e s m args below meth c0 C hr hlocks
  refine kw_aload_n C 0 dM_thrown_0 rfl rfl ?_
  refine kw_get (v := .int (m_thrown gu)) C 0 rfl rfl ku_M 0 (by decide) kt_556 rfl dM_thrown_1 ?_
  exact kw_iret C hr hlocks rfl dM_thrown_4
