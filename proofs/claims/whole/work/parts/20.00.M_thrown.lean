abbrev mnR (g : MS) : Nat := (m_rooms g).toNatClampNeg
abbrev mnW (g : MS) : Nat := (m_walls g).toNatClampNeg
abbrev mnN (g : MS) : Nat := (m_windows g).toNatClampNeg
def mInv (g : MS) : Prop := (m_rooms g = nI (mnR g) ∧ mnR g ≤ 8) ∧ (m_walls g = nI (mnW g) ∧ mnW g ≤ 20) ∧ (m_windows g = nI (mnN g) ∧ mnN g ≤ 12) ∧ (∀ w, w < mnW g → vp_in (m_wallRoom g w) 8) ∧ (∀ w, w < mnW g → m_wallOther g w = -1 ∨ vp_in (m_wallOther g w) 8) ∧ (∀ w, w < mnN g → vp_in (m_windowRoom g w) 8) ∧ (∀ w, w < mnN g → vp_in (m_windowSide g w) 4) ∧ (∀ r, r < mnR g → ¬ m_store g r = 0)
def rM_thrown (g : MS) : Int32 := (m_thrown g)
set_option maxRecDepth 100000 in
set_option maxHeartbeats 4000000 in
theorem cM_thrown (l : Launch) (D : va_G) (k : Nat → ClassId) (am : Nat → Nat) (g : MS)  : kMi l yM_thrown (kwm yM_thrown bM_thrown 1 (some .int)) ({ frames := 0, cells := 0, slots := 0, locals := 0 }) D kcl (kty k) (wM k am g) (wM k am g) [.ref (am 0)] (rM_thrown g) := by
  refine k_entry_i (lv0 := [(0, .ref (am 0))]) rfl (by decide +kernel) (Nat.le_of_ble_eq_true rfl) rfl ?_
  intro p e s m args below meth c0 C hr hlocks
  refine kw_aload_n C 0 dM_thrown_0 rfl rfl ?_
  refine kw_get (v := .int (m_thrown g)) C 0 rfl rfl ku_M 0 (by decide) kt_556 rfl dM_thrown_1 ?_
  exact kw_iret C hr hlocks rfl dM_thrown_4
