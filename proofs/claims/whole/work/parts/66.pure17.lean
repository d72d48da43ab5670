theorem wl_stay {gu : MU} {gv : MV} {r : Nat} (h8 : mnR gu ≤ 8) (hr : r < mnR gu) (ht : m_triedRoom gv = nI r) (hw : m_wasLow gv = 1) : ∀ n, m_wasLow (itM gu n gv) = 1 := by
  intro n
  induction n with
  | zero => exact hw
  | succ n ih =>
    show m_wasLow (sgvM_step gu (itM gu n gv)) = 1
    have W := wl_step (gu := gu) (gv := itM gu n gv) h8 hr ((tr_it gu gv n).trans ht) (Or.inr ih)
    rcases W.1 with e | e
    · have := (W.2.mp e).1
      rw [ih] at this
      exact absurd this (by decide)
    · exact e
theorem fs_7 (c : CS) (h : HS) (hr : Int32) : ∀ n, c_fellShort (fC_step_7 c h hr n) = c_fellShort c := by
  intro n
  induction n with
  | zero => rfl
  | succ n ih => exact ih
theorem fs_W (c : CS) (h : HS) (hr : Int32) : ∀ n, c_fellShort (fC_passWalls_2 c h hr n) = c_fellShort c := by
  intro n
  induction n with
  | zero => rfl
  | succ n ih =>
    show c_fellShort (bC_passWalls_2 (fC_passWalls_2 c h hr n) c h hr n) = _
    unfold bC_passWalls_2
    split <;> exact ih
theorem fs_N (c : CS) (h : HS) (hr : Int32) : ∀ n, c_fellShort (fC_passWindows_2 c h hr n) = c_fellShort c := by
  intro n
  induction n with
  | zero => rfl
  | succ n ih =>
    show c_fellShort (bC_passWindows_2 (fC_passWindows_2 c h hr n) c h hr n) = _
    unfold bC_passWindows_2
    split <;> exact ih
theorem fs_47 {c : CS} {h : HS} {hr : Int32} : ∀ n, c_fellShort (fC_step_47 c h hr n) = 0 → c_fellShort c = 0 := by
  intro n
  induction n with
  | zero => exact id
  | succ n ih =>
    intro hf
    have e : c_fellShort (scC_coolDown (scC_heatUp (scC_bringPersons (fC_step_47 c h hr n) h (nI n) hr) h (nI n) hr) h (nI n) hr) = 0 := hf
    rw [fs_C] at e
    exact ih (fs_H (z := scC_bringPersons (fC_step_47 c h hr n) h (nI n) hr) e)
theorem fs_step {c : CS} {h : HS} (hf : c_fellShort (scC_step c h) = 0) : c_fellShort c = 0 := by
  unfold scC_step scC_passWindows scC_passWalls at hf
  have h2 : c_fellShort (fC_step_47 (fC_passWindows_2 (fC_passWalls_2 (fC_step_7 c h (rC_hourOfDay c h) (hnR h)) h (rC_hourOfDay c h) (hnW h)) h (rC_hourOfDay c h) (hnN h)) h (rC_hourOfDay c h) (hnR h)) = 0 := by
    unfold scC_step_z scC_countUneasy at hf
    split at hf
    · exact hf
    · rw [fs_U] at hf
      exact hf
  have h3 := fs_47 _ h2
  rw [fs_N, fs_W, fs_7] at h3
  exact h3
theorem gU_s (h : HS) (room steps : Int32) (n : Nat) (z : CS) : gC_staysUp h room steps (n + 1) z = hC_staysUp (gC_staysUp h room steps n) z h room steps := rfl
theorem fs_up {h : HS} {room steps : Int32} : ∀ n z, c_fellShort (gC_staysUp h room steps n z).2 = 0 → c_fellShort z = 0 := by
  intro n
  induction n with
  | zero => exact fun z hf => hf
  | succ n ih =>
    intro z hf
    rw [gU_s] at hf
    unfold hC_staysUp at hf
    split at hf
    · exact fs_step (ih _ hf)
    · split at hf
      · exact fs_step (ih _ hf)
      · split at hf
        · exact fs_step (ih _ hf)
        · exact fs_step hf
theorem he_pz (z : CS) (h : HS) (m x : Int32) : rC_hourEnds (pz z m x) h = rC_hourEnds z h := rfl
theorem hd_pz (z : CS) (h : HS) (m x : Int32) : rC_hourOfDay (pz z m x) h = rC_hourOfDay z h := rfl
theorem hp_pz (z : CS) (h : HS) (m x a b : Int32) : rC_hasPersons (pz z m x) h a b = rC_hasPersons z h a b := rfl
theorem wa_pz (z : CS) (h : HS) (m x a : Int32) : rC_warmthOf (pz z m x) h a = rC_warmthOf z h a := rfl
/-- a stronger heater does the same where the weaker one never fell short -/
theorem up_pz {h : HS} {room steps m : Int32} : ∀ n z, (c_mostTried z).toInt ≤ m.toInt → (gC_staysUp h room steps n z).1 = 0 → c_fellShort (gC_staysUp h room steps n z).2 = 0 → (gC_staysUp h room steps n (pz z m (c_setFrom z))).1 = 0 := by
  intro n
  induction n with
  | zero => exact fun z _ h1 _ => absurd (show (1 : Int32) = 0 from h1) (by decide)
  | succ n ih =>
    intro z hm h1 h2
    have hf1 : c_fellShort (scC_step z h) = 0 := by
      rw [gU_s] at h2
      unfold hC_staysUp at h2
      split at h2
      · exact fs_up _ _ h2
      · split at h2
        · exact fs_up _ _ h2
        · split at h2
          · exact fs_up _ _ h2
          · exact h2
    have es : scC_step (pz z m (c_setFrom z)) h = pz (scC_step z h) m (c_setFrom z) := pz_step Iff.rfl hm h (Or.inl hf1)
    have ep := cp2_step z h
    simp only [cPar2, Prod.mk.injEq] at ep
    have es2 : scC_step (pz z m (c_setFrom z)) h = pz (scC_step z h) m (c_setFrom (scC_step z h)) := by rw [es, ep.2.2.1]
    have hm2 : (c_mostTried (scC_step z h)).toInt ≤ m.toInt := by rw [ep.2.2.2.2.1]; exact hm
    rw [gU_s] at h1 h2 ⊢
    unfold hC_staysUp at h1 h2 ⊢
    rw [es2, he_pz, hd_pz, hp_pz, wa_pz]
    by_cases q1 : rC_hourEnds (scC_step z h) h = 0
    · rw [if_pos q1] at h1 h2 ⊢
      exact ih _ hm2 h1 h2
    · rw [if_neg q1] at h1 h2 ⊢
      by_cases q2 : rC_hasPersons (scC_step z h) h room (rC_hourOfDay z h) = 0
      · rw [if_pos q2] at h1 h2 ⊢
        exact ih _ hm2 h1 h2
      · rw [if_neg q2] at h1 h2 ⊢
        by_cases q3 : 0 ≤ lg_cmp (rC_warmthOf (scC_step z h) h room) (h_low h).toInt64
        · rw [if_pos q3] at h1 h2 ⊢
          exact ih _ hm2 h1 h2
        · rw [if_neg q3]
/-- the class's trial of a heater against the reference's -/
theorem up_rel {h : HS} (hp : pI h) {x : Int32} {b : Int64} {mh : Nat → Int32} (hmh : ∀ i, i < 8 → 0 ≤ (mh i).toInt) {j : Nat} (hj : j < hnR h) {steps : Int32} {c0 : CS} {g0 : MV} {o N : Nat} (hb : o + N < 2 ^ 31) (hTM : ∀ c', cPar2 c' = cPar2 c0 → kTM c' h mh) (hTS : ∀ k, k < N → ∀ c' gv', cPar2 c' = cPar2 c0 → mPar2 gv' = mPar2 g0 → c_over c' = nI (o + k) → m_now gv' = nI (o + k) → kTS c' gv') (ht : m_triedRoom g0 = nI j) : ∀ n k z y, k + n = N → SS False z y → cPar2 z = cPar2 c0 → mPar2 y = mPar2 g0 → c_over z = nI (o + k) → m_wasLow y = 0 → (gC_staysUp h (nI j) steps n z).1 = (if m_wasLow (itM (mOf x b mh h) n y) = 0 then 1 else 0) := by
  have h8 := hp.1.1.2
  intro n
  induction n with
  | zero =>
    intro k z y _ _ _ _ _ hw
    show (1 : Int32) = (if m_wasLow y = 0 then 1 else 0)
    rw [if_pos hw]
  | succ n ih =>
    intro k z y hk hS h1 h2 h3 hw
    have hno : m_now y = nI (o + k) := by rw [← hS.1, h3]
    have st := step_rel hp (x := x) (b := b) hmh (hTS k (by omega) z y h1 h2 h3 hno) (hTM z h1) (by rw [hno]; exact nI_pos (by omega)) hS
    have hov : c_over (scC_step z h) = nI (o + (k + 1)) := by
      rw [ov_step, h3, nI_1]
      rfl
    have htr : m_triedRoom y = nI j := by
      have := h2
      simp only [mPar2, Prod.mk.injEq] at this
      exact this.1.trans ht
    have W := wl_step (gu := mOf x b mh h) (gv := y) h8 hj htr (Or.inl hw)
    have IH := ih (k + 1) (scC_step z h) (sgvM_step (mOf x b mh h) y) (by omega) st.1 (st.2.1.trans h1) (st.2.2.trans h2) hov
    rw [itM_shift, gU_s]
    unfold hC_staysUp
    have eh : rC_hourEnds (scC_step z h) h = (if (m_now y + 1) - (m_now y + 1) / 4 * 4 = 0 then 1 else 0) := by
      unfold rC_hourEnds
      rw [ov_step, hS.1]
    have ehr : rC_hourOfDay z h = m_now y / 4 - m_now y / 4 / 24 * 24 := by
      unfold rC_hourOfDay
      rw [hS.1]
    have ep : rC_hasPersons (scC_step z h) h (nI j) (rC_hourOfDay z h) = (if m_persons (mOf x b mh h) (24 * nI j + (m_now y / 4 - m_now y / 4 / 24 * 24)).toNatClampNeg ≤ 0 then 0 else 1) := by
      unfold rC_hasPersons rC_planned
      rw [ehr, Int32.mul_comm (nI j) 24]
      rfl
    have ew : rC_warmthOf (scC_step z h) h (nI j) = rM_warmthOf (mOf x b mh h) (sgvM_step (mOf x b mh h) y) (nI j) := warm_eq hp hj (st.1.2.1 j (by omega))
    rw [eh, ep, ew]
    by_cases q1 : (m_now y + 1) - (m_now y + 1) / 4 * 4 = 0
    · rw [if_pos q1, if_neg n10]
      by_cases q2 : m_persons (mOf x b mh h) (24 * nI j + (m_now y / 4 - m_now y / 4 / 24 * 24)).toNatClampNeg ≤ 0
      · rw [if_pos q2, if_pos rfl]
        exact IH (W.2.mpr ⟨hw, fun _ L => L.1 q2⟩)
      · rw [if_neg q2, if_neg n10]
        by_cases q3 : 0 ≤ lg_cmp (rM_warmthOf (mOf x b mh h) (sgvM_step (mOf x b mh h) y) (nI j)) (h_low h).toInt64
        · rw [if_pos q3]
          exact IH (W.2.mpr ⟨hw, fun _ L => L.2 q3⟩)
        · rw [if_neg q3]
          have hw1 : m_wasLow (sgvM_step (mOf x b mh h) y) = 1 := by
            rcases W.1 with e | e
            · exact absurd ⟨q2, q3⟩ ((W.2.mp e).2 q1)
            · exact e
          have tr1 : m_triedRoom (sgvM_step (mOf x b mh h) y) = nI j := by
            have := st.2.2
            simp only [mPar2, Prod.mk.injEq] at this
            exact this.1.trans htr
          rw [if_neg (by rw [wl_stay (gu := mOf x b mh h) (r := j) h8 hj tr1 hw1 n]; decide)]
    · rw [if_neg q1, if_pos rfl]
      exact IH (W.2.mpr ⟨hw, fun z9 => absurd z9 q1⟩)
noncomputable def sC (c z : CS) (h : HS) (room : Int32) (i : Nat) : CS := scC_tryMost (stC_copyOf c z h) h room (nI (1000 * i))
noncomputable def sM (zu : MU) (zv : MV) (r steps : Int32) : MV := (m_heat (sgvM_keep zu zv), m_uneasy (sgvM_keep zu zv), m_gave (sgvM_keep zu zv), m_taken (sgvM_keep zu zv), m_greatest (sgvM_keep zu zv), m_now (sgvM_keep zu zv), m_bySun (sgvM_keep zu zv), m_byPersons (sgvM_keep zu zv), m_out (sgvM_keep zu zv), m_warmth (sgvM_keep zu zv), r, m_triedWarmth (sgvM_keep zu zv), m_now (sgvM_keep zu zv) + steps, m_wasLow (sgvM_keep zu zv), m_kept (sgvM_keep zu zv))
theorem sM_now (zu : MU) (zv : MV) (r s : Int32) : m_now (sM zu zv r s) = m_now (sgvM_keep zu zv) := mkv_now
theorem sM_heat (zu : MU) (zv : MV) (r s : Int32) : m_heat (sM zu zv r s) = m_heat (sgvM_keep zu zv) := mkv_heat
theorem sM_tr (zu : MU) (zv : MV) (r s : Int32) : m_triedRoom (sM zu zv r s) = r := mkv_triedRoom
theorem sM_tf (zu : MU) (zv : MV) (r s : Int32) : m_triedFrom (sM zu zv r s) = m_now (sgvM_keep zu zv) + s := mkv_triedFrom
theorem sM_wl (zu : MU) (zv : MV) (r s : Int32) : m_wasLow (sM zu zv r s) = m_wasLow (sgvM_keep zu zv) := mkv_wasLow
theorem sM_kp (zu : MU) (zv : MV) (r s : Int32) : m_kept (sM zu zv r s) = m_kept (sgvM_keep zu zv) := mkv_kept
