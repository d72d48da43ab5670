theorem wl_F2 (gu : MU) (gv : MV) (h_ : Int32) (n : Nat) : m_wasLow (fM_flows_2 gu gv h_ n) = m_wasLow gv := by
  induction n with
  | zero => rfl
  | succ n ih => exact ih
theorem wl_F29 (gu : MU) (gv : MV) (h_ : Int32) (n : Nat) : m_wasLow (fM_flows_29 gu gv h_ n) = m_wasLow gv := by
  induction n with
  | zero => rfl
  | succ n ih =>
    show m_wasLow (bM_flows_29 (fM_flows_29 gu gv h_ n) gu gv h_ n) = _
    unfold bM_flows_29
    split <;> exact ih
theorem wl_F145 (gu : MU) (gv : MV) (h_ : Int32) (n : Nat) : m_wasLow (fM_flows_145 gu gv h_ n) = m_wasLow gv := by
  induction n with
  | zero => rfl
  | succ n ih =>
    show m_wasLow (bM_flows_145 (fM_flows_145 gu gv h_ n) gu gv h_ n) = _
    unfold bM_flows_145
    split <;> exact ih
theorem wl_F248 (gu : MU) (gv : MV) (h_ : Int32) (n : Nat) : m_wasLow (fM_flows_248 gu gv h_ n) = m_wasLow gv := by
  induction n with
  | zero => rfl
  | succ n ih => exact ih
theorem wl_F17 (gu : MU) (gv : MV) (h_ : Int32) (n : Nat) : m_wasLow (fM_step_17 gu gv h_ n) = m_wasLow gv := by
  induction n with
  | zero => rfl
  | succ n ih => exact ih
theorem ht_312 (gu : MU) (gv : MV) (h_ : Int32) (n : Nat) : m_heat (fM_step_312 gu gv h_ n) = m_heat gv := by
  induction n with
  | zero => rfl
  | succ n ih => exact ih
theorem tr_312 (gu : MU) (gv : MV) (h_ : Int32) (n : Nat) : m_triedRoom (fM_step_312 gu gv h_ n) = m_triedRoom gv := by
  induction n with
  | zero => rfl
  | succ n ih => exact ih
theorem wo_eq {gu : MU} {y z : MV} (e : m_heat y = m_heat z) (r : Int32) : rM_warmthOf gu y r = rM_warmthOf gu z r := by
  unfold rM_warmthOf
  rw [e]
/-- whether the room is low with persons in it -/
def LowC (gu : MU) (y : MV) (hr : Int32) (r : Nat) : Prop := ¬ m_persons gu (24 * nI r + hr).toNatClampNeg ≤ 0 ∧ ¬ 0 ≤ lg_cmp (rM_warmthOf gu y (nI r)) (m_low gu).toInt64
theorem wl_312 {gu : MU} {gv : MV} {hr : Int32} {r : Nat} (hr8 : r < 8) (ht : m_triedRoom gv = nI r) (hw : m_wasLow gv = 0 ∨ m_wasLow gv = 1) : ∀ n, n ≤ 8 → (m_wasLow (fM_step_312 gu gv hr n) = 0 ∨ m_wasLow (fM_step_312 gu gv hr n) = 1) ∧ (m_wasLow (fM_step_312 gu gv hr n) = 0 ↔ m_wasLow gv = 0 ∧ (r < n → ¬ LowC gu gv hr r)) := by
  intro n
  induction n with
  | zero => exact fun _ => ⟨hw, ⟨fun e => ⟨e, fun q => absurd q (Nat.not_lt_zero r)⟩, fun e => e.1⟩⟩
  | succ n ih =>
    intro hn
    obtain ⟨i1, i2⟩ := ih (by omega)
    have e0 : m_wasLow (fM_step_312 gu gv hr (n + 1)) = jM_step_419 (fM_step_312 gu gv hr n) gu gv hr n := rfl
    have ew := wo_eq (gu := gu) (ht_312 gu gv hr n) (nI n)
    have et := tr_312 gu gv hr n
    rw [e0]
    unfold jM_step_419
    rw [ew, et, ht]
    rcases i1 with i1 | i1
    · rw [if_pos i1]
      have a1 := i2.mp i1
      by_cases q : nI n = nI r
      · have q' : n = r := (nI_eq (by omega) (by omega)).mp q
        subst q'
        rw [if_pos rfl]
        by_cases q2 : m_persons gu (24 * nI n + hr).toNatClampNeg ≤ 0
        · rw [if_pos q2]
          exact ⟨Or.inl rfl, ⟨fun _ => ⟨a1.1, fun _ L => L.1 q2⟩, fun _ => rfl⟩⟩
        · rw [if_neg q2]
          by_cases q3 : 0 ≤ lg_cmp (rM_warmthOf gu gv (nI n)) (m_low gu).toInt64
          · rw [if_pos q3]
            exact ⟨Or.inl rfl, ⟨fun _ => ⟨a1.1, fun _ L => L.2 q3⟩, fun _ => rfl⟩⟩
          · rw [if_neg q3]
            exact ⟨Or.inr rfl, ⟨fun e => absurd e (by decide), fun e => absurd ⟨q2, q3⟩ (e.2 (by omega))⟩⟩
      · rw [if_neg q]
        refine ⟨Or.inl rfl, ⟨fun _ => ⟨a1.1, fun q2 => ?_⟩, fun _ => rfl⟩⟩
        have : n ≠ r := fun e => q (by rw [e])
        exact a1.2 (by omega)
    · rw [if_neg (by rw [i1]; decide)]
      refine ⟨Or.inr rfl, ⟨fun e => absurd e (by decide), fun e => ?_⟩⟩
      have := i2.mpr ⟨e.1, fun q => e.2 (by omega)⟩
      rw [i1] at this
      exact absurd this (by decide)
theorem wl_0 {gu : MU} {gv : MV} {hr : Int32} (ht : m_triedRoom gv = -1) (hw : m_wasLow gv = 0) : ∀ n, n ≤ 8 → m_wasLow (fM_step_312 gu gv hr n) = 0 := by
  intro n
  induction n with
  | zero => exact fun _ => hw
  | succ n ih =>
    intro hn
    have e0 : m_wasLow (fM_step_312 gu gv hr (n + 1)) = jM_step_419 (fM_step_312 gu gv hr n) gu gv hr n := rfl
    rw [e0]
    unfold jM_step_419
    rw [tr_312, ht, if_pos (ih (by omega)), if_neg (nI_ne_m1 (by omega))]
theorem mp_17 (gu : MU) (gv : MV) (h_ : Int32) (n : Nat) : mPar (fM_step_17 gu gv h_ n) = mPar gv := by
  induction n with
  | zero => rfl
  | succ n ih => exact ih
theorem mp_2 (gu : MU) (gv : MV) (h_ : Int32) (n : Nat) : mPar (fM_flows_2 gu gv h_ n) = mPar gv := by
  induction n with
  | zero => rfl
  | succ n ih => exact ih
theorem mp_248 (gu : MU) (gv : MV) (h_ : Int32) (n : Nat) : mPar (fM_flows_248 gu gv h_ n) = mPar gv := by
  induction n with
  | zero => rfl
  | succ n ih => exact ih
theorem mp_29 (gu : MU) (gv : MV) (h_ : Int32) (n : Nat) : mPar (fM_flows_29 gu gv h_ n) = mPar gv := by
  induction n with
  | zero => rfl
  | succ n ih =>
    show mPar (bM_flows_29 (fM_flows_29 gu gv h_ n) gu gv h_ n) = _
    unfold bM_flows_29
    split <;> exact ih
theorem mp_145 (gu : MU) (gv : MV) (h_ : Int32) (n : Nat) : mPar (fM_flows_145 gu gv h_ n) = mPar gv := by
  induction n with
  | zero => rfl
  | succ n ih =>
    show mPar (bM_flows_145 (fM_flows_145 gu gv h_ n) gu gv h_ n) = _
    unfold bM_flows_145
    split <;> exact ih
/-- what a step does to wasLow -/
theorem wl_step {gu : MU} {gv : MV} {r : Nat} (h8 : mnR gu ≤ 8) (hr8 : r < mnR gu) (ht : m_triedRoom gv = nI r) (hw : m_wasLow gv = 0 ∨ m_wasLow gv = 1) : (m_wasLow (sgvM_step gu gv) = 0 ∨ m_wasLow (sgvM_step gu gv) = 1) ∧ (m_wasLow (sgvM_step gu gv) = 0 ↔ m_wasLow gv = 0 ∧ ((m_now gv + 1) - (m_now gv + 1) / 4 * 4 = 0 → ¬ LowC gu (sgvM_step gu gv) (m_now gv / 4 - m_now gv / 4 / 24 * 24) r)) := by
  unfold sgvM_step sgvM_flows
  generalize ehr : m_now gv / 4 - m_now gv / 4 / 24 * 24 = hr
  have hmp : mPar (fM_step_17 gu (fM_flows_248 gu (fM_flows_145 gu (fM_flows_29 gu (fM_flows_2 gu gv hr (mnR gu)) hr (mnW gu)) hr (mnN gu)) hr (mnR gu)) hr (mnR gu)) = mPar gv := by rw [mp_17, mp_248, mp_145, mp_29, mp_2]
  have hwl : m_wasLow (fM_step_17 gu (fM_flows_248 gu (fM_flows_145 gu (fM_flows_29 gu (fM_flows_2 gu gv hr (mnR gu)) hr (mnW gu)) hr (mnN gu)) hr (mnR gu)) hr (mnR gu)) = m_wasLow gv := by rw [wl_F17, wl_F248, wl_F145, wl_F29, wl_F2]
  generalize fM_step_17 gu (fM_flows_248 gu (fM_flows_145 gu (fM_flows_29 gu (fM_flows_2 gu gv hr (mnR gu)) hr (mnW gu)) hr (mnN gu)) hr (mnR gu)) hr (mnR gu) = gE at hmp hwl ⊢
  simp only [mPar, Prod.mk.injEq] at hmp
  obtain ⟨k1, k2, k3, k4⟩ := hmp
  unfold sgvM_step_z
  rw [ehr, k1]
  by_cases q : (m_now gv + 1) - (m_now gv + 1) / 4 * 4 = 0
  · rw [if_pos q]
    have W := wl_312 (gu := gu) (gv := (m_heat gE, m_uneasy gE, m_gave gE, m_taken gE, m_greatest gE, m_now gv + 1, m_bySun gE, m_byPersons gE, m_out gE, m_warmth gE, m_triedRoom gE, m_triedWarmth gE, m_triedFrom gE, m_wasLow gE, m_kept gE)) (hr := hr) (r := r) (by omega) (k2.trans ht) (by rw [← hwl] at hw; exact hw) (mnR gu) h8
    refine ⟨W.1, W.2.trans ?_⟩
    have eL : LowC gu (fM_step_312 gu (m_heat gE, m_uneasy gE, m_gave gE, m_taken gE, m_greatest gE, m_now gv + 1, m_bySun gE, m_byPersons gE, m_out gE, m_warmth gE, m_triedRoom gE, m_triedWarmth gE, m_triedFrom gE, m_wasLow gE, m_kept gE) hr (mnR gu)) hr r ↔ LowC gu (m_heat gE, m_uneasy gE, m_gave gE, m_taken gE, m_greatest gE, m_now gv + 1, m_bySun gE, m_byPersons gE, m_out gE, m_warmth gE, m_triedRoom gE, m_triedWarmth gE, m_triedFrom gE, m_wasLow gE, m_kept gE) hr r := by
      unfold LowC
      rw [wo_eq (ht_312 _ _ _ _)]
    constructor
    · intro ⟨a, c⟩
      exact ⟨hwl.symm.trans a, fun _ L => c hr8 (eL.mp L)⟩
    · intro ⟨a, c⟩
      exact ⟨hwl.trans a, fun _ L => c q (eL.mpr L)⟩
  · rw [if_neg q]
    refine ⟨by rw [← hwl] at hw; exact hw, ⟨fun a => ⟨hwl.symm.trans a, fun q2 => absurd q2 q⟩, fun a => hwl.trans a.1⟩⟩
theorem wl_step0 {gu : MU} {gv : MV} (h8 : mnR gu ≤ 8) (ht : m_triedRoom gv = -1) (hw : m_wasLow gv = 0) : m_wasLow (sgvM_step gu gv) = 0 := by
  unfold sgvM_step sgvM_flows
  generalize ehr : m_now gv / 4 - m_now gv / 4 / 24 * 24 = hr
  have hmp : mPar (fM_step_17 gu (fM_flows_248 gu (fM_flows_145 gu (fM_flows_29 gu (fM_flows_2 gu gv hr (mnR gu)) hr (mnW gu)) hr (mnN gu)) hr (mnR gu)) hr (mnR gu)) = mPar gv := by rw [mp_17, mp_248, mp_145, mp_29, mp_2]
  have hwl : m_wasLow (fM_step_17 gu (fM_flows_248 gu (fM_flows_145 gu (fM_flows_29 gu (fM_flows_2 gu gv hr (mnR gu)) hr (mnW gu)) hr (mnN gu)) hr (mnR gu)) hr (mnR gu)) = m_wasLow gv := by rw [wl_F17, wl_F248, wl_F145, wl_F29, wl_F2]
  generalize fM_step_17 gu (fM_flows_248 gu (fM_flows_145 gu (fM_flows_29 gu (fM_flows_2 gu gv hr (mnR gu)) hr (mnW gu)) hr (mnN gu)) hr (mnR gu)) hr (mnR gu) = gE at hmp hwl ⊢
  simp only [mPar, Prod.mk.injEq] at hmp
  obtain ⟨k1, k2, k3, k4⟩ := hmp
  unfold sgvM_step_z
  split
  · refine wl_0 ?_ ?_ _ h8
    · exact k2.trans ht
    · exact hwl.trans hw
  · exact hwl.trans hw
