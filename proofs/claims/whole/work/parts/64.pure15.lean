noncomputable def itC (h : HS) (n : Nat) (c : CS) : CS := Nat.rec (motive := fun _ => CS) c (fun _ z => scC_step z h) n
noncomputable def itM (gu : MU) (n : Nat) (gv : MV) : MV := Nat.rec (motive := fun _ => MV) gv (fun _ z => sgvM_step gu z) n
theorem itC_run (c t : CS) (h : HS) (nn : Int32) : ∀ n, fR_run_47 c t h nn n = itC h n c := by
  intro n
  induction n with
  | zero => rfl
  | succ n ih =>
    show scC_step (fR_run_47 c t h nn n) h = scC_step (itC h n c) h
    rw [ih]
theorem itM_run (gu : MU) (gv : MV) (nn : Int32) : ∀ n, fM_run_46 gu gv nn n = itM gu n gv := by
  intro n
  induction n with
  | zero => rfl
  | succ n ih =>
    show sgvM_step gu (fM_run_46 gu gv nn n) = sgvM_step gu (itM gu n gv)
    rw [ih]
theorem itC_early (c t : CS) (h : HS) (a1 a2 a3 a4 a5 a6 : Int32) (o K : Nat) : ∀ n, fR_early_95 c t h a1 a2 a3 a4 a5 a6 o K n = itC h n t := by
  intro n
  induction n with
  | zero => rfl
  | succ n ih =>
    show scC_step (fR_early_95 c t h a1 a2 a3 a4 a5 a6 o K n) h = scC_step (itC h n t) h
    rw [ih]
theorem itM_early (gu : MU) (gv : MV) (a1 a2 a3 a4 a5 : Int32) (o K : Nat) : ∀ n, fM_early_121 gu gv a1 a2 a3 a4 a5 o K n = itM gu n gv := by
  intro n
  induction n with
  | zero => rfl
  | succ n ih =>
    show sgvM_step gu (fM_early_121 gu gv a1 a2 a3 a4 a5 o K n) = sgvM_step gu (itM gu n gv)
    rw [ih]
theorem itM_strong (gu : MU) (gv : MV) (a1 a2 a3 a4 a5 : Int32) (o : Nat) : ∀ n, fM_strong_95 gu gv a1 a2 a3 a4 a5 o n = itM gu n gv := by
  intro n
  induction n with
  | zero => rfl
  | succ n ih =>
    show sgvM_step gu (fM_strong_95 gu gv a1 a2 a3 a4 a5 o n) = sgvM_step gu (itM gu n gv)
    rw [ih]
theorem itM_shift (gu : MU) (gv : MV) : ∀ n, itM gu (n + 1) gv = itM gu n (sgvM_step gu gv) := by
  intro n
  induction n with
  | zero => rfl
  | succ n ih =>
    show sgvM_step gu (itM gu (n + 1) gv) = sgvM_step gu (itM gu n (sgvM_step gu gv))
    rw [ih]
theorem itM_kept (gu : MU) (gv : MV) : ∀ n, m_kept (itM gu n gv) = m_kept gv := by
  intro n
  induction n with
  | zero => rfl
  | succ n ih =>
    show m_kept (sgvM_step gu (itM gu n gv)) = _
    rw [kp_step, ih]
theorem it_rel {full : Prop} {h : HS} (hp : pI h) {x : Int32} {b : Int64} {mh : Nat → Int32} (hmh : ∀ i, i < 8 → 0 ≤ (mh i).toInt) {c : CS} {gv : MV} {o : Nat} (hov : c_over c = nI o) (hTM : ∀ c', cPar2 c' = cPar2 c → kTM c' h mh) (hS : SS full c gv) : ∀ n, o + n < 2 ^ 31 → (∀ k, k < n → ∀ c' gv', cPar2 c' = cPar2 c → mPar2 gv' = mPar2 gv → c_over c' = nI (o + k) → m_now gv' = nI (o + k) → kTS c' gv') → SS full (itC h n c) (itM (mOf x b mh h) n gv) ∧ cPar2 (itC h n c) = cPar2 c ∧ mPar2 (itM (mOf x b mh h) n gv) = mPar2 gv ∧ c_over (itC h n c) = nI (o + n) := by
  intro n
  induction n with
  | zero => exact fun _ _ => ⟨hS, rfl, rfl, hov⟩
  | succ n ih =>
    intro hn hTS
    obtain ⟨i1, i2, i3, i4⟩ := ih (by omega) (fun k hk => hTS k (by omega))
    have en : m_now (itM (mOf x b mh h) n gv) = nI (o + n) := by rw [← i1.1, i4]
    have st := step_rel hp (x := x) (b := b) hmh (hTS n (Nat.lt_succ_self n) _ _ i2 i3 i4 en) (hTM _ i2) (by rw [en]; exact nI_pos (by omega)) i1
    refine ⟨st.1, st.2.1.trans i2, st.2.2.trans i3, ?_⟩
    show c_over (scC_step (itC h n c) h) = _
    rw [ov_step, i4, nI_1]
    rfl
theorem kTS_off {c : CS} {gv : MV} (h1 : c_setRoom c = -1) (h2 : m_triedRoom gv = -1) : kTS c gv := by
  intro i hi X
  rw [h1, h2, if_neg (nI_ne_m1 (by omega)), if_neg (nI_ne_m1 (by omega))]
theorem kTM_off {c : CS} {h : HS} (h1 : c_mostRoom c = -1) : kTM c h (h_mosts h 0) := by
  intro i hi
  rw [h1, if_neg (nI_ne_m1 (by omega))]
theorem wl_it0 {gu : MU} {gv : MV} (h8 : mnR gu ≤ 8) (ht : m_triedRoom gv = -1) (hw : m_wasLow gv = 0) (hp2 : ∀ n, m_triedRoom (itM gu n gv) = m_triedRoom gv) : ∀ n, m_wasLow (itM gu n gv) = 0 := by
  intro n
  induction n with
  | zero => exact hw
  | succ n ih => exact wl_step0 h8 ((hp2 n).trans ht) ih
theorem mp2_step (gu : MU) (gv : MV) : mPar2 (sgvM_step gu gv) = mPar2 gv := by
  have e312 : ∀ (z : MV) (hr : Int32) (n : Nat), mPar2 (fM_step_312 gu z hr n) = mPar2 z := by
    intro z hr n
    induction n with
    | zero => rfl
    | succ n ih => exact ih
  unfold sgvM_step sgvM_flows
  generalize m_now gv / 4 - m_now gv / 4 / 24 * 24 = hr
  have hmp : mPar (fM_step_17 gu (fM_flows_248 gu (fM_flows_145 gu (fM_flows_29 gu (fM_flows_2 gu gv hr (mnR gu)) hr (mnW gu)) hr (mnN gu)) hr (mnR gu)) hr (mnR gu)) = mPar gv := by rw [mp_17, mp_248, mp_145, mp_29, mp_2]
  generalize fM_step_17 gu (fM_flows_248 gu (fM_flows_145 gu (fM_flows_29 gu (fM_flows_2 gu gv hr (mnR gu)) hr (mnW gu)) hr (mnN gu)) hr (mnR gu)) hr (mnR gu) = gE at hmp ⊢
  simp only [mPar, Prod.mk.injEq] at hmp
  obtain ⟨k1, k2, k3, k4⟩ := hmp
  have e : mPar2 gE = mPar2 gv := by
    simp only [mPar2, Prod.mk.injEq]
    exact ⟨k2, k3, k4⟩
  unfold sgvM_step_z
  split
  · rw [e312]
    exact e
  · exact e
theorem mp2_it (gu : MU) (gv : MV) : ∀ n, mPar2 (itM gu n gv) = mPar2 gv := by
  intro n
  induction n with
  | zero => rfl
  | succ n ih => exact (mp2_step gu _).trans ih
theorem tr_it (gu : MU) (gv : MV) (n : Nat) : m_triedRoom (itM gu n gv) = m_triedRoom gv := by
  have := mp2_it gu gv n
  simp only [mPar2, Prod.mk.injEq] at this
  exact this.1
theorem p_run {c t : CS} {h : HS} {gu : MU} {gv : MV} {f : Nat → Int64} (p0 : Int32) (hR : Rl c h gu gv) : m_thrown (sguM_run gu gv p0) = kcode (oR_run c t h p0) ∧ (kcode (oR_run c t h p0) = 0 → kout (oR_run c t h p0) (rR_run c t h p0).toInt64 f 0 = (rM_run gu gv p0).toInt64) ∧ Rl (scR_run c t h p0) h (sguM_run gu gv p0) (sgvM_run gu gv p0) := by
  obtain ⟨⟨x, rfl⟩, hp, ⟨o, ho5, ho⟩, hS, hT⟩ := hR
  have hno : m_now gv = nI o := by rw [← hS.1, ho]
  unfold oR_run rR_run scR_run sguM_run rM_run sgvM_run
  by_cases q1 : rR_isWithin p0 1 400 = 0
  · have q1' : rM_in p0 1 400 = 0 := q1
    simp only [q1, q1', ↓reduceIte, kc1]
    exact ⟨by first | trivial | rfl, by first | trivial | exact fun q => absurd q n10 | exact fun q => q.elim, ⟨1, rfl⟩, hp, ⟨o, ho5, ho⟩, hS, hT⟩
  · have q1' : ¬ rM_in p0 1 400 = 0 := q1
    simp only [q1, q1', ↓reduceIte]
    obtain ⟨e0, hn5⟩ := krange q1'
    have e1 : c_over c + p0 = m_now gv + p0 := by rw [hS.1]
    rw [e1]
    by_cases q2 : m_now gv + p0 ≤ 100000
    · simp only [q2, ↓reduceIte, kc0]
      rw [itC_run, itM_run]
      generalize hn : p0.toNatClampNeg = n at e0 hn5
      have hon : o + n ≤ 100000 := by
        rw [hno, e0, nI_add] at q2
        exact (nI_leI (b := 100000) (by omega) (by decide)).mp q2
      obtain ⟨i1, i2, i3, i4⟩ := it_rel hp (x := 0) (b := c_begun c) (mh := h_mosts h 0) (fun i _ => (hp.2.2.1.2.2.2 i).1) ho (fun c' h1 => by
        simp only [cPar2, Prod.mk.injEq] at h1
        exact kTM_off (h1.2.2.2.1.trans hT.2.1)) hS n (by omega) (fun k hk c' gv' h1 h2 h3 h4 => by
        simp only [cPar2, mPar2, Prod.mk.injEq] at h1 h2
        exact kTS_off (h1.1.trans hT.1) (h2.1.trans hT.2.2.1))
      have hw := wl_it0 (gu := mOf 0 (c_begun c) (h_mosts h 0) h) hp.1.1.2 hT.2.2.1 hT.2.2.2 (tr_it _ _) n
      simp only [cPar2, mPar2, Prod.mk.injEq] at i2 i3
      refine ⟨by first | trivial | rfl, ?_, ⟨0, ?_⟩, hp, ⟨o + n, hon, i4⟩, i1, i2.1.trans hT.1, i2.2.2.2.1.trans hT.2.1, i3.1.trans hT.2.2.1, hw⟩
      · try intro _
        refine kout0.trans ?_
        show (c_over (itC h n c)).toInt64 = (m_now (itM (mOf 0 (c_begun c) (h_mosts h 0) h) n gv)).toInt64
        rw [i1.1]
      · rw [i2.2.2.2.2.2]
    · simp only [q2, ↓reduceIte, kc2']
      exact ⟨by first | trivial | rfl, by first | trivial | exact fun q => absurd q n20 | exact fun q => q.elim, ⟨2, rfl⟩, hp, ⟨o, ho5, ho⟩, hS, hT⟩
