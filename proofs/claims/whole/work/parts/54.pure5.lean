theorem lpA7 {full : Prop} {h : HS} (hp : pI h) {x : Int32} {b : Int64} {mh : Nat → Int32} {c0 c : CS} {gv0 gv : MV} {hr : Int32} (hK : KK full c0 gv0 c gv) : ∀ n, n ≤ hnR h → KK full c0 gv0 (fC_step_7 c h hr n) (fM_flows_2 (mOf x b mh h) gv hr n) ∧ Wn n (fC_step_7 c h hr n) (fM_flows_2 (mOf x b mh h) gv hr n) := by
  intro n
  induction n with
  | zero => exact fun _ => ⟨hK, fun r hr => absurd hr (Nat.not_lt_zero r)⟩
  | succ n ih => exact fun hn => k7 (hr := hr) (c9 := c) (gv9 := gv) hp (by omega) (ih (by omega)).1 (ih (by omega)).2
theorem lpW {full : Prop} {h : HS} (hp : pI h) {x : Int32} {b : Int64} {mh : Nat → Int32} {c0 c : CS} {gv0 gv : MV} {hr : Int32} (hK : KK full c0 gv0 c gv) (hW : Wn (hnR h) c gv) : ∀ n, n ≤ hnW h → KK full c0 gv0 (fC_passWalls_2 c h hr n) (fM_flows_29 (mOf x b mh h) gv hr n) ∧ Wn (hnR h) (fC_passWalls_2 c h hr n) (fM_flows_29 (mOf x b mh h) gv hr n) := by
  intro n
  induction n with
  | zero => exact fun _ => ⟨hK, hW⟩
  | succ n ih => exact fun hn => kwl (c9 := c) (gv9 := gv) hp (by omega) (ih (by omega)).1 (ih (by omega)).2
theorem lpN {full : Prop} {h : HS} (hp : pI h) {x : Int32} {b : Int64} {mh : Nat → Int32} {c0 c : CS} {gv0 gv : MV} {hr : Int32} (hh : vp_in hr 24) (hK : KK full c0 gv0 c gv) (hW : Wn (hnR h) c gv) : ∀ n, n ≤ hnN h → KK full c0 gv0 (fC_passWindows_2 c h hr n) (fM_flows_145 (mOf x b mh h) gv hr n) ∧ Wn (hnR h) (fC_passWindows_2 c h hr n) (fM_flows_145 (mOf x b mh h) gv hr n) := by
  intro n
  induction n with
  | zero => exact fun _ => ⟨hK, hW⟩
  | succ n ih => exact fun hn => kwn (c9 := c) (gv9 := gv) hp hh (by omega) (ih (by omega)).1 (ih (by omega)).2
theorem lpP {h : HS} {x : Int32} {b : Int64} {mh : Nat → Int32} {gv : MV} {hr : Int32} : ∀ n, mPar (fM_flows_248 (mOf x b mh h) gv hr n) = mPar gv ∧ (m_gave (fM_flows_248 (mOf x b mh h) gv hr n) = m_gave gv ∧ m_taken (fM_flows_248 (mOf x b mh h) gv hr n) = m_taken gv ∧ m_greatest (fM_flows_248 (mOf x b mh h) gv hr n) = m_greatest gv ∧ m_uneasy (fM_flows_248 (mOf x b mh h) gv hr n) = m_uneasy gv ∧ m_bySun (fM_flows_248 (mOf x b mh h) gv hr n) = m_bySun gv ∧ m_out (fM_flows_248 (mOf x b mh h) gv hr n) = m_out gv) ∧ (∀ j, m_heat (fM_flows_248 (mOf x b mh h) gv hr n) j = if j < n then m_heat gv j + Pq h hr j else m_heat gv j) ∧ m_byPersons (fM_flows_248 (mOf x b mh h) gv hr n) = Bs h hr (m_byPersons gv) n := by
  intro n
  induction n with
  | zero => exact ⟨rfl, ⟨rfl, rfl, rfl, rfl, rfl, rfl⟩, fun j => (if_neg (Nat.not_lt_zero j)).symm, rfl⟩
  | succ n ih =>
    obtain ⟨i1, i2, i3, i4⟩ := ih
    refine ⟨i1, i2, fun j => ?_, ?_⟩
    · show vp_updL (m_heat (fM_flows_248 (mOf x b mh h) gv hr n)) n (m_heat (fM_flows_248 (mOf x b mh h) gv hr n) n + Pq h hr n) j = _
      unfold vp_updL
      by_cases q : j = n
      · rw [if_pos q, if_pos (by omega), i3, if_neg (Nat.lt_irrefl n), q]
      · rw [if_neg q, i3]
        by_cases q2 : j < n
        · rw [if_pos q2, if_pos (by omega)]
        · rw [if_neg q2, if_neg (by omega)]
    · show m_byPersons (fM_flows_248 (mOf x b mh h) gv hr n) + Pq h hr n = _
      rw [i4]
      rfl
theorem lpF {full : Prop} {c0 : CS} {gv0 : MV} {h : HS} (hp : pI h) {x : Int32} {b : Int64} {mh : Nat → Int32} (hmh : ∀ i, i < 8 → 0 ≤ (mh i).toInt) (hTS : kTS c0 gv0) (hTM : kTM c0 h mh) {B : Int64} {c : CS} {y : MV} {hr : Int32} (hF : FF full c0 gv0 h hr B 0 c y) : ∀ n, n ≤ hnR h → FF full c0 gv0 h hr B n (fC_step_47 c h hr n) (fM_step_17 (mOf x b mh h) y hr n) := by
  intro n
  induction n with
  | zero => exact fun _ => hF
  | succ n ih => exact fun hn => kfu (c9 := c) (gv9 := y) hp hmh hTS hTM (by omega) (ih (by omega))
theorem kun {full : Prop} {c0 : CS} {gv0 : MV} {h : HS} (hp : pI h) {x : Int32} {b : Int64} {mh : Nat → Int32} {c c9 : CS} {gv gv9 : MV} {hr : Int32} {i : Nat} (hi : i < hnR h) (hK : KK full c0 gv0 c gv) : KK full c0 gv0 (bC_countUneasy_2 c c9 h hr i) (bM_step_312 gv (mOf x b mh h) gv9 hr i) := by
  have h8 := hp.1.1.2
  have e : rC_warmthOf c h (nI i) = rM_warmthOf (mOf x b mh h) gv (nI i) := warm_eq hp hi (hK.2.1 i (by omega))
  have ep : rC_planned c h 0 (nI i) hr = m_persons (mOf x b mh h) (24 * nI i + hr).toNatClampNeg := by
    unfold rC_planned
    rw [Int32.mul_comm (nI i) 24]
    rfl
  have key : ∀ (u : Nat → Int32) (d : Int32), d = jM_step_372 gv (mOf x b mh h) gv9 hr i → u = upd (c_uneasy c) i (c_uneasy c i + d) → KK full c0 gv0 (c_over c, c_setRoom c, c_setTried c, c_setFrom c, c_mostRoom c, c_mostTried c, c_fellShort c, c_begun c, c_fromSun c, c_fromPersons c, c_goneOut c, c_heat c, c_warmth c, c_given c, c_taken c, c_greatest c, u) (bM_step_312 gv (mOf x b mh h) gv9 hr i) := by
    intro u d hd hu
    refine ⟨⟨hK.1.1, hK.1.2.1, fun q => ?_⟩, hK.2⟩
    obtain ⟨a1, a2, a3, a4, a5, a6, a7⟩ := hK.1.2.2 q
    refine ⟨a1, a2, a3, ?_, a5, a6, a7⟩
    show E8i u (upd (m_uneasy gv) i (m_uneasy gv i + jM_step_372 gv (mOf x b mh h) gv9 hr i))
    rw [hu, hd]
    exact E8iu a4 (by rw [a4 i (by omega)])
  have same : ∀ d : Int32, d = 0 → d = jM_step_372 gv (mOf x b mh h) gv9 hr i → KK full c0 gv0 c (bM_step_312 gv (mOf x b mh h) gv9 hr i) := by
    intro d h0 hd
    exact key (c_uneasy c) d hd (by rw [h0, Int32.add_zero, upd_self])
  unfold bC_countUneasy_2 rC_hasPersons
  rw [e, ep]
  by_cases h1 : m_persons (mOf x b mh h) (24 * nI i + hr).toNatClampNeg ≤ 0
  · rw [if_pos h1, if_pos rfl]
    exact same 0 rfl (by unfold jM_step_372; rw [if_pos h1])
  · rw [if_neg h1, if_neg (by decide)]
    by_cases h2 : lg_cmp (rM_warmthOf (mOf x b mh h) gv (nI i)) (h_low h).toInt64 < 0
    · rw [if_pos h2]
      exact key _ 1 (by unfold jM_step_372; rw [if_neg h1, if_pos h2]) rfl
    · rw [if_neg h2]
      by_cases h3 : lg_cmp (rM_warmthOf (mOf x b mh h) gv (nI i)) (h_high h).toInt64 ≤ 0
      · rw [if_pos h3]
        exact same 0 rfl (by unfold jM_step_372; rw [if_neg h1, if_neg h2, if_pos h3])
      · rw [if_neg h3]
        exact key _ 1 (by unfold jM_step_372; rw [if_neg h1, if_neg h2, if_neg h3]) rfl
theorem lpU {full : Prop} {h : HS} (hp : pI h) {x : Int32} {b : Int64} {mh : Nat → Int32} {c0 c : CS} {gv0 gv : MV} {hr : Int32} (hK : KK full c0 gv0 c gv) : ∀ n, n ≤ hnR h → KK full c0 gv0 (fC_countUneasy_2 c h hr n) (fM_step_312 (mOf x b mh h) gv hr n) := by
  intro n
  induction n with
  | zero => exact fun _ => hK
  | succ n ih => exact fun hn => kun (c9 := c) (gv9 := gv) hp (by omega) (ih (by omega))
abbrev cPar2 (c : CS) : Int32 × Int32 × Int32 × Int32 × Int32 × Int64 := (c_setRoom c, c_setTried c, c_setFrom c, c_mostRoom c, c_mostTried c, c_begun c)
abbrev mPar2 (gv : MV) : Int32 × Int32 × Int32 := (m_triedRoom gv, m_triedWarmth gv, m_triedFrom gv)
def SS (full : Prop) (c : CS) (gv : MV) : Prop := c_over c = m_now gv ∧ E8 (c_heat c) (m_heat gv) ∧ (full → Qg c gv ∧ c_fromPersons c = m_byPersons gv)
theorem step_rel {full : Prop} {h : HS} (hp : pI h) {x : Int32} {b : Int64} {mh : Nat → Int32} (hmh : ∀ i, i < 8 → 0 ≤ (mh i).toInt) {c : CS} {gv : MV} (hTS : kTS c gv) (hTM : kTM c h mh) (ho : ¬ m_now gv < 0) (hS : SS full c gv) : SS full (scC_step c h) (sgvM_step (mOf x b mh h) gv) ∧ cPar2 (scC_step c h) = cPar2 c ∧ mPar2 (sgvM_step (mOf x b mh h) gv) = mPar2 gv := by
  obtain ⟨s1, s2, s3⟩ := hS
  have hh : vp_in (m_now gv / 4 - m_now gv / 4 / 24 * 24) 24 := khourM ho
  have ehr : rC_hourOfDay c h = m_now gv / 4 - m_now gv / 4 / 24 * 24 := by unfold rC_hourOfDay; rw [s1]
  have K0 : KK full c gv c gv := ⟨⟨rfl, rfl, fun q => (s3 q).1⟩, s2, fun q => (s3 q).2⟩
  unfold scC_step sgvM_step sgvM_flows scC_passWindows scC_passWalls
  rw [ehr]
  generalize ehr2 : m_now gv / 4 - m_now gv / 4 / 24 * 24 = hr at hh ehr ⊢
  have A := lpA7 hp (x := x) (b := b) (mh := mh) (hr := hr) K0 (hnR h) (Nat.le_refl _)
  have Bq := lpW hp (x := x) (b := b) (mh := mh) (hr := hr) A.1 A.2 (hnW h) (Nat.le_refl _)
  have Cq := lpN hp (x := x) (b := b) (mh := mh) hh Bq.1 Bq.2 (hnN h) (Nat.le_refl _)
  obtain ⟨⟨⟨l1, l2, l3⟩, l4, l5⟩, -⟩ := Cq
  have Dq := lpP (h := h) (x := x) (b := b) (mh := mh) (gv := fM_flows_145 (mOf x b mh h) (fM_flows_29 (mOf x b mh h) (fM_flows_2 (mOf x b mh h) gv hr (hnR h)) hr (hnW h)) hr (hnN h)) (hr := hr) (hnR h)
  generalize eC : fM_flows_145 (mOf x b mh h) (fM_flows_29 (mOf x b mh h) (fM_flows_2 (mOf x b mh h) gv hr (hnR h)) hr (hnW h)) hr (hnN h) = gC at l2 l3 l4 l5 Dq
  generalize ecC : fC_passWindows_2 (fC_passWalls_2 (fC_step_7 c h hr (hnR h)) h hr (hnW h)) h hr (hnN h) = cC at l1 l3 l4 l5 ⊢
  have eC2 : fM_flows_145 (mOf x b mh h) (fM_flows_29 (mOf x b mh h) (fM_flows_2 (mOf x b mh h) gv hr (mnR (mOf x b mh h))) hr (mnW (mOf x b mh h))) hr (mnN (mOf x b mh h)) = gC := eC
  try rw [eC2]
  obtain ⟨d1, ⟨d2, d3, d4, d5, d6, d7⟩, d8, d9⟩ := Dq
  have F0 : FF full c gv h hr (m_byPersons gC) 0 cC (fM_flows_248 (mOf x b mh h) gC hr (hnR h)) := by
    refine ⟨⟨l1, d1.trans l2, fun q => ?_⟩, fun j hj => ?_, fun q => ⟨l5 q, d9⟩⟩
    · obtain ⟨a1, a2, a3, a4, a5, a6, a7⟩ := l3 q
      exact ⟨by rw [d2]; exact a1, by rw [d3]; exact a2, by rw [d4]; exact a3, by rw [d5]; exact a4, a5.trans d6.symm, a6.trans d7.symm, by rw [d4]; exact a7⟩
    · rw [d8 j, l4 j hj]
      by_cases q : j < hnR h
      · rw [if_pos q, if_pos ⟨Nat.zero_le j, q⟩]
      · rw [if_neg q, if_neg (fun z => q z.2)]
  have Fn := lpF hp (x := x) (b := b) hmh hTS hTM F0 (hnR h) (Nat.le_refl _)
  generalize eE : fM_step_17 (mOf x b mh h) (fM_flows_248 (mOf x b mh h) gC hr (hnR h)) hr (hnR h) = gE at Fn
  have eE2 : fM_step_17 (mOf x b mh h) (fM_flows_248 (mOf x b mh h) gC hr (mnR (mOf x b mh h))) hr (mnR (mOf x b mh h)) = gE := eE
  try rw [eE2]
  generalize fC_step_47 cC h hr (hnR h) = cE at Fn ⊢
  obtain ⟨⟨f1, f2, f3⟩, f4, f5⟩ := Fn
  simp only [cPar, mPar, Prod.mk.injEq] at f1 f2
  obtain ⟨g1, g2, g3, g4, g5, g6, g7⟩ := f1
  obtain ⟨k1, k2, k3, k4⟩ := f2
  have hheat : E8 (c_heat cE) (m_heat gE) := fun j hj => by
    have := f4 j hj
    rw [if_neg (fun z => absurd z.1 (by omega))] at this
    exact this.symm
  have K1 : KK full (c_over cE + 1, c_setRoom cE, c_setTried cE, c_setFrom cE, c_mostRoom cE, c_mostTried cE, c_fellShort cE, c_begun cE, c_fromSun cE, c_fromPersons cE, c_goneOut cE, c_heat cE, c_warmth cE, c_given cE, c_taken cE, c_greatest cE, c_uneasy cE) (m_heat gE, m_uneasy gE, m_gave gE, m_taken gE, m_greatest gE, m_now gE + 1, m_bySun gE, m_byPersons gE, m_out gE, m_warmth gE, m_triedRoom gE, m_triedWarmth gE, m_triedFrom gE, m_wasLow gE, m_kept gE) (c_over cE + 1, c_setRoom cE, c_setTried cE, c_setFrom cE, c_mostRoom cE, c_mostTried cE, c_fellShort cE, c_begun cE, c_fromSun cE, c_fromPersons cE, c_goneOut cE, c_heat cE, c_warmth cE, c_given cE, c_taken cE, c_greatest cE, c_uneasy cE) (m_heat gE, m_uneasy gE, m_gave gE, m_taken gE, m_greatest gE, m_now gE + 1, m_bySun gE, m_byPersons gE, m_out gE, m_warmth gE, m_triedRoom gE, m_triedWarmth gE, m_triedFrom gE, m_wasLow gE, m_kept gE) := by
    refine ⟨⟨rfl, rfl, fun q => f3 q⟩, hheat, fun q => ?_⟩
    obtain ⟨a1, a2⟩ := f5 q
    exact a1.trans a2.symm
  have eo : c_over cE = m_now gE := by rw [g1, k1, s1]
  unfold scC_step_z sgvM_step_z
  have efin : ∀ (c' : CS) (g' : MV), KK full (c_over cE + 1, c_setRoom cE, c_setTried cE, c_setFrom cE, c_mostRoom cE, c_mostTried cE, c_fellShort cE, c_begun cE, c_fromSun cE, c_fromPersons cE, c_goneOut cE, c_heat cE, c_warmth cE, c_given cE, c_taken cE, c_greatest cE, c_uneasy cE) (m_heat gE, m_uneasy gE, m_gave gE, m_taken gE, m_greatest gE, m_now gE + 1, m_bySun gE, m_byPersons gE, m_out gE, m_warmth gE, m_triedRoom gE, m_triedWarmth gE, m_triedFrom gE, m_wasLow gE, m_kept gE) c' g' → SS full c' g' ∧ cPar2 c' = cPar2 c ∧ mPar2 g' = mPar2 gv := by
    intro c' g' ⟨⟨q1, q2, q3⟩, q4, q5⟩
    simp only [cPar, mPar, Prod.mk.injEq] at q1 q2
    obtain ⟨u1, u2, u3, u4, u5, u6, u7⟩ := q1
    obtain ⟨v1, v2, v3, v4⟩ := q2
    refine ⟨⟨?_, q4, fun q => ⟨q3 q, q5 q⟩⟩, ?_, ?_⟩
    · rw [u1, v1, eo]
    · simp only [cPar2, Prod.mk.injEq]
      exact ⟨u2.trans g2, u3.trans g3, u4.trans g4, u5.trans g5, u6.trans g6, u7.trans g7⟩
    · simp only [mPar2, Prod.mk.injEq]
      exact ⟨v2.trans k2, v3.trans k3, v4.trans k4⟩
  unfold rC_hourEnds
  rw [ehr, ehr2]
  by_cases hc : (m_now gE + 1) - (m_now gE + 1) / 4 * 4 = 0
  · have hc2 : (c_over cE + 1) - (c_over cE + 1) / 4 * 4 = 0 := by rw [eo]; exact hc
    rw [if_pos hc, if_neg (show ¬ (if (c_over cE + 1) - (c_over cE + 1) / 4 * 4 = 0 then (1 : Int32) else 0) = 0 from by rw [if_pos hc2]; decide)]
    exact efin _ _ (lpU (x := x) (b := b) (mh := mh) (hr := hr) hp K1 (hnR h) (Nat.le_refl _))
  · have hc2 : ¬ (c_over cE + 1) - (c_over cE + 1) / 4 * 4 = 0 := by rw [eo]; exact hc
    rw [if_neg hc, if_pos (show (if (c_over cE + 1) - (c_over cE + 1) / 4 * 4 = 0 then (1 : Int32) else 0) = 0 from by rw [if_neg hc2])]
    exact efin _ _ K1
