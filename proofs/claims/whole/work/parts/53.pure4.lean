def kTS (c : CS) (gv : MV) : Prop := ∀ i, i < 8 → ∀ X : Int32, (if nI i = c_setRoom c then (if c_over c < c_setFrom c then X else c_setTried c) else X) = (if nI i = m_triedRoom gv then (if m_now gv < m_triedFrom gv then X else m_triedWarmth gv) else X)
def kTM (c : CS) (h : HS) (mh : Nat → Int32) : Prop := ∀ i, i < 8 → (if nI i = c_mostRoom c then c_mostTried c else h_mosts h 0 i) = mh i
theorem kTS_of {c c0 : CS} {gv gv0 : MV} (h1 : cPar c = cPar c0) (h2 : mPar gv = mPar gv0) (h : kTS c0 gv0) : kTS c gv := by
  simp only [cPar, mPar, Prod.mk.injEq] at h1 h2
  obtain ⟨a1, a2, a3, a4, a5, a6, a7⟩ := h1
  obtain ⟨b1, b2, b3, b4⟩ := h2
  intro i hi X
  rw [a1, a2, a3, a4, b1, b2, b3, b4]
  exact h i hi X
theorem kTM_of {c c0 : CS} {h : HS} {mh : Nat → Int32} (h1 : cPar c = cPar c0) (hm : kTM c0 h mh) : kTM c h mh := by
  simp only [cPar, Prod.mk.injEq] at h1
  obtain ⟨a1, a2, a3, a4, a5, a6, a7⟩ := h1
  intro i hi
  rw [a5, a6]
  exact hm i hi
noncomputable def Pq (h : HS) (hr : Int32) (j : Nat) : Int64 := 100 * (h_plans h 0 (24 * nI j + hr).toNatClampNeg).toInt64
noncomputable def Bs (h : HS) (hr : Int32) (B : Int64) (n : Nat) : Int64 := Nat.rec (motive := fun _ => Int64) B (fun j z => z + Pq h hr j) n
def FF (full : Prop) (c0 : CS) (gv0 : MV) (h : HS) (hr : Int32) (B : Int64) (i : Nat) (c : CS) (y : MV) : Prop := Lr full c0 gv0 c y ∧ (∀ j, j < 8 → m_heat y j = if i ≤ j ∧ j < hnR h then c_heat c j + Pq h hr j else c_heat c j) ∧ (full → c_fromPersons c = Bs h hr B i ∧ m_byPersons y = Bs h hr B (hnR h))
theorem set_eq {c : CS} {h : HS} {y gv9 : MV} {x : Int32} {b : Int64} {mh : Nat → Int32} {hr : Int32} {i : Nat} (hi : i < 8) (hT : kTS c y) : jM_step_62 y (mOf x b mh h) gv9 hr i = rC_setOf c h (nI i) hr := by
  unfold jM_step_62 rC_setOf rC_planned
  rw [Int32.mul_comm (nI i) 24]
  exact (hT i hi _).symm
theorem heat_eq {c : CS} {h : HS} {mh : Nat → Int32} {i : Nat} (hi : i < 8) (hT : kTM c h mh) : rC_heatingOf c h (nI i) = mh i := by
  unfold rC_heatingOf
  rw [nI_clamp (by omega)]
  exact hT i hi
theorem gives_eq {c : CS} {h : HS} {y gv9 : MV} {x : Int32} {b : Int64} {mh : Nat → Int32} {hr : Int32} {i : Nat} (hi : i < 8) (hm : 0 ≤ (mh i).toInt) (hT : kTS c y) (hT2 : kTM c h mh) (he : c_heat c i = m_heat y i) : jM_step_128 y (mOf x b mh h) gv9 hr i = gvs c h (nI i) hr := by
  have hm' : 0 ≤ ((mh i).toInt64).toInt := by rw [Int32.toInt_toInt64]; exact hm
  unfold jM_step_128 jM_step_90 gvs
  rw [set_eq hi hT, heat_eq hi hT2]
  by_cases h1 : rC_setOf c h (nI i) hr = -1000000
  · rw [if_pos h1, if_pos h1]
    exact min_eq0 hm'
  · rw [if_neg h1, if_neg h1]
    have e : Lq c h (nI i) hr = (m_store (mOf x b mh h) i).toInt64 * (rC_setOf c h (nI i) hr).toInt64 - m_heat y i := by
      unfold Lq
      rw [nI_clamp (by omega), he]
    rw [e]
    exact min_eq hm'
theorem takes_eq {c : CS} {h : HS} {y gv9 : MV} {x : Int32} {b : Int64} {mh : Nat → Int32} {hr : Int32} {i : Nat} (hi : i < 8) (hm : 0 ≤ (h_mosts h 1 i).toInt) (he : c_heat c i = m_heat y i + jM_step_128 y (mOf x b mh h) gv9 hr i) : jM_step_261 y (mOf x b mh h) gv9 hr i = tks c h (nI i) hr := by
  have hm' : 0 ≤ ((h_mosts h 1 i).toInt64).toInt := by rw [Int32.toInt_toInt64]; exact hm
  have ep : m_cool (mOf x b mh h) (24 * nI i + hr).toNatClampNeg = rC_planned c h 2 (nI i) hr := by
    unfold rC_planned
    rw [Int32.mul_comm (nI i) 24]
    rfl
  unfold jM_step_261 jM_step_223 tks
  rw [ep, pk_uLs, ← he]
  by_cases h1 : rC_planned c h 2 (nI i) hr = -1000000
  · rw [if_pos h1, if_pos h1]
    exact min_eq0 hm'
  · rw [if_neg h1, if_neg h1]
    have e : Xq c h (nI i) hr = c_heat c i - (m_store (mOf x b mh h) i).toInt64 * (rC_planned c h 2 (nI i) hr).toInt64 := by
      unfold Xq
      rw [nI_clamp (by omega)]
    rw [e, nI_clamp (by omega)]
    exact min_eq hm'
theorem kfu {full : Prop} {c0 : CS} {gv0 : MV} {h : HS} (hp : pI h) {x : Int32} {b : Int64} {mh : Nat → Int32} (hmh : ∀ i, i < 8 → 0 ≤ (mh i).toInt) (hTS : kTS c0 gv0) (hTM : kTM c0 h mh) {B : Int64} {c c9 : CS} {y gv9 : MV} {hr : Int32} {i : Nat} (hi : i < hnR h) (hF : FF full c0 gv0 h hr B i c y) : FF full c0 gv0 h hr B (i + 1) (bC_step_47 c c9 h hr i) (bM_step_17 y (mOf x b mh h) gv9 hr i) := by
  have h8 := hp.1.1.2
  have hi8 : i < 8 := by omega
  have hk : (nI i).toNatClampNeg = i := nI_clamp (by omega)
  obtain ⟨⟨hL1, hL2, hL3⟩, hH, hB⟩ := hF
  have e0 : (rC_planned c h 0 (nI i) hr * 100).toInt64 = Pq h hr i := by
    unfold rC_planned Pq
    rw [Int32.mul_comm (nI i) 24]
    have := hp.2.2.1.2.2.1 (24 * nI i + hr).toNatClampNeg
    exact pers_eq this.1 this.2
  unfold bC_step_47
  generalize e1 : scC_bringPersons c h (nI i) hr = c1
  have p1 : cPar c1 = cPar c := by rw [← e1]; rfl
  have b1 : c_heat c1 = vp_updL (c_heat c) i (c_heat c i + Pq h hr i) := by
    rw [← e1, ← e0]
    unfold scC_bringPersons
    rw [hk]
  have b2 : c_fromPersons c1 = c_fromPersons c + Pq h hr i := by rw [← e1, ← e0]; rfl
  have b3 : c_given c1 = c_given c ∧ c_taken c1 = c_taken c ∧ c_greatest c1 = c_greatest c ∧ c_uneasy c1 = c_uneasy c ∧ c_fromSun c1 = c_fromSun c ∧ c_goneOut c1 = c_goneOut c := by
    rw [← e1]
    exact ⟨rfl, rfl, rfl, rfl, rfl, rfl⟩
  have hy := hH i hi8
  rw [if_pos ⟨Nat.le_refl i, hi⟩] at hy
  have he1 : c_heat c1 i = m_heat y i := by rw [b1, pk_uLs, hy]
  have T1 : kTS c1 y := kTS_of (p1.trans hL1) hL2 hTS
  have T2 : kTM c1 h mh := kTM_of (p1.trans hL1) hTM
  have eg := gives_eq (gv9 := gv9) (x := x) (b := b) (hr := hr) hi8 (hmh i hi8) T1 T2 he1
  obtain ⟨⟨s1, s2, s3, s4, s5⟩, s6, s7, s8, s9, s10⟩ := hu_spec c1 h (nI i) hr
  generalize e2 : scC_heatUp c1 h (nI i) hr = c2 at s1 s2 s3 s4 s5 s6 s7 s8 s9 s10 ⊢
  rw [hk] at s8 s9 s10
  have he2 : c_heat c2 i = m_heat y i + jM_step_128 y (mOf x b mh h) gv9 hr i := by rw [s8, pk_uLs, he1, eg]
  have et := takes_eq (mh := mh) (gv9 := gv9) (x := x) (b := b) (hr := hr) hi8 (hp.2.2.1.2.2.2 i).2 he2
  obtain ⟨⟨r1, r2, r3, r4, r5⟩, r6, r7, r8, r9, r10⟩ := cd_spec c2 h (nI i) hr
  generalize e3 : scC_coolDown c2 h (nI i) hr = c3 at r1 r2 r3 r4 r5 r6 r7 r8 r9 r10 ⊢
  rw [hk] at r9 r10
  refine ⟨⟨r1.trans (s1.trans (p1.trans hL1)), hL2, fun q => ?_⟩, fun j hj => ?_, fun q => ?_⟩
  · obtain ⟨a1, a2, a3, a4, a5, a6, a7⟩ := hL3 q
    have g0 : 0 ≤ (c_greatest c1 i).toInt := by rw [b3.2.2.1, a3 i hi8]; exact a7 i hi8
    have e180 : jM_step_180 y (mOf x b mh h) gv9 hr i = (if lg_cmp (gvs c1 h (nI i) hr) (c_greatest c1 i) ≤ 0 then c_greatest c1 i else gvs c1 h (nI i) hr) := by
      unfold jM_step_180
      rw [eg, b3.2.2.1, a3 i hi8]
    refine ⟨?_, ?_, ?_, ?_, ?_, ?_, ?_⟩
    · rw [r7, s9, b3.1]
      exact E8u a1 (by rw [eg, a1 i hi8])
    · rw [r10, s7, b3.2.1]
      exact E8u a2 (by rw [et, a2 i hi8])
    · rw [r8, s10 g0, b3.2.2.1]
      refine E8u a3 ?_
      rw [e180, b3.2.2.1]
    · rw [r5, s5, b3.2.2.2.1]
      exact a4
    · rw [r2, s2, b3.2.2.2.2.1]
      exact a5
    · rw [r3, s3, b3.2.2.2.2.2]
      exact a6
    · intro r hr8
      show 0 ≤ (vp_updL (m_greatest y) i (jM_step_180 y (mOf x b mh h) gv9 hr i) r).toInt
      unfold vp_updL
      split
      · unfold jM_step_180
        have g1 := a7 i hi8
        split
        · exact g1
        · rename_i n1
          have n2 : ¬ jM_step_128 y (mOf x b mh h) gv9 hr i ≤ m_greatest y i := fun n3 => n1 (lgc_le.mpr n3)
          rw [Int64.le_iff_toInt_le] at n2
          omega
      · exact a7 r hr8
  · have hh := hH j hj
    show vp_updL (vp_updL (m_heat y) i (m_heat y i + jM_step_128 y (mOf x b mh h) gv9 hr i)) i (vp_updL (m_heat y) i (m_heat y i + jM_step_128 y (mOf x b mh h) gv9 hr i) i - jM_step_261 y (mOf x b mh h) gv9 hr i) j = _
    rw [r9, s8, b1]
    by_cases q : j = i
    · rw [if_neg (by omega), q, pk_uLs, pk_uLs, pk_uLs, pk_uLs, pk_uLs, et, eg, hy]
    · rw [pk_uLn q, pk_uLn q, pk_uLn q, pk_uLn q, pk_uLn q, hh]
      by_cases q2 : i ≤ j ∧ j < hnR h
      · rw [if_pos q2, if_pos ⟨by omega, q2.2⟩]
      · rw [if_neg q2, if_neg (fun q3 => q2 ⟨by omega, q3.2⟩)]
  · obtain ⟨a1, a2⟩ := hB q
    refine ⟨?_, a2⟩
    rw [r6, s6, b2, a1]
    rfl
