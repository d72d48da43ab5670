def Rl (c : CS) (h : HS) (gu : MU) (gv : MV) : Prop := (∃ x, gu = mOf x (c_begun c) (h_mosts h 0) h) ∧ pI h ∧ (∃ o, o ≤ 100000 ∧ c_over c = nI o) ∧ SS True c gv ∧ (c_setRoom c = -1 ∧ c_mostRoom c = -1 ∧ m_triedRoom gv = -1 ∧ m_wasLow gv = 0)
theorem pI_k {h : HS} (hp : pI h) : kInv h := by
  have h8 := hp.1.1.2
  refine ⟨hp.1.1, hp.1.2.1, hp.1.2.2, fun w hw => ?_, fun w hw => ?_, fun w hw => ?_, fun w hw => ?_⟩
  · obtain ⟨j, hj, e⟩ := hp.2.1.2.1 w hw
    rw [e]
    exact vp_in_nI (by omega) (by decide)
  · rcases hp.2.1.2.2 w hw with e | ⟨j, hj, e⟩
    · exact Or.inl e
    · right
      rw [e]
      exact vp_in_nI (by omega) (by decide)
  · obtain ⟨j, hj, e⟩ := hp.2.2.1.1 w hw
    rw [e]
    exact vp_in_nI (by omega) (by decide)
  · obtain ⟨j, hj, e⟩ := hp.2.2.1.2.1 w hw
    rw [e]
    exact vp_in_nI hj (by decide)
theorem pI_m {h : HS} (hp : pI h) {x : Int32} {b : Int64} {mh : Nat → Int32} : mInv (mOf x b mh h) := by
  obtain ⟨a1, a2, a3, a4, a5, a6, a7⟩ := pI_k hp
  refine ⟨a1, a2, a3, a4, a5, a6, a7, fun r hr e => ?_⟩
  have := (hp.2.1.1 r hr).1
  have e2 : h_stores h r = 0 := e
  rw [e2] at this
  exact absurd this (by decide)
theorem i0 : (0 : Int32).toInt = 0 := by decide
theorem i1 : (1 : Int32).toInt = 1 := by decide
theorem room_eq {h : HS} (hp : pI h) {x : Int32} {b : Int64} {mh : Nat → Int32} {gv : MV} {r : Int32} : rM_isRoom (mOf x b mh h) gv r = rH_hasRoom h r := by
  have h8 := hp.1.1.2
  have e : (h_rooms h - 1).toInt = (hnR h : Int) - 1 := by
    rw [hp.1.1.1, show (1 : Int32) = nI 1 from rfl, pk_sub_toInt (by omega) (by decide)]
    rfl
  have e2 : (h_rooms h).toInt = (hnR h : Int) := by
    rw [hp.1.1.1, nI_toInt (by omega)]
  unfold rM_isRoom rM_in rH_hasRoom
  by_cases q : r < 0
  · rw [if_pos q, if_pos q]
  · rw [if_neg q, if_neg q]
    by_cases q2 : h_rooms h ≤ r
    · rw [if_pos q2, if_pos (show h_rooms h - 1 < r from by rw [Int32.lt_iff_toInt_lt, e]; rw [Int32.le_iff_toInt_le, e2] at q2; omega)]
    · rw [if_neg q2, if_neg (show ¬ h_rooms h - 1 < r from by rw [Int32.lt_iff_toInt_lt, e]; rw [Int32.le_iff_toInt_le, e2] at q2; omega)]
theorem has_lt {h : HS} (hp : pI h) {r : Int32} (q : ¬ rH_hasRoom h r = 0) : ∃ j, j < hnR h ∧ r = nI j := by
  have h8 := hp.1.1.2
  have e2 : (h_rooms h).toInt = (hnR h : Int) := by
    rw [hp.1.1.1, nI_toInt (by omega)]
  unfold rH_hasRoom at q
  split at q
  · exact absurd rfl q
  · rename_i q1
    split at q
    · exact absurd rfl q
    · rename_i q2
      obtain ⟨j, hj, e⟩ := nI_of q1
      refine ⟨j, ?_, e⟩
      rw [Int32.le_iff_toInt_le, e2, e, nI_toInt hj] at q2
      omega
theorem kout0 {r : Int64} {f : Nat → Int64} : kout (.inr ()) r f 0 = r := by
  show vp_updL f 0 r 0 = r
  exact pk_uLs
theorem kc1 : kcode (.inl "java/lang/IllegalArgumentException") = 1 := by decide
theorem kc2' : kcode (.inl "java/lang/IllegalStateException") = 2 := by decide
theorem kc0 : kcode (.inr ()) = 0 := rfl
theorem n10 : ¬ (1 : Int32) = 0 := by decide
theorem n20 : ¬ (2 : Int32) = 0 := by decide
theorem p_outside {c t : CS} {h : HS} {gu : MU} {gv : MV} {f : Nat → Int64} (p0 p1 : Int32) (hR : Rl c h gu gv) : m_thrown (sguM_outside gu gv p0 p1) = kcode (oR_outside c t h p0 p1) ∧ (kcode (oR_outside c t h p0 p1) = 0 → kout (oR_outside c t h p0 p1) (rR_outside c t h p0 p1).toInt64 f 0 = (rM_outside gu gv p0 p1).toInt64) ∧ Rl c (shR_outside c t h p0 p1) (sguM_outside gu gv p0 p1) gv := by
  obtain ⟨⟨x, rfl⟩, hp, ho, hS, hT⟩ := hR
  unfold oR_outside rR_outside shR_outside sguM_outside rM_outside
  by_cases q1 : rR_isHour p0 = 0
  · have q1' : rM_in p0 0 23 = 0 := q1
    simp only [q1, q1', ↓reduceIte, kc1]
    exact ⟨by first | trivial | rfl, by first | trivial | exact fun q => absurd q n10 | exact fun q => q.elim, ⟨1, rfl⟩, hp, ho, hS, hT⟩
  · have q1' : ¬ rM_in p0 0 23 = 0 := q1
    simp only [q1, q1', ↓reduceIte]
    by_cases q2 : rR_isWarmth p1 = 0
    · have q2' : rM_isWarmth p1 = 0 := q2
      simp only [q2, q2', ↓reduceIte, kc1]
      exact ⟨by first | trivial | rfl, by first | trivial | exact fun q => absurd q n10 | exact fun q => q.elim, ⟨1, rfl⟩, hp, ho, hS, hT⟩
    · have q2' : ¬ rM_isWarmth p1 = 0 := q2
      simp only [q2, q2', ↓reduceIte, kc0]
      exact ⟨by first | trivial | rfl, by first | exact fun _ => kout0 | exact kout0, ⟨0, rfl⟩, hp, ho, hS, hT⟩
theorem p_ease {c t : CS} {h : HS} {gu : MU} {gv : MV} (p0 p1 : Int32) (hR : Rl c h gu gv) : m_thrown (sguM_ease gu gv p0 p1) = kcode (oR_ease c t h p0 p1) ∧ Rl c (shR_ease c t h p0 p1) (sguM_ease gu gv p0 p1) gv := by
  obtain ⟨⟨x, rfl⟩, hp, ho, hS, hT⟩ := hR
  unfold oR_ease shR_ease sguM_ease
  by_cases q1 : rR_isWarmth p0 = 0
  · have q1' : rM_isWarmth p0 = 0 := q1
    simp only [q1, q1', ↓reduceIte, kc1]
    exact ⟨by first | trivial | rfl, ⟨1, rfl⟩, hp, ho, hS, hT⟩
  · have q1' : ¬ rM_isWarmth p0 = 0 := q1
    simp only [q1, q1', ↓reduceIte]
    by_cases q2 : rR_isWarmth p1 = 0
    · have q2' : rM_isWarmth p1 = 0 := q2
      simp only [q2, q2', ↓reduceIte, kc1]
      exact ⟨by first | trivial | rfl, ⟨1, rfl⟩, hp, ho, hS, hT⟩
    · have q2' : ¬ rM_isWarmth p1 = 0 := q2
      simp only [q2, q2', ↓reduceIte]
      by_cases q3 : p0 ≤ p1
      · have q3' : ¬ p1 < p0 := fun z => by rw [Int32.lt_iff_toInt_lt] at z; rw [Int32.le_iff_toInt_le] at q3; omega
        simp only [q3, q3', ↓reduceIte, kc0]
        exact ⟨by first | trivial | rfl, ⟨0, rfl⟩, hp, ho, hS, hT⟩
      · have q3' : p1 < p0 := by rw [Int32.lt_iff_toInt_lt]; rw [Int32.le_iff_toInt_le] at q3; omega
        simp only [q3, q3', ↓reduceIte, kc1]
        exact ⟨by first | trivial | rfl, ⟨1, rfl⟩, hp, ho, hS, hT⟩
theorem in_nI {v : Int32} {N : Nat} {hi : Int32} (hN : hi = nI N) (hb : N < 2 ^ 31) (q : ¬ rR_isWithin v 0 hi = 0) : ∃ j, j ≤ N ∧ v = nI j := by
  unfold rR_isWithin at q
  split at q
  · exact absurd rfl q
  · rename_i q1
    split at q
    · exact absurd rfl q
    · rename_i q2
      obtain ⟨j, hj, e⟩ := nI_of q1
      refine ⟨j, ?_, e⟩
      rw [hN, e, nI_ltI hb hj] at q2
      omega
theorem sun_fun {S : Nat → Nat → Int32} {a b : Nat} {v : Int32} (hb : b < 24) : upd (fun j => S (j / 24) (j % 24)) (24 * a + b) v = fun j => va_up S a (upd (S a) b v) (j / 24) (j % 24) := by
  funext j
  unfold upd va_up
  by_cases q : j = 24 * a + b
  · rw [if_pos q, if_pos (show j / 24 = a by omega)]
    show v = if j % 24 = b then v else S a (j % 24)
    rw [if_pos (show j % 24 = b by omega)]
  · rw [if_neg q]
    by_cases q2 : j / 24 = a
    · rw [if_pos q2]
      show S (j / 24) (j % 24) = if j % 24 = b then v else S a (j % 24)
      rw [if_neg (show ¬ j % 24 = b by omega), q2]
    · rw [if_neg q2]
theorem p_sun {c t : CS} {h : HS} {gu : MU} {gv : MV} {f : Nat → Int64} (p0 p1 p2 : Int32) (hR : Rl c h gu gv) : m_thrown (sguM_sun gu gv p0 p1 p2) = kcode (oR_sun c t h p0 p1 p2) ∧ (kcode (oR_sun c t h p0 p1 p2) = 0 → kout (oR_sun c t h p0 p1 p2) (rR_sun c t h p0 p1 p2).toInt64 f 0 = (rM_sun gu gv p0 p1 p2).toInt64) ∧ Rl c (shR_sun c t h p0 p1 p2) (sguM_sun gu gv p0 p1 p2) gv := by
  obtain ⟨⟨x, rfl⟩, hp, ho, hS, hT⟩ := hR
  unfold oR_sun rR_sun shR_sun sguM_sun rM_sun
  by_cases q1 : rR_isSide p0 = 0
  · have q1' : rM_in p0 0 3 = 0 := q1
    simp only [q1, q1', ↓reduceIte, kc1]
    exact ⟨by first | trivial | rfl, by first | trivial | exact fun q => absurd q n10 | exact fun q => q.elim, ⟨1, rfl⟩, hp, ho, hS, hT⟩
  · have q1' : ¬ rM_in p0 0 3 = 0 := q1
    simp only [q1, q1', ↓reduceIte]
    by_cases q2 : rR_isHour p1 = 0
    · have q2' : rM_in p1 0 23 = 0 := q2
      simp only [q2, q2', ↓reduceIte, kc1]
      exact ⟨by first | trivial | rfl, by first | trivial | exact fun q => absurd q n10 | exact fun q => q.elim, ⟨1, rfl⟩, hp, ho, hS, hT⟩
    · have q2' : ¬ rM_in p1 0 23 = 0 := q2
      simp only [q2, q2', ↓reduceIte]
      by_cases q3 : rR_isWithin p2 0 1000 = 0
      · have q3' : rM_in p2 0 1000 = 0 := q3
        simp only [q3, q3', ↓reduceIte, kc1]
        exact ⟨by first | trivial | rfl, by first | trivial | exact fun q => absurd q n10 | exact fun q => q.elim, ⟨1, rfl⟩, hp, ho, hS, hT⟩
      · have q3' : ¬ rM_in p2 0 1000 = 0 := q3
        simp only [q3, q3', ↓reduceIte, kc0]
        obtain ⟨a, ha, ea⟩ := in_nI (N := 3) rfl (by decide) q1
        obtain ⟨b, hb, eb⟩ := in_nI (N := 23) rfl (by decide) q2
        have e1 : (24 * p0 + p1).toNatClampNeg = 24 * a + b := by
          rw [ea, eb, show (24 : Int32) = nI 24 from rfl, pk_mul, nI_add, nI_clamp (by omega)]
        have e2 : p0.toNatClampNeg = a := by rw [ea, nI_clamp (by omega)]
        have e3 : p1.toNatClampNeg = b := by rw [eb, nI_clamp (by omega)]
        rw [e1, e2, e3]
        refine ⟨by first | trivial | rfl, ?_, ⟨0, ?_⟩, hp, ho, hS, hT⟩
        · try intro _
          refine kout0.trans ?_
          show (h_suns h a b).toInt64 = (h_suns h ((24 * a + b) / 24) ((24 * a + b) % 24)).toInt64
          rw [show (24 * a + b) / 24 = a by omega, show (24 * a + b) % 24 = b by omega]
        · have := sun_fun (S := h_suns h) (a := a) (b := b) (v := p2) (by omega)
          show ((0 : Int32), _, _, _, _, _, _, _, _, _, _, _, _, _, _, _, upd (fun j => h_suns h (j / 24) (j % 24)) (24 * a + b) p2, _, _, _, _, _) = _
          rw [this]
theorem va_up_s {α : Type} {f : Nat → α} {k : Nat} {v : α} : va_up f k v k = v := if_pos rfl
theorem va_up_n {α : Type} {f : Nat → α} {k j : Nat} {v : α} (h : j ≠ k) : va_up f k v j = f j := if_neg h
