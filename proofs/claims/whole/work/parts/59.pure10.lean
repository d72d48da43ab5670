theorem nI_full {n N : Nat} {x y : Int32} (hx : x = nI n) (hn : n ≤ N) (hN : N < 2 ^ 31) (hy : y = nI N) : (x < y ↔ ¬ x = y) ∧ (y ≤ x ↔ x = y) := by
  subst hx
  subst hy
  rw [nI_ltI (by omega) hN, nI_eq (by omega) hN, nI_leI hN (by omega)]
  omega
theorem nI_suc {x : Int32} {n : Nat} (hx : x = nI n) (hn : n < 2 ^ 31 - 1) : x + 1 = nI (n + 1) ∧ (x + 1).toNatClampNeg = n + 1 := by
  have e : x + 1 = nI (n + 1) := by rw [hx, nI_1]
  exact ⟨e, by rw [e, nI_clamp (by omega)]⟩
theorem in_ge {v lo hi : Int32} (q : ¬ rR_isWithin v lo hi = 0) : lo.toInt ≤ v.toInt ∧ v.toInt ≤ hi.toInt := by
  unfold rR_isWithin at q
  split at q
  · exact absurd rfl q
  · rename_i q1
    split at q
    · exact absurd rfl q
    · rename_i q2
      rw [Int32.lt_iff_toInt_lt] at q1 q2
      omega
theorem pI_room {h : HS} (hp : pI h) {v : Int32} (h8 : hnR h < 8) (hv : 1 ≤ v.toInt ∧ v.toInt ≤ 10000) : pI (shH_addRoom h v) := by
  have es := nI_suc hp.1.1.1 (by omega)
  have eR : hnR (shH_addRoom h v) = hnR h + 1 := es.2
  obtain ⟨⟨a1, a2, a3⟩, ⟨b1, b2, b3⟩, ⟨c1, c2, c3, c4⟩, d1, d2, d3, d4⟩ := hp
  refine ⟨⟨⟨?_, by omega⟩, a2, a3⟩, ⟨?_, ?_, ?_⟩, ⟨?_, c2, c3, c4⟩, d1, d2, d3, d4⟩
  · rw [eR]
    exact es.1
  · intro r hr
    show 1 ≤ (upd (h_stores h) (hnR h) v r).toInt ∧ (upd (h_stores h) (hnR h) v r).toInt ≤ 10000
    unfold upd
    by_cases q : r = hnR h
    · rw [if_pos q]
      exact hv
    · rw [if_neg q]
      exact b1 r (by omega)
  · intro w hw
    obtain ⟨j, hj, e⟩ := b2 w hw
    exact ⟨j, by omega, e⟩
  · intro w hw
    rcases b3 w hw with e | ⟨j, hj, e⟩
    · exact Or.inl e
    · exact Or.inr ⟨j, by omega, e⟩
  · intro w hw
    obtain ⟨j, hj, e⟩ := c1 w hw
    exact ⟨j, by omega, e⟩
theorem p_room {c t : CS} {h : HS} {gu : MU} {gv : MV} {f : Nat → Int64} (p0 p1 : Int32) (hR : Rl c h gu gv) : m_thrown (sguM_room gu gv p0 p1) = kcode (oR_room c t h p0 p1) ∧ (kcode (oR_room c t h p0 p1) = 0 → kout (oR_room c t h p0 p1) (rR_room c t h p0 p1).toInt64 f 0 = (rM_room gu gv p0 p1).toInt64) ∧ Rl (scR_room c t h p0 p1) (shR_room c t h p0 p1) (sguM_room gu gv p0 p1) (sgvM_room gu gv p0 p1) := by
  obtain ⟨⟨x, rfl⟩, hp, ho, hS, hT⟩ := hR
  unfold oR_room rR_room scR_room shR_room sguM_room rM_room sgvM_room
  by_cases q1 : rR_isWithin p0 1 10000 = 0
  · have q1' : rM_in p0 1 10000 = 0 := q1
    simp only [q1, q1', ↓reduceIte, kc1]
    exact ⟨by first | trivial | rfl, by first | trivial | exact fun q => absurd q n10 | exact fun q => q.elim, ⟨1, rfl⟩, hp, ho, hS, hT⟩
  · have q1' : ¬ rM_in p0 1 10000 = 0 := q1
    simp only [q1, q1', ↓reduceIte]
    by_cases q2 : rR_isWarmth p1 = 0
    · have q2' : rM_isWarmth p1 = 0 := q2
      simp only [q2, q2', ↓reduceIte, kc1]
      exact ⟨by first | trivial | rfl, by first | trivial | exact fun q => absurd q n10 | exact fun q => q.elim, ⟨1, rfl⟩, hp, ho, hS, hT⟩
    · have q2' : ¬ rM_isWarmth p1 = 0 := q2
      simp only [q2, q2', ↓reduceIte]
      have ef := nI_full (N := 8) hp.1.1.1 hp.1.1.2 (by decide) rfl
      by_cases q3 : h_rooms h < 8
      · have q3' : ¬ h_rooms h = 8 := ef.1.mp q3
        have h8 : hnR h < 8 := by
          have q4 := q3
          rw [hp.1.1.1] at q4
          exact (nI_ltI (b := 8) (by have := hp.1.1.2; omega) (by decide)).mp q4
        simp only [q3, q3', ↓reduceIte, kc0, pk_uLs]
        refine ⟨by first | trivial | rfl, ?_, ⟨0, rfl⟩, pI_room hp h8 (by have := in_ge q1; rw [i1] at this; exact this), ho, ?_, hT⟩
        · try intro _
          refine kout0.trans ?_
          show (h_rooms h).toInt64 = (h_rooms h + 1 - 1).toInt64
          rw [Int32.add_sub_cancel]
        · exact ⟨hS.1, E8u hS.2.1 rfl, hS.2.2⟩
      · have q3' : h_rooms h = 8 := Classical.not_not.mp (fun z => q3 (ef.1.mpr z))
        have q3t : (m_rooms (mOf x (c_begun c) (h_mosts h 0) h) = 8) = True := eq_true q3'
        simp only [q3, q3t, ↓reduceIte, kc2']
        exact ⟨by first | trivial | rfl, by first | trivial | exact fun q => absurd q n20 | exact fun q => q.elim, ⟨2, rfl⟩, hp, ho, hS, hT⟩
theorem pI_win {h : HS} (hp : pI h) {r s a l : Int32} (h12 : hnN h < 12) (hr : ∃ j, j < hnR h ∧ r = nI j) (hs : ∃ j, j < 4 ∧ s = nI j) : pI (shH_addWindow h r s a l) := by
  have es := nI_suc hp.1.2.2.1 (by omega)
  have eR : hnN (shH_addWindow h r s a l) = hnN h + 1 := es.2
  obtain ⟨⟨a1, a2, a3⟩, b, ⟨c1, c2, c3, c4⟩, d⟩ := hp
  refine ⟨⟨a1, a2, ⟨?_, by omega⟩⟩, b, ⟨?_, ?_, c3, c4⟩, d⟩
  · rw [eR]
    exact es.1
  · intro w hw
    show ∃ j, j < hnR h ∧ upd (h_windowRoom h) (hnN h) r w = nI j
    unfold upd
    by_cases q : w = hnN h
    · rw [if_pos q]
      exact hr
    · rw [if_neg q]
      exact c1 w (by omega)
  · intro w hw
    show ∃ j, j < 4 ∧ upd (h_windowSide h) (hnN h) s w = nI j
    unfold upd
    by_cases q : w = hnN h
    · rw [if_pos q]
      exact hs
    · rw [if_neg q]
      exact c2 w (by omega)
theorem p_window {c t : CS} {h : HS} {gu : MU} {gv : MV} {f : Nat → Int64} (p0 p1 p2 p3 : Int32) (hR : Rl c h gu gv) : m_thrown (sguM_window gu gv p0 p1 p2 p3) = kcode (oR_window c t h p0 p1 p2 p3) ∧ (kcode (oR_window c t h p0 p1 p2 p3) = 0 → kout (oR_window c t h p0 p1 p2 p3) (rR_window c t h p0 p1 p2 p3).toInt64 f 0 = (rM_window gu gv p0 p1 p2 p3).toInt64) ∧ Rl c (shR_window c t h p0 p1 p2 p3) (sguM_window gu gv p0 p1 p2 p3) gv := by
  obtain ⟨⟨x, rfl⟩, hp, ho, hS, hT⟩ := hR
  unfold oR_window rR_window shR_window sguM_window rM_window
  rw [room_eq hp]
  by_cases q1 : rH_hasRoom h p0 = 0
  · simp only [q1, ↓reduceIte, kc1]
    exact ⟨by first | trivial | rfl, by first | trivial | exact fun q => absurd q n10 | exact fun q => q.elim, ⟨1, rfl⟩, hp, ho, hS, hT⟩
  · simp only [q1, ↓reduceIte]
    by_cases q2 : rR_isSide p1 = 0
    · have q2' : rM_in p1 0 3 = 0 := q2
      simp only [q2, q2', ↓reduceIte, kc1]
      exact ⟨by first | trivial | rfl, by first | trivial | exact fun q => absurd q n10 | exact fun q => q.elim, ⟨1, rfl⟩, hp, ho, hS, hT⟩
    · have q2' : ¬ rM_in p1 0 3 = 0 := q2
      simp only [q2, q2', ↓reduceIte]
      by_cases q3 : rR_isWithin p2 0 100 = 0
      · have q3' : rM_in p2 0 100 = 0 := q3
        simp only [q3, q3', ↓reduceIte, kc1]
        exact ⟨by first | trivial | rfl, by first | trivial | exact fun q => absurd q n10 | exact fun q => q.elim, ⟨1, rfl⟩, hp, ho, hS, hT⟩
      · have q3' : ¬ rM_in p2 0 100 = 0 := q3
        simp only [q3, q3', ↓reduceIte]
        by_cases q4 : rR_isWarmth p3 = 0
        · have q4' : rM_isWarmth p3 = 0 := q4
          simp only [q4, q4', ↓reduceIte, kc1]
          exact ⟨by first | trivial | rfl, by first | trivial | exact fun q => absurd q n10 | exact fun q => q.elim, ⟨1, rfl⟩, hp, ho, hS, hT⟩
        · have q4' : ¬ rM_isWarmth p3 = 0 := q4
          simp only [q4, q4', ↓reduceIte]
          have ef := nI_full (N := 12) hp.1.2.2.1 hp.1.2.2.2 (by decide) rfl
          by_cases q5 : h_windows h < 12
          · have q5' : ¬ h_windows h = 12 := ef.1.mp q5
            have h12 : hnN h < 12 := by
              have q6 := q5
              rw [hp.1.2.2.1] at q6
              exact (nI_ltI (b := 12) (by have := hp.1.2.2.2; omega) (by decide)).mp q6
            simp only [q5, q5', ↓reduceIte, kc0]
            refine ⟨by first | trivial | rfl, ?_, ⟨0, rfl⟩, pI_win hp h12 (has_lt hp q1) (by obtain ⟨j, hj, e⟩ := in_nI (N := 3) rfl (by decide) q2; exact ⟨j, by omega, e⟩), ho, hS, hT⟩
            try intro _
            refine kout0.trans ?_
            show (h_windows h).toInt64 = (h_windows h + 1 - 1).toInt64
            rw [Int32.add_sub_cancel]
          · have q5' : h_windows h = 12 := Classical.not_not.mp (fun z => q5 (ef.1.mpr z))
            have q5t : (m_windows (mOf x (c_begun c) (h_mosts h 0) h) = 12) = True := eq_true q5'
            simp only [q5, q5t, ↓reduceIte, kc2']
            exact ⟨by first | trivial | rfl, by first | trivial | exact fun q => absurd q n20 | exact fun q => q.elim, ⟨2, rfl⟩, hp, ho, hS, hT⟩
theorem pI_most {h : HS} (hp : pI h) {w r : Nat} {v : Int32} (hv : 0 ≤ v.toInt) : pI (h_rooms h, h_walls h, h_windows h, h_low h, h_high h, h_stores h, h_leadsAt h, va_up (h_mosts h) w (upd (h_mosts h w) r v), h_plans h, h_wallFrom h, h_wallTo h, h_wallLeads h, h_windowRoom h, h_windowSide h, h_windowArea h, h_windowLimit h, h_outsides h, h_suns h) := by
  obtain ⟨a, b, ⟨c1, c2, c3, c4⟩, d⟩ := hp
  have key : ∀ g j, (0 ≤ (h_mosts h g j).toInt) → 0 ≤ (va_up (h_mosts h) w (upd (h_mosts h w) r v) g j).toInt := by
    intro g j hg
    unfold va_up
    by_cases q : g = w
    · rw [if_pos q]
      unfold upd
      by_cases q2 : j = r
      · rw [if_pos q2]
        exact hv
      · rw [if_neg q2, ← q]
        exact hg
    · rw [if_neg q]
      exact hg
  exact ⟨a, b, ⟨c1, c2, c3, fun j => ⟨key 0 j (c4 j).1, key 1 j (c4 j).2⟩⟩, d⟩
theorem in01 {v : Int32} (q : ¬ rR_isWithin v 0 1 = 0) : v = 0 ∨ v = 1 := by
  obtain ⟨j, hj, e⟩ := in_nI (N := 1) rfl (by decide) q
  rcases (show j = 0 ∨ j = 1 by omega) with rfl | rfl
  · exact Or.inl e
  · exact Or.inr e
theorem p_most {c t : CS} {h : HS} {gu : MU} {gv : MV} {f : Nat → Int64} (p0 p1 p2 : Int32) (hR : Rl c h gu gv) : m_thrown (sguM_most gu gv p0 p1 p2) = kcode (oR_most c t h p0 p1 p2) ∧ (kcode (oR_most c t h p0 p1 p2) = 0 → kout (oR_most c t h p0 p1 p2) (rR_most c t h p0 p1 p2).toInt64 f 0 = (rM_most gu gv p0 p1 p2).toInt64) ∧ Rl c (shR_most c t h p0 p1 p2) (sguM_most gu gv p0 p1 p2) gv := by
  obtain ⟨⟨x, rfl⟩, hp, ho, hS, hT⟩ := hR
  unfold oR_most rR_most shR_most sguM_most rM_most
  rw [room_eq hp]
  by_cases q1 : rH_hasRoom h p0 = 0
  · simp only [q1, ↓reduceIte, kc1]
    exact ⟨by first | trivial | rfl, by first | trivial | exact fun q => absurd q n10 | exact fun q => q.elim, ⟨1, rfl⟩, hp, ho, hS, hT⟩
  · simp only [q1, ↓reduceIte]
    by_cases q2 : rR_isWithin p1 0 1 = 0
    · have q2' : rM_in p1 0 1 = 0 := q2
      simp only [q2, q2', ↓reduceIte, kc1]
      exact ⟨by first | trivial | rfl, by first | trivial | exact fun q => absurd q n10 | exact fun q => q.elim, ⟨1, rfl⟩, hp, ho, hS, hT⟩
    · have q2' : ¬ rM_in p1 0 1 = 0 := q2
      simp only [q2, q2', ↓reduceIte]
      by_cases q3 : rR_isWithin p2 0 1000000 = 0
      · have q3' : rM_in p2 0 1000000 = 0 := q3
        simp only [q3, q3', ↓reduceIte, kc1]
        exact ⟨by first | trivial | rfl, by first | trivial | exact fun q => absurd q n10 | exact fun q => q.elim, ⟨1, rfl⟩, hp, ho, hS, hT⟩
      · have q3' : ¬ rM_in p2 0 1000000 = 0 := q3
        simp only [q3, q3', ↓reduceIte, kc0]
        have hv : 0 ≤ p2.toInt := by have := (in_ge q3).1; rw [i0] at this; exact this
        rcases in01 q2 with e | e
        · subst e
          have n01 : ¬ (0 : Int32) = 1 := by decide
          simp only [↓reduceIte, n01, upd_self]
          refine ⟨by first | trivial | rfl, by first | exact fun _ => kout0 | exact kout0, ⟨0, ?_⟩, pI_most hp hv, ho, hS, hT⟩
          show _ = mOf 0 (c_begun c) (va_up (h_mosts h) 0 (upd (h_mosts h 0) p0.toNatClampNeg p2) 0) (h_rooms h, h_walls h, h_windows h, h_low h, h_high h, h_stores h, h_leadsAt h, va_up (h_mosts h) 0 (upd (h_mosts h 0) p0.toNatClampNeg p2), h_plans h, h_wallFrom h, h_wallTo h, h_wallLeads h, h_windowRoom h, h_windowSide h, h_windowArea h, h_windowLimit h, h_outsides h, h_suns h)
          rw [va_up_s]
          rfl
        · subst e
          have n01 : ¬ (1 : Int32) = 0 := by decide
          simp only [↓reduceIte, n01, upd_self]
          refine ⟨by first | trivial | rfl, by first | exact fun _ => kout0 | exact kout0, ⟨0, ?_⟩, pI_most hp hv, ho, hS, hT⟩
          rfl
