theorem pI_plan {h : HS} (hp : pI h) {w r : Nat} {v : Int32} (hv : w = 0 → 0 ≤ v.toInt ∧ v.toInt ≤ 100) : pI (h_rooms h, h_walls h, h_windows h, h_low h, h_high h, h_stores h, h_leadsAt h, h_mosts h, va_up (h_plans h) w (upd (h_plans h w) r v), h_wallFrom h, h_wallTo h, h_wallLeads h, h_windowRoom h, h_windowSide h, h_windowArea h, h_windowLimit h, h_outsides h, h_suns h) := by
  obtain ⟨a, b, ⟨c1, c2, c3, c4⟩, d⟩ := hp
  refine ⟨a, b, ⟨c1, c2, fun j => ?_, c4⟩, d⟩
  show 0 ≤ (va_up (h_plans h) w (upd (h_plans h w) r v) 0 j).toInt ∧ (va_up (h_plans h) w (upd (h_plans h w) r v) 0 j).toInt ≤ 100
  unfold va_up
  by_cases q : 0 = w
  · rw [if_pos q]
    unfold upd
    by_cases q2 : j = r
    · rw [if_pos q2]
      exact hv q.symm
    · rw [if_neg q2, ← q]
      exact c3 j
  · rw [if_neg q]
    exact c3 j
theorem in02 {v : Int32} (q : ¬ rR_isWithin v 0 2 = 0) : v = 0 ∨ v = 1 ∨ v = 2 := by
  obtain ⟨j, hj, e⟩ := in_nI (N := 2) rfl (by decide) q
  rcases (show j = 0 ∨ j = 1 ∨ j = 2 by omega) with rfl | rfl | rfl
  · exact Or.inl e
  · exact Or.inr (Or.inl e)
  · exact Or.inr (Or.inr e)
theorem n01 : ¬ (0 : Int32) = 1 := by decide
theorem n02 : ¬ (0 : Int32) = 2 := by decide
theorem n12 : ¬ (1 : Int32) = 2 := by decide
theorem n21 : ¬ (2 : Int32) = 1 := by decide
theorem plan_C {c t : CS} {h : HS} {p0 p1 p2 p3 : Int32} (q1 : ¬ rH_hasRoom h p0 = 0) (q2 : ¬ rR_isHour p1 = 0) (q3 : ¬ rR_isWithin p2 0 2 = 0) (q4 : ¬ rR_isPlan p2 p3 = 0) : oR_plan c t h p0 p1 p2 p3 = .inr () ∧ rR_plan c t h p0 p1 p2 p3 = h_plans h p2.toNatClampNeg (24 * p0 + p1).toNatClampNeg ∧ shR_plan c t h p0 p1 p2 p3 = (h_rooms h, h_walls h, h_windows h, h_low h, h_high h, h_stores h, h_leadsAt h, h_mosts h, va_up (h_plans h) p2.toNatClampNeg (upd (h_plans h p2.toNatClampNeg) (24 * p0 + p1).toNatClampNeg p3), h_wallFrom h, h_wallTo h, h_wallLeads h, h_windowRoom h, h_windowSide h, h_windowArea h, h_windowLimit h, h_outsides h, h_suns h) := by
  unfold oR_plan rR_plan shR_plan
  rw [Int32.mul_comm p0 24]
  simp only [q1, q2, q3, q4, ↓reduceIte]
  exact ⟨by first | trivial | rfl, by first | trivial | rfl, by first | trivial | rfl⟩
theorem plan_X {c t : CS} {h : HS} {p0 p1 p2 p3 : Int32} (q : rH_hasRoom h p0 = 0 ∨ rR_isHour p1 = 0 ∨ rR_isWithin p2 0 2 = 0 ∨ rR_isPlan p2 p3 = 0) : oR_plan c t h p0 p1 p2 p3 = .inl "java/lang/IllegalArgumentException" ∧ shR_plan c t h p0 p1 p2 p3 = h := by
  unfold oR_plan shR_plan
  by_cases q1 : rH_hasRoom h p0 = 0
  · rw [if_pos q1, if_pos q1]
    exact ⟨rfl, rfl⟩
  · rw [if_neg q1, if_neg q1]
    by_cases q2 : rR_isHour p1 = 0
    · rw [if_pos q2, if_pos q2]
      exact ⟨rfl, rfl⟩
    · rw [if_neg q2, if_neg q2]
      by_cases q3 : rR_isWithin p2 0 2 = 0
      · rw [if_pos q3, if_pos q3]
        exact ⟨rfl, rfl⟩
      · rw [if_neg q3, if_neg q3]
        by_cases q4 : rR_isPlan p2 p3 = 0
        · rw [if_pos q4, if_pos q4]
          exact ⟨rfl, rfl⟩
        · rcases q with q | q | q | q
          · exact absurd q q1
          · exact absurd q q2
          · exact absurd q q3
          · exact absurd q q4
theorem p_plan {c t : CS} {h : HS} {gu : MU} {gv : MV} {f : Nat → Int64} (p0 p1 p2 p3 : Int32) (hR : Rl c h gu gv) : m_thrown (sguM_plan gu gv p0 p1 p2 p3) = kcode (oR_plan c t h p0 p1 p2 p3) ∧ (kcode (oR_plan c t h p0 p1 p2 p3) = 0 → kout (oR_plan c t h p0 p1 p2 p3) (rR_plan c t h p0 p1 p2 p3).toInt64 f 0 = (rM_plan gu gv p0 p1 p2 p3).toInt64) ∧ Rl c (shR_plan c t h p0 p1 p2 p3) (sguM_plan gu gv p0 p1 p2 p3) gv := by
  obtain ⟨⟨x, rfl⟩, hp, ho, hS, hT⟩ := hR
  have thr : ∀ g : MU, g = mOf 1 (c_begun c) (h_mosts h 0) h → (rH_hasRoom h p0 = 0 ∨ rR_isHour p1 = 0 ∨ rR_isWithin p2 0 2 = 0 ∨ rR_isPlan p2 p3 = 0) → m_thrown g = kcode (oR_plan c t h p0 p1 p2 p3) ∧ (kcode (oR_plan c t h p0 p1 p2 p3) = 0 → kout (oR_plan c t h p0 p1 p2 p3) (rR_plan c t h p0 p1 p2 p3).toInt64 f 0 = (rM_plan (mOf x (c_begun c) (h_mosts h 0) h) gv p0 p1 p2 p3).toInt64) ∧ Rl c (shR_plan c t h p0 p1 p2 p3) g gv := by
    intro g hg hq
    obtain ⟨e1, e2⟩ := plan_X (c := c) (t := t) hq
    rw [e1, e2, hg, kc1]
    exact ⟨rfl, fun q => absurd q n10, ⟨1, rfl⟩, hp, ho, hS, hT⟩
  have good : ∀ (g : MU) (w : Nat) (a : Int32), ¬ rH_hasRoom h p0 = 0 → ¬ rR_isHour p1 = 0 → ¬ rR_isWithin p2 0 2 = 0 → ¬ rR_isPlan p2 p3 = 0 → p2.toNatClampNeg = w → (w = 0 → 0 ≤ p3.toInt ∧ p3.toInt ≤ 100) → g = mOf 0 (c_begun c) (h_mosts h 0) (h_rooms h, h_walls h, h_windows h, h_low h, h_high h, h_stores h, h_leadsAt h, h_mosts h, va_up (h_plans h) w (upd (h_plans h w) (24 * p0 + p1).toNatClampNeg p3), h_wallFrom h, h_wallTo h, h_wallLeads h, h_windowRoom h, h_windowSide h, h_windowArea h, h_windowLimit h, h_outsides h, h_suns h) → a = h_plans h w (24 * p0 + p1).toNatClampNeg → m_thrown g = kcode (oR_plan c t h p0 p1 p2 p3) ∧ (kcode (oR_plan c t h p0 p1 p2 p3) = 0 → kout (oR_plan c t h p0 p1 p2 p3) (rR_plan c t h p0 p1 p2 p3).toInt64 f 0 = a.toInt64) ∧ Rl c (shR_plan c t h p0 p1 p2 p3) g gv := by
    intro g w a q1 q2 q3 q4 hw hv hg ha
    obtain ⟨e1, e2, e3⟩ := plan_C (c := c) (t := t) q1 q2 q3 q4
    rw [e1, e2, e3, hw, hg, ha, kc0]
    exact ⟨rfl, fun _ => kout0, ⟨0, rfl⟩, pI_plan hp hv, ho, hS, hT⟩
  by_cases q1 : rH_hasRoom h p0 = 0
  · have e : sguM_plan (mOf x (c_begun c) (h_mosts h 0) h) gv p0 p1 p2 p3 = mOf 1 (c_begun c) (h_mosts h 0) h := by
      unfold sguM_plan
      rw [room_eq hp, if_pos q1]
    exact thr _ e (Or.inl q1)
  · by_cases q2 : rR_isHour p1 = 0
    · have q2' : rM_in p1 0 23 = 0 := q2
      have e : sguM_plan (mOf x (c_begun c) (h_mosts h 0) h) gv p0 p1 p2 p3 = mOf 1 (c_begun c) (h_mosts h 0) h := by
        unfold sguM_plan
        rw [room_eq hp, if_neg q1, if_pos q2']
      exact thr _ e (Or.inr (Or.inl q2))
    · have q2' : ¬ rM_in p1 0 23 = 0 := q2
      by_cases w0 : p2 = 0
      · subst w0
        by_cases q4 : rR_isWithin p3 0 100 = 0
        · have q4' : rM_in p3 0 100 = 0 := q4
          have e : sguM_plan (mOf x (c_begun c) (h_mosts h 0) h) gv p0 p1 0 p3 = mOf 1 (c_begun c) (h_mosts h 0) h := by
            unfold sguM_plan
            rw [room_eq hp, if_neg q1, if_neg q2', if_pos rfl, if_pos q4', if_neg n01, if_neg n02]
          exact thr _ e (Or.inr (Or.inr (Or.inr q4)))
        · have q4' : ¬ rM_in p3 0 100 = 0 := q4
          have hb := in_ge q4
          refine good _ 0 _ q1 q2 (by decide) q4 rfl (fun _ => by rw [i0] at hb; exact hb) ?_ ?_
          · unfold sguM_plan
            rw [room_eq hp]
            simp only [q1, q2', q4', n01, n02, ↓reduceIte, upd_self]
            rfl
          · unfold rM_plan
            rw [room_eq hp]
            simp only [q1, q2', q4', n01, n02, ↓reduceIte]
      · by_cases w1 : p2 = 1
        · subst w1
          by_cases v0 : p3 = -1000000
          · refine good _ 1 _ q1 q2 (by decide) (by unfold rR_isPlan; rw [if_neg n10, if_pos v0]; decide) rfl (fun z => absurd z (by decide)) ?_ ?_
            · unfold sguM_plan
              rw [room_eq hp]
              simp only [q1, q2', v0, n10, n12, ↓reduceIte, upd_self]
              rfl
            · unfold rM_plan
              rw [room_eq hp]
              simp only [q1, q2', v0, n10, n12, ↓reduceIte]
          · by_cases q4 : rR_isWarmth p3 = 0
            · have q4' : rM_isWarmth p3 = 0 := q4
              have e : sguM_plan (mOf x (c_begun c) (h_mosts h 0) h) gv p0 p1 1 p3 = mOf 1 (c_begun c) (h_mosts h 0) h := by
                unfold sguM_plan
                rw [room_eq hp]
                simp only [q1, q2', v0, q4', n10, n12, ↓reduceIte]
              exact thr _ e (Or.inr (Or.inr (Or.inr (by unfold rR_isPlan; rw [if_neg n10, if_neg v0, if_pos q4]))))
            · have q4' : ¬ rM_isWarmth p3 = 0 := q4
              refine good _ 1 _ q1 q2 (by decide) (by unfold rR_isPlan; rw [if_neg n10, if_neg v0, if_neg q4]; decide) rfl (fun z => absurd z (by decide)) ?_ ?_
              · unfold sguM_plan
                rw [room_eq hp]
                simp only [q1, q2', v0, q4', n10, n12, ↓reduceIte, upd_self]
                rfl
              · unfold rM_plan
                rw [room_eq hp]
                simp only [q1, q2', v0, q4', n10, n12, ↓reduceIte]
        · by_cases w2 : p2 = 2
          · subst w2
            by_cases v0 : p3 = -1000000
            · refine good _ 2 _ q1 q2 (by decide) (by unfold rR_isPlan; rw [if_neg n20, if_pos v0]; decide) rfl (fun z => absurd z (by decide)) ?_ ?_
              · unfold sguM_plan
                rw [room_eq hp]
                simp only [q1, q2', v0, n20, n21, ↓reduceIte, upd_self]
                rfl
              · unfold rM_plan
                rw [room_eq hp]
                simp only [q1, q2', v0, n20, n21, ↓reduceIte]
            · by_cases q4 : rR_isWarmth p3 = 0
              · have q4' : rM_isWarmth p3 = 0 := q4
                have e : sguM_plan (mOf x (c_begun c) (h_mosts h 0) h) gv p0 p1 2 p3 = mOf 1 (c_begun c) (h_mosts h 0) h := by
                  unfold sguM_plan
                  rw [room_eq hp]
                  simp only [q1, q2', v0, q4', n20, n21, ↓reduceIte]
                exact thr _ e (Or.inr (Or.inr (Or.inr (by unfold rR_isPlan; rw [if_neg n20, if_neg v0, if_pos q4]))))
              · have q4' : ¬ rM_isWarmth p3 = 0 := q4
                refine good _ 2 _ q1 q2 (by decide) (by unfold rR_isPlan; rw [if_neg n20, if_neg v0, if_neg q4]; decide) rfl (fun z => absurd z (by decide)) ?_ ?_
                · unfold sguM_plan
                  rw [room_eq hp]
                  simp only [q1, q2', v0, q4', n20, n21, ↓reduceIte, upd_self]
                  rfl
                · unfold rM_plan
                  rw [room_eq hp]
                  simp only [q1, q2', v0, q4', n20, n21, ↓reduceIte]
          · have q3 : rR_isWithin p2 0 2 = 0 := Classical.not_not.mp (fun z => by
              rcases in02 z with e | e | e
              · exact w0 e
              · exact w1 e
              · exact w2 e)
            have e : sguM_plan (mOf x (c_begun c) (h_mosts h 0) h) gv p0 p1 p2 p3 = mOf 1 (c_begun c) (h_mosts h 0) h := by
              unfold sguM_plan
              rw [room_eq hp]
              simp only [q1, q2', w0, w1, w2, ↓reduceIte]
            exact thr _ e (Or.inr (Or.inr (Or.inl q3)))
