theorem p_told {c t : CS} {h : HS} {gu : MU} {gv : MV} {f : Nat → Int64} (p0 p1 : Int32) (hR : Rl c h gu gv) : m_thrown (sguM_told gu gv p0 p1) = kcode (oR_told c t h p0 p1) ∧ (kcode (oR_told c t h p0 p1) = 0 → kout (oR_told c t h p0 p1) (rR_told c t h p0 p1) f 0 = rM_told gu gv p0 p1) ∧ Rl c h (sguM_told gu gv p0 p1) gv := by
  obtain ⟨⟨x, rfl⟩, hp, ho, hS, hT⟩ := hR
  unfold oR_told rR_told sguM_told rM_told
  rw [room_eq hp]
  by_cases q1 : rH_hasRoom h p0 = 0
  · simp only [q1, ↓reduceIte, kc1]
    exact ⟨by first | trivial | rfl, by first | trivial | exact fun q => absurd q n10 | exact fun q => q.elim, ⟨1, rfl⟩, hp, ho, hS, hT⟩
  · simp only [q1, ↓reduceIte]
    by_cases q2 : rR_isWithin p1 0 5 = 0
    · have q2' : rM_in p1 0 5 = 0 := q2
      simp only [q2, q2', ↓reduceIte, kc1]
      exact ⟨by first | trivial | rfl, by first | trivial | exact fun q => absurd q n10 | exact fun q => q.elim, ⟨1, rfl⟩, hp, ho, hS, hT⟩
    · have q2' : ¬ rM_in p1 0 5 = 0 := q2
      simp only [q2, q2', ↓reduceIte, ite_self, kc0]
      obtain ⟨j, hj, e⟩ := has_lt hp q1
      have h8 := hp.1.1.2
      subst e
      have hk : (nI j).toNatClampNeg = j := nI_clamp (by omega)
      obtain ⟨s1, s2, s3⟩ := hS
      obtain ⟨⟨a1, a2, a3, a4, a5, a6, a7⟩, a8⟩ := s3 trivial
      refine ⟨by first | trivial | rfl, ?_, ⟨0, rfl⟩, hp, ho, ⟨s1, s2, s3⟩, hT⟩
      try intro _
      refine kout0.trans ?_
      rw [hk]
      by_cases w0 : p1 = 0
      · simp only [w0, ↓reduceIte]
        exact warm_eq (x := 0) (b := c_begun c) (mh := h_mosts h 0) hp hj (s2 j (by omega))
      · by_cases w1 : p1 = 1
        · simp only [w0, w1, ↓reduceIte, n10]
          exact s2 j (by omega)
        · by_cases w2 : p1 = 2
          · simp only [w0, w1, w2, ↓reduceIte, n20, show ¬ (2 : Int32) = 1 from by decide]
            rw [a4 j (by omega)]
          · by_cases w3 : p1 = 3
            · simp only [w3, ↓reduceIte, show ¬ (3 : Int32) = 0 from by decide, show ¬ (3 : Int32) = 1 from by decide, show ¬ (3 : Int32) = 2 from by decide]
              exact a1 j (by omega)
            · by_cases w4 : p1 = 4
              · simp only [w4, ↓reduceIte, show ¬ (4 : Int32) = 0 from by decide, show ¬ (4 : Int32) = 1 from by decide, show ¬ (4 : Int32) = 2 from by decide, show ¬ (4 : Int32) = 3 from by decide]
                exact a2 j (by omega)
              · simp only [w0, w1, w2, w3, w4, ↓reduceIte]
                exact a3 j (by omega)
theorem sum_h {c : CS} {h : HS} {gu : MU} {gv : MV} (e : E8 (c_heat c) (m_heat gv)) : ∀ n, n ≤ 8 → fC_sumOf_heat_5 c h n = fM_balance_33 gu gv 0 n := by
  intro n
  induction n with
  | zero => exact fun _ => rfl
  | succ n ih =>
    intro hn
    show fC_sumOf_heat_5 c h n + c_heat c n = bM_balance_33 (fM_balance_33 gu gv 0 n) gu gv 0 n
    unfold bM_balance_33
    rw [if_pos rfl, ih (by omega), e n (by omega)]
theorem sum_g {c : CS} {h : HS} {gu : MU} {gv : MV} (e : E8 (c_given c) (m_gave gv)) : ∀ n, n ≤ 8 → fC_sumOf_given_5 c h n = fM_balance_33 gu gv 2 n := by
  intro n
  induction n with
  | zero => exact fun _ => rfl
  | succ n ih =>
    intro hn
    show fC_sumOf_given_5 c h n + c_given c n = bM_balance_33 (fM_balance_33 gu gv 2 n) gu gv 2 n
    unfold bM_balance_33
    rw [if_neg n20, if_pos rfl, ih (by omega), e n (by omega)]
theorem sum_t {c : CS} {h : HS} {gu : MU} {gv : MV} (e : E8 (c_taken c) (m_taken gv)) : ∀ n, n ≤ 8 → fC_sumOf_taken_5 c h n = fM_balance_33 gu gv 3 n := by
  intro n
  induction n with
  | zero => exact fun _ => rfl
  | succ n ih =>
    intro hn
    show fC_sumOf_taken_5 c h n + c_taken c n = bM_balance_33 (fM_balance_33 gu gv 3 n) gu gv 3 n
    unfold bM_balance_33
    rw [if_neg (by decide), if_neg (by decide), ih (by omega), e n (by omega)]
theorem in06 {v : Int32} (q : ¬ rR_isWithin v 0 6 = 0) : v = 0 ∨ v = 1 ∨ v = 2 ∨ v = 3 ∨ v = 4 ∨ v = 5 ∨ v = 6 := by
  obtain ⟨j, hj, e⟩ := in_nI (N := 6) rfl (by decide) q
  rcases (show j = 0 ∨ j = 1 ∨ j = 2 ∨ j = 3 ∨ j = 4 ∨ j = 5 ∨ j = 6 by omega) with rfl | rfl | rfl | rfl | rfl | rfl | rfl
  · exact Or.inl e
  · exact Or.inr (Or.inl e)
  · exact Or.inr (Or.inr (Or.inl e))
  · exact Or.inr (Or.inr (Or.inr (Or.inl e)))
  · exact Or.inr (Or.inr (Or.inr (Or.inr (Or.inl e))))
  · exact Or.inr (Or.inr (Or.inr (Or.inr (Or.inr (Or.inl e)))))
  · exact Or.inr (Or.inr (Or.inr (Or.inr (Or.inr (Or.inr e)))))
theorem p_balance {c t : CS} {h : HS} {gu : MU} {gv : MV} {f : Nat → Int64} (p0 : Int32) (hR : Rl c h gu gv) : m_thrown (sguM_balance gu gv p0) = kcode (oR_balance c t h p0) ∧ (kcode (oR_balance c t h p0) = 0 → kout (oR_balance c t h p0) (rR_balance c t h p0) f 0 = rM_balance gu gv p0) ∧ Rl c h (sguM_balance gu gv p0) gv := by
  obtain ⟨⟨x, rfl⟩, hp, ho, hS, hT⟩ := hR
  unfold oR_balance rR_balance sguM_balance rM_balance
  by_cases q2 : rR_isWithin p0 0 6 = 0
  · have q2' : rM_in p0 0 6 = 0 := q2
    simp only [q2, q2', ↓reduceIte, kc1]
    exact ⟨by first | trivial | rfl, by first | trivial | exact fun q => absurd q n10 | exact fun q => q.elim, ⟨1, rfl⟩, hp, ho, hS, hT⟩
  · have q2' : ¬ rM_in p0 0 6 = 0 := q2
    simp only [q2, q2', ↓reduceIte, ite_self, kc0]
    have h8 := hp.1.1.2
    obtain ⟨s1, s2, s3⟩ := hS
    obtain ⟨⟨a1, a2, a3, a4, a5, a6, a7⟩, a8⟩ := s3 trivial
    refine ⟨by first | trivial | rfl, ?_, ⟨0, rfl⟩, hp, ho, ⟨s1, s2, s3⟩, hT⟩
    try intro _
    refine kout0.trans ?_
    rcases in06 q2 with e | e | e | e | e | e | e
    · subst e
      rw [if_pos rfl, if_pos rfl, if_neg (by decide), if_neg (by decide), if_neg (by decide), if_neg (by decide)]
      exact sum_h s2 _ h8
    · subst e
      rw [if_neg (by decide), if_pos rfl, if_neg (by decide), if_neg (by decide), if_neg (by decide), if_pos rfl]
    · subst e
      rw [if_neg (by decide), if_neg (by decide), if_pos rfl, if_neg (by decide), if_pos rfl, if_neg (by decide), if_neg (by decide), if_neg (by decide), if_neg (by decide)]
      exact sum_g a1 _ h8
    · subst e
      rw [if_neg (by decide), if_neg (by decide), if_neg (by decide), if_pos rfl, if_neg (by decide), if_neg (by decide), if_pos rfl, if_neg (by decide), if_neg (by decide), if_neg (by decide), if_neg (by decide)]
      exact sum_t a2 _ h8
    · subst e
      rw [if_neg (by decide), if_neg (by decide), if_neg (by decide), if_neg (by decide), if_pos rfl, if_neg (by decide), if_neg (by decide), if_neg (by decide), if_neg (by decide), if_pos rfl]
      exact a5
    · subst e
      rw [if_neg (by decide), if_neg (by decide), if_neg (by decide), if_neg (by decide), if_neg (by decide), if_pos rfl, if_neg (by decide), if_neg (by decide), if_neg (by decide), if_neg (by decide), if_neg (by decide), if_pos rfl]
      exact a8
    · subst e
      rw [if_neg (by decide), if_neg (by decide), if_neg (by decide), if_neg (by decide), if_neg (by decide), if_neg (by decide), if_neg (by decide), if_neg (by decide), if_neg (by decide), if_neg (by decide), if_neg (by decide), if_neg (by decide), if_pos rfl]
      exact a6
