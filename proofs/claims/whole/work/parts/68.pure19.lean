theorem upd_back {mh g : Nat → Int32} {j : Nat} (h : ∀ i, i ≠ j → mh i = g i) : upd mh j (g j) = g := by
  funext i
  by_cases q : i = j
  · rw [q, pk_us]
  · rw [pk_un q, h i q]
theorem p_strong {c t : CS} {h : HS} {gu : MU} {gv : MV} {f : Nat → Int64} (p0 p1 : Int32) (hR : Rl c h gu gv) : m_thrown (sguM_strong gu gv p0 p1) = kcode (oR_strong c t h p0 p1) ∧ (kcode (oR_strong c t h p0 p1) = 0 → kout (oR_strong c t h p0 p1) (rR_strong c t h p0 p1).toInt64 f 0 = (rM_strong gu gv p0 p1).toInt64) ∧ Rl c h (sguM_strong gu gv p0 p1) (sgvM_strong gu gv p0 p1) := by
  obtain ⟨⟨x, rfl⟩, hp, ⟨o, ho5, ho⟩, hS, hT⟩ := hR
  have hno : m_now gv = nI o := by rw [← hS.1, ho]
  have h8 := hp.1.1.2
  by_cases q1 : rH_hasRoom h p0 = 0
  · have e1 : oR_strong c t h p0 p1 = .inl "java/lang/IllegalArgumentException" := by unfold oR_strong; rw [if_pos q1]
    have e2 : sguM_strong (mOf x (c_begun c) (h_mosts h 0) h) gv p0 p1 = mOf 1 (c_begun c) (h_mosts h 0) h := by unfold sguM_strong; rw [room_eq hp, if_pos q1]
    have e3 : sgvM_strong (mOf x (c_begun c) (h_mosts h 0) h) gv p0 p1 = gv := by unfold sgvM_strong; rw [room_eq hp, if_pos q1]
    rw [e1, e2, e3, kc1]
    exact ⟨rfl, fun q => absurd q n10, ⟨1, rfl⟩, hp, ⟨o, ho5, ho⟩, hS, hT⟩
  · by_cases q2 : rR_isWithin p1 1 192 = 0
    · have q2' : rM_in p1 1 192 = 0 := q2
      have e1 : oR_strong c t h p0 p1 = .inl "java/lang/IllegalArgumentException" := by unfold oR_strong; rw [if_neg q1, if_pos q2]
      have e2 : sguM_strong (mOf x (c_begun c) (h_mosts h 0) h) gv p0 p1 = mOf 1 (c_begun c) (h_mosts h 0) h := by unfold sguM_strong; rw [room_eq hp, if_neg q1, if_pos q2']
      have e3 : sgvM_strong (mOf x (c_begun c) (h_mosts h 0) h) gv p0 p1 = gv := by unfold sgvM_strong; rw [room_eq hp, if_neg q1, if_pos q2']
      rw [e1, e2, e3, kc1]
      exact ⟨rfl, fun q => absurd q n10, ⟨1, rfl⟩, hp, ⟨o, ho5, ho⟩, hS, hT⟩
    · have q2' : ¬ rM_in p1 1 192 = 0 := q2
      obtain ⟨j, hj, e0⟩ := has_lt hp q1
      obtain ⟨eN, hN⟩ := krangeM q2'
      generalize p1.toNatClampNeg = N at eN hN
      subst e0
      subst eN
      have ec : (m_now gv).toNatClampNeg = o := by rw [hno, nI_clamp (by omega)]
      have ej : (nI j).toNatClampNeg = j := nI_clamp (by omega)
      have R := strong_rel (b := c_begun c) (had := h_mosts h 0 j) hp hj hN ho ho5 k101 0 t (h_mosts h 0) gv (by rw [k101_eq]) ⟨hS, hT.2.2.1, hT.2.2.2⟩ (fun _ _ => rfl)
      have e1 : oR_strong c t h (nI j) (nI N) = .inr () := by unfold oR_strong; rw [if_neg q1, if_neg q2]
      have e2 : rR_strong c t h (nI j) (nI N) = (gR_strong c h (nI j) (nI N) k101 0 t).1 := by unfold rR_strong; rw [if_neg q1, if_neg q2]
      have e3 : rM_strong (mOf x (c_begun c) (h_mosts h 0) h) gv (nI j) (nI N) = (gM_strong (nI j) (nI N) (h_mosts h 0 j) o k101 0 (-1000000) (mOf 0 (c_begun c) (h_mosts h 0) h) gv).1 := by
        unfold rM_strong
        rw [room_eq hp, if_neg q1, if_neg q2', mOf_t, ec, ej]
      have e4 : sgvM_strong (mOf x (c_begun c) (h_mosts h 0) h) gv (nI j) (nI N) = (gM_strong (nI j) (nI N) (h_mosts h 0 j) o k101 0 (-1000000) (mOf 0 (c_begun c) (h_mosts h 0) h) gv).2.2 := by
        unfold sgvM_strong
        rw [room_eq hp, if_neg q1, if_neg q2', mOf_t, ec, ej]
      obtain ⟨R1, ⟨mh', eG, hm'⟩, R3⟩ := R
      have e5 : sguM_strong (mOf x (c_begun c) (h_mosts h 0) h) gv (nI j) (nI N) = mOf 0 (c_begun c) (h_mosts h 0) h := by
        unfold sguM_strong
        rw [room_eq hp, if_neg q1, if_neg q2', mOf_t, ec, ej]
        have em : m_mostHeating (mOf x (c_begun c) (h_mosts h 0) h) j = h_mosts h 0 j := rfl
        rw [em, eG, mOf_u, upd_back hm']
      rw [e1, e2, e3, e4, e5, kc0]
      refine ⟨rfl, fun _ => kout0.trans (congrArg Int32.toInt64 R1.symm), ⟨0, rfl⟩, hp, ⟨o, ho5, ho⟩, R3.1, hT.1, hT.2.1, R3.2.1, R3.2.2⟩
