theorem sub_toInt {a b : Int32} (h1 : -100000000 ≤ a.toInt) (h2 : a.toInt ≤ 100000000) (h3 : -100000000 ≤ b.toInt) (h4 : b.toInt ≤ 100000000) : (a - b).toInt = a.toInt - b.toInt := by
  rw [Int32.toInt_sub]
  apply Int.bmod_eq_of_le <;> omega
theorem add_sub9 (a b : Int32) : a + (b - a) = b := by
  rw [Int32.add_comm, Int32.sub_add_cancel]
theorem walls_ix {h : HS} (hp : pI h) {v : Int32} (q : ¬ rR_isWithin v 0 (h_walls h - 1) = 0) : ∃ k, k < hnW h ∧ v = nI k := by
  have h20 := hp.1.2.1.2
  have e : (h_walls h - 1).toInt = (hnW h : Int) - 1 := by
    rw [hp.1.2.1.1, show (1 : Int32) = nI 1 from rfl, pk_sub_toInt (by omega) (by decide)]
    rfl
  unfold rR_isWithin at q
  split at q
  · exact absurd rfl q
  · rename_i q1
    split at q
    · exact absurd rfl q
    · rename_i q2
      obtain ⟨j, hj, e9⟩ := nI_of q1
      refine ⟨j, ?_, e9⟩
      rw [Int32.lt_iff_toInt_lt, e, e9, nI_toInt hj] at q2
      omega
theorem to_ok {h : HS} (hp : pI h) {k : Nat} (hk : k < hnW h) : h_wallTo h k = -1 ∨ ∃ j, j < hnR h ∧ h_wallTo h k = nI j := hp.2.1.2.2 k hk
theorem p_leads {c t : CS} {h : HS} {gu : MU} {gv : MV} {f : Nat → Int64} (p0 p1 : Int32) (hR : Rl c h gu gv) : m_thrown (sguM_leads gu gv p0 p1) = kcode (oR_leads c t h p0 p1) ∧ (kcode (oR_leads c t h p0 p1) = 0 → kout (oR_leads c t h p0 p1) (rR_leads c t h p0 p1).toInt64 f 0 = (rM_leads gu gv p0 p1).toInt64) ∧ Rl c (shR_leads c t h p0 p1) (sguM_leads gu gv p0 p1) gv := by
  obtain ⟨⟨x, rfl⟩, hp, ho, hS, hT⟩ := hR
  have h20 := hp.1.2.1.2
  unfold oR_leads rR_leads shR_leads sguM_leads rM_leads
  by_cases q1 : rR_isWithin p0 0 (h_walls h - 1) = 0
  · have q1' : rM_in p0 0 (m_walls (mOf x (c_begun c) (h_mosts h 0) h) - 1) = 0 := q1
    simp only [q1, q1', ↓reduceIte, kc1]
    exact ⟨by first | trivial | rfl, by first | trivial | exact fun q => absurd q n10 | exact fun q => q.elim, ⟨1, rfl⟩, hp, ho, hS, hT⟩
  · have q1' : ¬ rM_in p0 0 (m_walls (mOf x (c_begun c) (h_mosts h 0) h) - 1) = 0 := q1
    simp only [q1, q1', ↓reduceIte]
    by_cases q2 : rR_isWithin p1 0 1000 = 0
    · have q2' : rM_in p1 0 1000 = 0 := q2
      simp only [q2, q2', ↓reduceIte, kc1]
      exact ⟨by first | trivial | rfl, by first | trivial | exact fun q => absurd q n10 | exact fun q => q.elim, ⟨1, rfl⟩, hp, ho, hS, hT⟩
    · have q2' : ¬ rM_in p1 0 1000 = 0 := q2
      simp only [q2, q2', ↓reduceIte]
      obtain ⟨k, hk, e0⟩ := walls_ix hp q1
      have hkc : p0.toNatClampNeg = k := by rw [e0, nI_clamp (by omega)]
      rw [hkc]
      have hb := hp.2.2.2.1 k hk
      have hv := in_ge q2
      rw [i0, show (1000 : Int32).toInt = 1000 from by decide] at hv
      have em : (p1 - h_wallLeads h k).toInt = p1.toInt - (h_wallLeads h k).toInt := sub_toInt (by omega) (by omega) (by omega) (by omega)
      have hm : -1000 ≤ (p1 - h_wallLeads h k).toInt ∧ (p1 - h_wallLeads h k).toInt ≤ 1000 := by omega
      have b1 := bears_eq (x := x) (b := c_begun c) (mh := h_mosts h 0) (gv := gv) (room := h_wallFrom h k) hp (Or.inr (hp.2.1.2.1 k hk)) hm
      have b2 := bears_eq (x := x) (b := c_begun c) (mh := h_mosts h 0) (gv := gv) (room := h_wallTo h k) hp (to_ok hp hk) hm
      by_cases q3 : rH_bears h (h_wallFrom h k) (p1 - h_wallLeads h k) = 0
      · have q3' : ¬ rM_isTooMuch (mOf x (c_begun c) (h_mosts h 0) h) gv (m_wallRoom (mOf x (c_begun c) (h_mosts h 0) h) k) (p1 - m_leads (mOf x (c_begun c) (h_mosts h 0) h) k) = 0 := b1.mp q3
        simp only [q3, q3', ↓reduceIte, kc2']
        exact ⟨by first | trivial | rfl, by first | trivial | exact fun q => absurd q n20 | exact fun q => q.elim, ⟨2, rfl⟩, hp, ho, hS, hT⟩
      · have q3' : rM_isTooMuch (mOf x (c_begun c) (h_mosts h 0) h) gv (m_wallRoom (mOf x (c_begun c) (h_mosts h 0) h) k) (p1 - m_leads (mOf x (c_begun c) (h_mosts h 0) h) k) = 0 := Classical.not_not.mp (fun z => q3 (b1.mpr z))
        simp only [q3, q3', ↓reduceIte]
        by_cases q4 : rH_bears h (h_wallTo h k) (p1 - h_wallLeads h k) = 0
        · have q4' : ¬ rM_isTooMuch (mOf x (c_begun c) (h_mosts h 0) h) gv (m_wallOther (mOf x (c_begun c) (h_mosts h 0) h) k) (p1 - m_leads (mOf x (c_begun c) (h_mosts h 0) h) k) = 0 := b2.mp q4
          simp only [q4, q4', ↓reduceIte, kc2']
          exact ⟨by first | trivial | rfl, by first | trivial | exact fun q => absurd q n20 | exact fun q => q.elim, ⟨2, rfl⟩, hp, ho, hS, hT⟩
        · have q4' : rM_isTooMuch (mOf x (c_begun c) (h_mosts h 0) h) gv (m_wallOther (mOf x (c_begun c) (h_mosts h 0) h) k) (p1 - m_leads (mOf x (c_begun c) (h_mosts h 0) h) k) = 0 := Classical.not_not.mp (fun z => q4 (b2.mpr z))
          simp only [q4, q4', ↓reduceIte, kc0]
          have es := add_sub9 (h_wallLeads h k) p1
          obtain ⟨hpn, L', eL⟩ := pI_addLeads hp hk e0 (by rw [es]; exact hv) hm
          rw [es] at eL
          refine ⟨by first | trivial | rfl, by first | exact fun _ => kout0 | exact kout0, ⟨0, ?_⟩, hpn, ho, hS, hT⟩
          rw [eL]
theorem pI_newWall {h : HS} (hp : pI h) {p0 p1 : Int32} (h20 : hnW h < 20) (h0 : ∃ j, j < hnR h ∧ p0 = nI j) (h1 : p1 = -1 ∨ ∃ j, j < hnR h ∧ p1 = nI j) (hne : p0 ≠ p1) : pI (h_rooms h, h_walls h + 1, h_windows h, h_low h, h_high h, h_stores h, h_leadsAt h, h_mosts h, h_plans h, upd (h_wallFrom h) (hnW h) p0, upd (h_wallTo h) (hnW h) p1, h_wallLeads h, h_windowRoom h, h_windowSide h, h_windowArea h, h_windowLimit h, h_outsides h, h_suns h) := by
  have es := nI_suc hp.1.2.1.1 (by omega)
  obtain ⟨⟨a1, a2, a3⟩, ⟨b1, b2, b3⟩, cc, d1, d2, d3, d4⟩ := hp
  have eW : hnW (h_rooms h, h_walls h + 1, h_windows h, h_low h, h_high h, h_stores h, h_leadsAt h, h_mosts h, h_plans h, upd (h_wallFrom h) (hnW h) p0, upd (h_wallTo h) (hnW h) p1, h_wallLeads h, h_windowRoom h, h_windowSide h, h_windowArea h, h_windowLimit h, h_outsides h, h_suns h) = hnW h + 1 := es.2
  refine ⟨⟨a1, ⟨?_, by omega⟩, a3⟩, ⟨b1, ?_, ?_⟩, cc, ?_, ?_, ?_, ?_⟩
  · rw [eW]
    exact es.1
  · intro w hw
    show ∃ j, j < hnR h ∧ upd (h_wallFrom h) (hnW h) p0 w = nI j
    by_cases q : w = hnW h
    · rw [q, pk_us]
      exact h0
    · rw [pk_un q]
      exact b2 w (by omega)
  · intro w hw
    show upd (h_wallTo h) (hnW h) p1 w = -1 ∨ ∃ j, j < hnR h ∧ upd (h_wallTo h) (hnW h) p1 w = nI j
    by_cases q : w = hnW h
    · rw [q, pk_us]
      exact h1
    · rw [pk_un q]
      exact b3 w (by omega)
  · intro w hw
    by_cases q : w = hnW h
    · show 0 ≤ (h_wallLeads h w).toInt ∧ (h_wallLeads h w).toInt ≤ 1000
      rw [d3 w (by omega)]
      decide
    · exact d1 w (by omega)
  · intro w hw
    show upd (h_wallFrom h) (hnW h) p0 w ≠ upd (h_wallTo h) (hnW h) p1 w
    by_cases q : w = hnW h
    · rw [q, pk_us, pk_us]
      exact hne
    · rw [pk_un q, pk_un q]
      exact d2 w (by omega)
  · intro w hw
    exact d3 w (by omega)
  · intro r hr
    rw [eW]
    refine (d4 r hr).trans ?_
    have ec : lsum (h_rooms h, h_walls h + 1, h_windows h, h_low h, h_high h, h_stores h, h_leadsAt h, h_mosts h, h_plans h, upd (h_wallFrom h) (hnW h) p0, upd (h_wallTo h) (hnW h) p1, h_wallLeads h, h_windowRoom h, h_windowSide h, h_windowArea h, h_windowLimit h, h_outsides h, h_suns h) r (hnW h) = lsum h r (hnW h) := lsum_c (hnW h) (fun w hw => ⟨pk_un (Nat.ne_of_lt hw), pk_un (Nat.ne_of_lt hw), rfl⟩)
    rw [lsum_s, ec]
    have e0 : (h_wallLeads (h_rooms h, h_walls h + 1, h_windows h, h_low h, h_high h, h_stores h, h_leadsAt h, h_mosts h, h_plans h, upd (h_wallFrom h) (hnW h) p0, upd (h_wallTo h) (hnW h) p1, h_wallLeads h, h_windowRoom h, h_windowSide h, h_windowArea h, h_windowLimit h, h_outsides h, h_suns h) (hnW h)).toInt = 0 := by
      show (h_wallLeads h (hnW h)).toInt = 0
      rw [d3 (hnW h) (Nat.le_refl _)]
      decide
    rw [e0, ite_self, Int.add_zero]
theorem p_wall {c t : CS} {h : HS} {gu : MU} {gv : MV} {f : Nat → Int64} (p0 p1 p2 : Int32) (hR : Rl c h gu gv) : m_thrown (sguM_wall gu gv p0 p1 p2) = kcode (oR_wall c t h p0 p1 p2) ∧ (kcode (oR_wall c t h p0 p1 p2) = 0 → kout (oR_wall c t h p0 p1 p2) (rR_wall c t h p0 p1 p2).toInt64 f 0 = (rM_wall gu gv p0 p1 p2).toInt64) ∧ Rl c (shR_wall c t h p0 p1 p2) (sguM_wall gu gv p0 p1 p2) gv := by
  obtain ⟨⟨x, rfl⟩, hp, ho, hS, hT⟩ := hR
  have h20 := hp.1.2.1.2
  unfold oR_wall rR_wall shR_wall sguM_wall rM_wall
  simp only [room_eq hp]
  by_cases q1 : rH_hasRoom h p0 = 0
  · simp only [q1, ↓reduceIte, kc1]
    exact ⟨by first | trivial | rfl, by first | trivial | exact fun q => absurd q n10 | exact fun q => q.elim, ⟨1, rfl⟩, hp, ho, hS, hT⟩
  · simp only [q1, ↓reduceIte]
    by_cases q2 : p0 = p1
    · have q2t : (p1 = p0) = True := eq_true q2.symm
      have q2u : (p0 = p1) = True := eq_true q2
      simp only [q2t, q2u, ↓reduceIte, ite_self, kc1]
      exact ⟨by first | trivial | rfl, by first | trivial | exact fun q => absurd q n10 | exact fun q => q.elim, ⟨1, rfl⟩, hp, ho, hS, hT⟩
    · have q2' : ¬ p1 = p0 := fun z => q2 z.symm
      simp only [q2, q2', ↓reduceIte]
      by_cases q3 : rR_isWithin p2 0 1000 = 0
      · have q3' : rM_in p2 0 1000 = 0 := q3
        simp only [q3, q3', ↓reduceIte, ite_self, kc1]
        exact ⟨by first | trivial | rfl, by first | trivial | exact fun q => absurd q n10 | exact fun q => q.elim, ⟨1, rfl⟩, hp, ho, hS, hT⟩
      · have q3' : ¬ rM_in p2 0 1000 = 0 := q3
        simp only [q3, q3', ↓reduceIte]
        have hv := in_ge q3
        rw [i0, show (1000 : Int32).toInt = 1000 from by decide] at hv
        have ef : (h_walls h < 20 ↔ ¬ h_walls h = 20) ∧ (20 ≤ h_walls h ↔ h_walls h = 20) := nI_full (N := 20) hp.1.2.1.1 hp.1.2.1.2 (by decide) rfl
        have h0 := has_lt hp q1
        -- what is left once both rooms are known
        have rest : (p1 = -1 ∨ ∃ j, j < hnR h ∧ p1 = nI j) → ∀ (o9 : String ⊕ Unit) (r9 : Int32) (s9 : HS) (g9 : MU) (a9 : Int32), o9 = (if 20 ≤ h_walls h then .inl "java/lang/IllegalStateException" else (if rH_bears h p0 p2 = 0 then .inl "java/lang/IllegalStateException" else (if rH_bears h p1 p2 = 0 then .inl "java/lang/IllegalStateException" else .inr ()))) → r9 = (if 20 ≤ h_walls h then 0 else (if rH_bears h p0 p2 = 0 then 0 else (if rH_bears h p1 p2 = 0 then 0 else rH_addWall h p0 p1 p2))) → s9 = (if 20 ≤ h_walls h then h else (if rH_bears h p0 p2 = 0 then h else (if rH_bears h p1 p2 = 0 then h else shH_addWall h p0 p1 p2))) → g9 = (if h_walls h = 20 then mOf 2 (c_begun c) (h_mosts h 0) h else (if rM_isTooMuch (mOf x (c_begun c) (h_mosts h 0) h) gv p0 p2 = 0 then (if rM_isTooMuch (mOf x (c_begun c) (h_mosts h 0) h) gv p1 p2 = 0 then mOf 0 (c_begun c) (h_mosts h 0) (h_rooms h, h_walls h + 1, h_windows h, h_low h, h_high h, h_stores h, h_leadsAt h, h_mosts h, h_plans h, upd (h_wallFrom h) (hnW h) p0, upd (h_wallTo h) (hnW h) p1, upd (h_wallLeads h) (hnW h) p2, h_windowRoom h, h_windowSide h, h_windowArea h, h_windowLimit h, h_outsides h, h_suns h) else mOf 2 (c_begun c) (h_mosts h 0) h) else mOf 2 (c_begun c) (h_mosts h 0) h)) → a9 = (if h_walls h = 20 then 0 else (if rM_isTooMuch (mOf x (c_begun c) (h_mosts h 0) h) gv p0 p2 = 0 then (if rM_isTooMuch (mOf x (c_begun c) (h_mosts h 0) h) gv p1 p2 = 0 then h_walls h + 1 - 1 else 0) else 0)) → m_thrown g9 = kcode o9 ∧ (kcode o9 = 0 → kout o9 r9.toInt64 f 0 = a9.toInt64) ∧ Rl c s9 g9 gv := by
          intro hp1 o9 r9 s9 g9 a9 eo er es eg ea
          have b1 := bears_eq (x := x) (b := c_begun c) (mh := h_mosts h 0) (gv := gv) (more := p2) hp (Or.inr h0) (by omega)
          have b2 := bears_eq (x := x) (b := c_begun c) (mh := h_mosts h 0) (gv := gv) (more := p2) hp hp1 (by omega)
          by_cases q6 : h_walls h = 20
          · rw [if_pos (ef.2.mpr q6)] at eo er es
            rw [if_pos q6] at eg ea
            rw [eo, es, eg, kc2']
            exact ⟨rfl, fun q => absurd q n20, ⟨2, rfl⟩, hp, ho, hS, hT⟩
          · rw [if_neg (fun z => q6 (ef.2.mp z))] at eo er es
            rw [if_neg q6] at eg ea
            by_cases q7 : rH_bears h p0 p2 = 0
            · rw [if_pos q7] at eo er es
              rw [if_neg (b1.mp q7)] at eg ea
              rw [eo, es, eg, kc2']
              exact ⟨rfl, fun q => absurd q n20, ⟨2, rfl⟩, hp, ho, hS, hT⟩
            · rw [if_neg q7] at eo er es
              rw [if_pos (Classical.not_not.mp (fun z => q7 (b1.mpr z)))] at eg ea
              by_cases q8 : rH_bears h p1 p2 = 0
              · rw [if_pos q8] at eo er es
                rw [if_neg (b2.mp q8)] at eg ea
                rw [eo, es, eg, kc2']
                exact ⟨rfl, fun q => absurd q n20, ⟨2, rfl⟩, hp, ho, hS, hT⟩
              · rw [if_neg q8] at eo er es
                rw [if_pos (Classical.not_not.mp (fun z => q8 (b2.mpr z)))] at eg ea
                have hlt : hnW h < 20 := by
                  have q9 := ef.1.mpr q6
                  have q10 : h_walls h < 20 := q9
                  rw [hp.1.2.1.1] at q10
                  exact (nI_ltI (b := 20) (by omega) (by decide)).mp q10
                have hpw := pI_newWall hp hlt h0 hp1 q2
                have es2 := nI_suc hp.1.2.1.1 (by omega)
                have ez : h_wallLeads h (hnW h) = 0 := hp.2.2.2.2.2.1 (hnW h) (Nat.le_refl _)
                have ez2 : h_wallLeads h (hnW h) + p2 = p2 := by rw [ez, Int32.zero_add]
                obtain ⟨hpn, L', eL⟩ := pI_addLeads (wall := h_walls h) (more := p2) (k := hnW h) hpw (by show hnW h < (h_walls h + 1).toNatClampNeg; rw [es2.2]; omega) hp.1.2.1.1 (by show 0 ≤ (h_wallLeads h (hnW h) + p2).toInt ∧ (h_wallLeads h (hnW h) + p2).toInt ≤ 1000; rw [ez2]; exact hv) (by omega)
                have eL2 : shH_addWall h p0 p1 p2 = (h_rooms h, h_walls h + 1, h_windows h, h_low h, h_high h, h_stores h, L', h_mosts h, h_plans h, upd (h_wallFrom h) (hnW h) p0, upd (h_wallTo h) (hnW h) p1, upd (h_wallLeads h) (hnW h) p2, h_windowRoom h, h_windowSide h, h_windowArea h, h_windowLimit h, h_outsides h, h_suns h) := by
                  have e9 : shH_addWall h p0 p1 p2 = _ := eL
                  rw [e9]
                  show (_, _, _, _, _, _, _, _, _, _, _, upd (h_wallLeads h) (hnW h) (h_wallLeads h (hnW h) + p2), _, _, _, _, _, _) = _
                  rw [ez2]
                have hpn2 : pI (shH_addWall h p0 p1 p2) := hpn
                rw [eo, es, eg, ea, er, kc0]
                refine ⟨rfl, fun _ => ?_, ⟨0, ?_⟩, hpn2, ho, hS, hT⟩
                · refine kout0.trans ?_
                  show (h_walls h).toInt64 = (h_walls h + 1 - 1).toInt64
                  rw [Int32.add_sub_cancel]
                · rw [eL2]
        by_cases q4 : p1 = -1
        · have q4t : (p1 = -1) = True := eq_true q4
          simp only [q4t, ↓reduceIte]
          exact rest (Or.inl q4) _ _ _ _ _ rfl rfl rfl rfl rfl
        · simp only [q4, ↓reduceIte]
          by_cases q5 : rH_hasRoom h p1 = 0
          · simp only [q5, ↓reduceIte, kc1]
            exact ⟨by first | trivial | rfl, by first | trivial | exact fun q => absurd q n10 | exact fun q => q.elim, ⟨1, rfl⟩, hp, ho, hS, hT⟩
          · simp only [q5, ↓reduceIte]
            exact rest (Or.inr (has_lt hp q5)) _ _ _ _ _ rfl rfl rfl rfl rfl
