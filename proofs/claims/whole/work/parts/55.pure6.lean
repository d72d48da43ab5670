noncomputable def pz (z : CS) (m x : Int32) : CS := (c_over z, c_setRoom z, c_setTried z, x, c_mostRoom z, m, c_fellShort z, c_begun z, c_fromSun z, c_fromPersons z, c_goneOut z, c_heat z, c_warmth z, c_given z, c_taken z, c_greatest z, c_uneasy z)
theorem pz_7 (z c c' : CS) (h : HS) (hr m x : Int32) (i : Nat) : bC_step_7 (pz z m x) c' h hr i = pz (bC_step_7 z c h hr i) m x := rfl
theorem pz_W (z c c' : CS) (h : HS) (hr m x : Int32) (i : Nat) : bC_passWalls_2 (pz z m x) c' h hr i = pz (bC_passWalls_2 z c h hr i) m x := by
  unfold bC_passWalls_2
  by_cases q : h_wallTo h i = -1
  · rw [if_pos q, if_pos q]
    rfl
  · rw [if_neg q, if_neg q]
    rfl
theorem pz_N (z c c' : CS) (h : HS) (hr m x : Int32) (i : Nat) : bC_passWindows_2 (pz z m x) c' h hr i = pz (bC_passWindows_2 z c h hr i) m x := by
  unfold bC_passWindows_2
  by_cases q : lg_cmp (c_warmth z (h_windowRoom h i).toNatClampNeg) (h_windowLimit h i).toInt64 ≤ 0
  · rw [if_pos q, if_pos (show lg_cmp (c_warmth (pz z m x) (h_windowRoom h i).toNatClampNeg) (h_windowLimit h i).toInt64 ≤ 0 from q)]
    rfl
  · rw [if_neg q, if_neg (show ¬ lg_cmp (c_warmth (pz z m x) (h_windowRoom h i).toNatClampNeg) (h_windowLimit h i).toInt64 ≤ 0 from q)]
    rfl
theorem pz_U (z c c' : CS) (h : HS) (hr m x : Int32) (i : Nat) : bC_countUneasy_2 (pz z m x) c' h hr i = pz (bC_countUneasy_2 z c h hr i) m x := by
  unfold bC_countUneasy_2
  by_cases q1 : rC_hasPersons z h (nI i) hr = 0
  · rw [if_pos q1, if_pos (show rC_hasPersons (pz z m x) h (nI i) hr = 0 from q1)]
  · rw [if_neg q1, if_neg (show ¬ rC_hasPersons (pz z m x) h (nI i) hr = 0 from q1)]
    by_cases q2 : lg_cmp (rC_warmthOf z h (nI i)) (h_low h).toInt64 < 0
    · rw [if_pos q2, if_pos (show lg_cmp (rC_warmthOf (pz z m x) h (nI i)) (h_low h).toInt64 < 0 from q2)]
      rfl
    · rw [if_neg q2, if_neg (show ¬ lg_cmp (rC_warmthOf (pz z m x) h (nI i)) (h_low h).toInt64 < 0 from q2)]
      by_cases q3 : lg_cmp (rC_warmthOf z h (nI i)) (h_high h).toInt64 ≤ 0
      · rw [if_pos q3, if_pos (show lg_cmp (rC_warmthOf (pz z m x) h (nI i)) (h_high h).toInt64 ≤ 0 from q3)]
      · rw [if_neg q3, if_neg (show ¬ lg_cmp (rC_warmthOf (pz z m x) h (nI i)) (h_high h).toInt64 ≤ 0 from q3)]
        rfl
theorem pz_B (z : CS) (h : HS) (room hr m x : Int32) : scC_bringPersons (pz z m x) h room hr = pz (scC_bringPersons z h room hr) m x := rfl
theorem pz_C (z : CS) (h : HS) (room hr m x : Int32) : scC_coolDown (pz z m x) h room hr = pz (scC_coolDown z h room hr) m x := by
  unfold scC_coolDown
  by_cases q1 : rC_planned z h 2 room hr = -1000000
  · rw [if_pos q1, if_pos (show rC_planned (pz z m x) h 2 room hr = -1000000 from q1)]
  · rw [if_neg q1, if_neg (show ¬ rC_planned (pz z m x) h 2 room hr = -1000000 from q1)]
    by_cases q2 : 0 < lg_cmp (c_heat z room.toNatClampNeg - (h_stores h room.toNatClampNeg).toInt64 * (rC_planned z h 2 room hr).toInt64) 0
    · rw [if_pos q2, if_pos (show 0 < lg_cmp (c_heat (pz z m x) room.toNatClampNeg - (h_stores h room.toNatClampNeg).toInt64 * (rC_planned (pz z m x) h 2 room hr).toInt64) 0 from q2)]
      rfl
    · rw [if_neg q2, if_neg (show ¬ 0 < lg_cmp (c_heat (pz z m x) room.toNatClampNeg - (h_stores h room.toNatClampNeg).toInt64 * (rC_planned (pz z m x) h 2 room hr).toInt64) 0 from q2)]
theorem set_pz {z : CS} {m x : Int32} (hs : c_over z < c_setFrom z ↔ c_over z < x) (h : HS) (room hr : Int32) : rC_setOf (pz z m x) h room hr = rC_setOf z h room hr := by
  unfold rC_setOf
  show (if room = c_setRoom z then (if c_over z < x then rC_planned z h 1 room hr else c_setTried z) else rC_planned z h 1 room hr) = _
  by_cases q : c_over z < x
  · rw [if_pos q, if_pos (hs.mpr q)]
  · rw [if_neg q, if_neg (fun k => q (hs.mp k))]
theorem pz_H {z : CS} {m x : Int32} (hs : c_over z < c_setFrom z ↔ c_over z < x) (hm : (c_mostTried z).toInt ≤ m.toInt) (h : HS) (room hr : Int32) (hf : c_fellShort (scC_heatUp z h room hr) = 0 ∨ m = c_mostTried z) : scC_heatUp (pz z m x) h room hr = pz (scC_heatUp z h room hr) m x := by
  rcases hf with hf | hf
  · unfold scC_heatUp at hf ⊢
    rw [set_pz hs]
    by_cases q1 : rC_setOf z h room hr = -1000000
    · rw [if_pos q1, if_pos q1]
    · rw [if_neg q1] at hf
      rw [if_neg q1, if_neg q1]
      by_cases q2 : 0 < lg_cmp ((h_stores h room.toNatClampNeg).toInt64 * (rC_setOf z h room hr).toInt64 - c_heat z room.toNatClampNeg) 0
      · rw [if_pos q2] at hf
        rw [if_pos q2, if_pos (show 0 < lg_cmp ((h_stores h room.toNatClampNeg).toInt64 * (rC_setOf z h room hr).toInt64 - c_heat (pz z m x) room.toNatClampNeg) 0 from q2)]
        by_cases q3 : room = c_mostRoom z
        · rw [if_pos q3] at hf
          rw [if_pos q3, if_pos (show room = c_mostRoom (pz z m x) from q3)]
          have e1 : rC_heatingOf z h room = c_mostTried z := if_pos q3
          have e2 : rC_heatingOf (pz z m x) h room = m := if_pos q3
          by_cases q4 : lg_cmp ((h_stores h room.toNatClampNeg).toInt64 * (rC_setOf z h room hr).toInt64 - c_heat z room.toNatClampNeg) (rC_heatingOf z h room).toInt64 ≤ 0
          · have a1 := lgc_le.mp q4
            rw [e1, Int64.le_iff_toInt_le, Int32.toInt_toInt64] at a1
            have a2 : (h_stores h room.toNatClampNeg).toInt64 * (rC_setOf z h room hr).toInt64 - c_heat z room.toNatClampNeg ≤ m.toInt64 := by
              rw [Int64.le_iff_toInt_le, Int32.toInt_toInt64]
              omega
            have n1 : ¬ (rC_heatingOf z h room).toInt64 < (h_stores h room.toNatClampNeg).toInt64 * (rC_setOf z h room hr).toInt64 - c_heat z room.toNatClampNeg := by
              rw [e1, Int64.lt_iff_toInt_lt, Int32.toInt_toInt64]
              omega
            have n2 : ¬ (rC_heatingOf (pz z m x) h room).toInt64 < (h_stores h room.toNatClampNeg).toInt64 * (rC_setOf z h room hr).toInt64 - c_heat (pz z m x) room.toNatClampNeg := by
              rw [e2]
              show ¬ m.toInt64 < (h_stores h room.toNatClampNeg).toInt64 * (rC_setOf z h room hr).toInt64 - c_heat z room.toNatClampNeg
              rw [Int64.le_iff_toInt_le] at a2
              rw [Int64.lt_iff_toInt_lt]
              omega
            rw [if_pos q4, if_pos (show lg_cmp ((h_stores h room.toNatClampNeg).toInt64 * (rC_setOf z h room hr).toInt64 - c_heat (pz z m x) room.toNatClampNeg) (rC_heatingOf (pz z m x) h room).toInt64 ≤ 0 from by rw [e2]; exact lgc_le.mpr a2)]
            rw [if_neg n1, if_neg n2]
            rfl
          · rw [if_neg q4] at hf
            exact absurd (show (1 : Int32) = 0 from hf) (by decide)
        · rw [if_neg q3, if_neg (show ¬ room = c_mostRoom (pz z m x) from q3)]
          have e1 : rC_heatingOf (pz z m x) h room = rC_heatingOf z h room := by
            unfold rC_heatingOf
            rw [if_neg q3, if_neg (show ¬ room = c_mostRoom (pz z m x) from q3)]
          rw [e1]
          rfl
      · rw [if_neg q2, if_neg (show ¬ 0 < lg_cmp ((h_stores h room.toNatClampNeg).toInt64 * (rC_setOf z h room hr).toInt64 - c_heat (pz z m x) room.toNatClampNeg) 0 from q2)]
  · subst hf
    have e1 : rC_heatingOf (pz z (c_mostTried z) x) h room = rC_heatingOf z h room := rfl
    unfold scC_heatUp
    rw [set_pz hs, e1]
    by_cases q1 : rC_setOf z h room hr = -1000000
    · rw [if_pos q1, if_pos q1]
    · rw [if_neg q1, if_neg q1]
      by_cases q2 : 0 < lg_cmp ((h_stores h room.toNatClampNeg).toInt64 * (rC_setOf z h room hr).toInt64 - c_heat z room.toNatClampNeg) 0
      · rw [if_pos q2, if_pos (show 0 < lg_cmp ((h_stores h room.toNatClampNeg).toInt64 * (rC_setOf z h room hr).toInt64 - c_heat (pz z (c_mostTried z) x) room.toNatClampNeg) 0 from q2)]
        by_cases q3 : room = c_mostRoom z
        · rw [if_pos q3, if_pos (show room = c_mostRoom (pz z (c_mostTried z) x) from q3)]
          by_cases q4 : lg_cmp ((h_stores h room.toNatClampNeg).toInt64 * (rC_setOf z h room hr).toInt64 - c_heat z room.toNatClampNeg) (rC_heatingOf z h room).toInt64 ≤ 0
          · rw [if_pos q4, if_pos (show lg_cmp ((h_stores h room.toNatClampNeg).toInt64 * (rC_setOf z h room hr).toInt64 - c_heat (pz z (c_mostTried z) x) room.toNatClampNeg) (rC_heatingOf z h room).toInt64 ≤ 0 from q4)]
            rfl
          · rw [if_neg q4, if_neg (show ¬ lg_cmp ((h_stores h room.toNatClampNeg).toInt64 * (rC_setOf z h room hr).toInt64 - c_heat (pz z (c_mostTried z) x) room.toNatClampNeg) (rC_heatingOf z h room).toInt64 ≤ 0 from q4)]
            rfl
        · rw [if_neg q3, if_neg (show ¬ room = c_mostRoom (pz z (c_mostTried z) x) from q3)]
          rfl
      · rw [if_neg q2, if_neg (show ¬ 0 < lg_cmp ((h_stores h room.toNatClampNeg).toInt64 * (rC_setOf z h room hr).toInt64 - c_heat (pz z (c_mostTried z) x) room.toNatClampNeg) 0 from q2)]
theorem fs_C (z : CS) (h : HS) (room hr : Int32) : c_fellShort (scC_coolDown z h room hr) = c_fellShort z := by
  unfold scC_coolDown
  (repeat' split) <;> rfl
theorem fs_H {z : CS} {h : HS} {room hr : Int32} (hf : c_fellShort (scC_heatUp z h room hr) = 0) : c_fellShort z = 0 := by
  unfold scC_heatUp at hf
  split at hf
  · exact hf
  · split at hf
    · split at hf
      · split at hf
        · exact hf
        · exact absurd (show (1 : Int32) = 0 from hf) (by decide)
      · exact hf
    · exact hf
theorem cp_47 (c : CS) (h : HS) (hr : Int32) : ∀ n, cPar (fC_step_47 c h hr n) = cPar c := by
  intro n
  induction n with
  | zero => rfl
  | succ n ih =>
    show cPar (scC_coolDown (scC_heatUp (scC_bringPersons (fC_step_47 c h hr n) h (nI n) hr) h (nI n) hr) h (nI n) hr) = _
    rw [(cd_spec _ h (nI n) hr).1.1, (hu_spec _ h (nI n) hr).1.1]
    exact ih
theorem pz_47 {c : CS} {m x : Int32} (hs : c_over c < c_setFrom c ↔ c_over c < x) (hm : (c_mostTried c).toInt ≤ m.toInt) (h : HS) (hr : Int32) : ∀ n, (c_fellShort (fC_step_47 c h hr n) = 0 ∨ m = c_mostTried c) → fC_step_47 (pz c m x) h hr n = pz (fC_step_47 c h hr n) m x := by
  intro n
  induction n with
  | zero => exact fun _ => rfl
  | succ n ih =>
    intro hf
    have hcp := cp_47 c h hr n
    simp only [cPar, Prod.mk.injEq] at hcp
    obtain ⟨a1, a2, a3, a4, a5, a6, a7⟩ := hcp
    have hf2 : c_fellShort (scC_heatUp (scC_bringPersons (fC_step_47 c h hr n) h (nI n) hr) h (nI n) hr) = 0 ∨ m = c_mostTried c := by
      rcases hf with hf | hf
      · refine Or.inl ?_
        have e : c_fellShort (scC_coolDown (scC_heatUp (scC_bringPersons (fC_step_47 c h hr n) h (nI n) hr) h (nI n) hr) h (nI n) hr) = 0 := hf
        rw [fs_C] at e
        exact e
      · exact Or.inr hf
    have hf3 : c_fellShort (fC_step_47 c h hr n) = 0 ∨ m = c_mostTried c := hf2.imp (fun e => fs_H (z := scC_bringPersons (fC_step_47 c h hr n) h (nI n) hr) e) id
    show scC_coolDown (scC_heatUp (scC_bringPersons (fC_step_47 (pz c m x) h hr n) h (nI n) hr) h (nI n) hr) h (nI n) hr = pz (scC_coolDown (scC_heatUp (scC_bringPersons (fC_step_47 c h hr n) h (nI n) hr) h (nI n) hr) h (nI n) hr) m x
    rw [ih hf3, pz_B, pz_H (z := scC_bringPersons (fC_step_47 c h hr n) h (nI n) hr) ?_ ?_ h (nI n) hr ?_, pz_C]
    · show c_over (fC_step_47 c h hr n) < c_setFrom (fC_step_47 c h hr n) ↔ c_over (fC_step_47 c h hr n) < x
      rw [a1, a4]
      exact hs
    · show (c_mostTried (fC_step_47 c h hr n)).toInt ≤ m.toInt
      rw [a6]
      exact hm
    · refine hf2.imp id (fun e => ?_)
      show m = c_mostTried (fC_step_47 c h hr n)
      rw [a6]
      exact e
theorem pz_l7 (c : CS) (h : HS) (hr m x : Int32) : ∀ n, fC_step_7 (pz c m x) h hr n = pz (fC_step_7 c h hr n) m x := by
  intro n
  induction n with
  | zero => rfl
  | succ n ih =>
    show bC_step_7 (fC_step_7 (pz c m x) h hr n) (pz c m x) h hr n = pz (bC_step_7 (fC_step_7 c h hr n) c h hr n) m x
    rw [ih, pz_7 _ c]
theorem pz_lW (c : CS) (h : HS) (hr m x : Int32) : ∀ n, fC_passWalls_2 (pz c m x) h hr n = pz (fC_passWalls_2 c h hr n) m x := by
  intro n
  induction n with
  | zero => rfl
  | succ n ih =>
    show bC_passWalls_2 (fC_passWalls_2 (pz c m x) h hr n) (pz c m x) h hr n = pz (bC_passWalls_2 (fC_passWalls_2 c h hr n) c h hr n) m x
    rw [ih, pz_W _ c]
theorem pz_lN (c : CS) (h : HS) (hr m x : Int32) : ∀ n, fC_passWindows_2 (pz c m x) h hr n = pz (fC_passWindows_2 c h hr n) m x := by
  intro n
  induction n with
  | zero => rfl
  | succ n ih =>
    show bC_passWindows_2 (fC_passWindows_2 (pz c m x) h hr n) (pz c m x) h hr n = pz (bC_passWindows_2 (fC_passWindows_2 c h hr n) c h hr n) m x
    rw [ih, pz_N _ c]
theorem pz_lU (c : CS) (h : HS) (hr m x : Int32) : ∀ n, fC_countUneasy_2 (pz c m x) h hr n = pz (fC_countUneasy_2 c h hr n) m x := by
  intro n
  induction n with
  | zero => rfl
  | succ n ih =>
    show bC_countUneasy_2 (fC_countUneasy_2 (pz c m x) h hr n) (pz c m x) h hr n = pz (bC_countUneasy_2 (fC_countUneasy_2 c h hr n) c h hr n) m x
    rw [ih, pz_U _ c]
theorem fs_U (c : CS) (h : HS) (hr : Int32) : ∀ n, c_fellShort (fC_countUneasy_2 c h hr n) = c_fellShort c := by
  intro n
  induction n with
  | zero => rfl
  | succ n ih =>
    show c_fellShort (bC_countUneasy_2 (fC_countUneasy_2 c h hr n) c h hr n) = _
    unfold bC_countUneasy_2
    (repeat' split) <;> exact ih
theorem cp_7 (c : CS) (h : HS) (hr : Int32) : ∀ n, cPar (fC_step_7 c h hr n) = cPar c := by
  intro n
  induction n with
  | zero => rfl
  | succ n ih => exact ih
theorem cp_W (c : CS) (h : HS) (hr : Int32) : ∀ n, cPar (fC_passWalls_2 c h hr n) = cPar c := by
  intro n
  induction n with
  | zero => rfl
  | succ n ih =>
    show cPar (bC_passWalls_2 (fC_passWalls_2 c h hr n) c h hr n) = _
    unfold bC_passWalls_2
    split <;> exact ih
theorem cp_N (c : CS) (h : HS) (hr : Int32) : ∀ n, cPar (fC_passWindows_2 c h hr n) = cPar c := by
  intro n
  induction n with
  | zero => rfl
  | succ n ih =>
    show cPar (bC_passWindows_2 (fC_passWindows_2 c h hr n) c h hr n) = _
    unfold bC_passWindows_2
    split <;> exact ih
theorem pz_step {c : CS} {m x : Int32} (hs : c_over c < c_setFrom c ↔ c_over c < x) (hm : (c_mostTried c).toInt ≤ m.toInt) (h : HS) (hf : c_fellShort (scC_step c h) = 0 ∨ m = c_mostTried c) : scC_step (pz c m x) h = pz (scC_step c h) m x := by
  unfold scC_step scC_passWindows scC_passWalls at hf ⊢
  have e0 : rC_hourOfDay (pz c m x) h = rC_hourOfDay c h := rfl
  rw [e0]
  generalize rC_hourOfDay c h = hr at hf ⊢
  rw [pz_l7, pz_lW, pz_lN]
  have hcp : cPar (fC_passWindows_2 (fC_passWalls_2 (fC_step_7 c h hr (hnR h)) h hr (hnW h)) h hr (hnN h)) = cPar c := by rw [cp_N, cp_W, cp_7]
  generalize fC_passWindows_2 (fC_passWalls_2 (fC_step_7 c h hr (hnR h)) h hr (hnW h)) h hr (hnN h) = cC at hcp hf ⊢
  simp only [cPar, Prod.mk.injEq] at hcp
  obtain ⟨a1, a2, a3, a4, a5, a6, a7⟩ := hcp
  have hf2 : c_fellShort (fC_step_47 cC h hr (hnR h)) = 0 ∨ m = c_mostTried cC := by
    rcases hf with hf | hf
    · refine Or.inl ?_
      unfold scC_step_z scC_countUneasy at hf
      split at hf
      · exact hf
      · rw [fs_U] at hf
        exact hf
    · exact Or.inr (by rw [a6]; exact hf)
  rw [pz_47 (c := cC) (by rw [a1, a4]; exact hs) (by rw [a6]; exact hm) h hr (hnR h) hf2]
  generalize fC_step_47 cC h hr (hnR h) = cE
  unfold scC_step_z scC_countUneasy
  have e1 : rC_hourOfDay (pz c m x) h = rC_hourOfDay c h := rfl
  rw [e1]
  by_cases q : rC_hourEnds (c_over cE + 1, c_setRoom cE, c_setTried cE, c_setFrom cE, c_mostRoom cE, c_mostTried cE, c_fellShort cE, c_begun cE, c_fromSun cE, c_fromPersons cE, c_goneOut cE, c_heat cE, c_warmth cE, c_given cE, c_taken cE, c_greatest cE, c_uneasy cE) h = 0
  · rw [if_pos q, if_pos (show rC_hourEnds (c_over (pz cE m x) + 1, c_setRoom (pz cE m x), c_setTried (pz cE m x), c_setFrom (pz cE m x), c_mostRoom (pz cE m x), c_mostTried (pz cE m x), c_fellShort (pz cE m x), c_begun (pz cE m x), c_fromSun (pz cE m x), c_fromPersons (pz cE m x), c_goneOut (pz cE m x), c_heat (pz cE m x), c_warmth (pz cE m x), c_given (pz cE m x), c_taken (pz cE m x), c_greatest (pz cE m x), c_uneasy (pz cE m x)) h = 0 from q)]
    rfl
  · rw [if_neg q, if_neg (show ¬ rC_hourEnds (c_over (pz cE m x) + 1, c_setRoom (pz cE m x), c_setTried (pz cE m x), c_setFrom (pz cE m x), c_mostRoom (pz cE m x), c_mostTried (pz cE m x), c_fellShort (pz cE m x), c_begun (pz cE m x), c_fromSun (pz cE m x), c_fromPersons (pz cE m x), c_goneOut (pz cE m x), c_heat (pz cE m x), c_warmth (pz cE m x), c_given (pz cE m x), c_taken (pz cE m x), c_greatest (pz cE m x), c_uneasy (pz cE m x)) h = 0 from q)]
    exact pz_lU (c_over cE + 1, c_setRoom cE, c_setTried cE, c_setFrom cE, c_mostRoom cE, c_mostTried cE, c_fellShort cE, c_begun cE, c_fromSun cE, c_fromPersons cE, c_goneOut cE, c_heat cE, c_warmth cE, c_given cE, c_taken cE, c_greatest cE, c_uneasy cE) h (rC_hourOfDay c h) m x (hnR h)
