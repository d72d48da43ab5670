theorem updL_self {f : Nat → Int64} {k : Nat} : vp_updL f k (f k) = f := by
  funext j
  unfold vp_updL
  split
  · rename_i e
    rw [e]
  · rfl
theorem upd_self {f : Nat → Int32} {k : Nat} : upd f k (f k) = f := by
  funext j
  unfold upd
  split
  · rename_i e
    rw [e]
  · rfl
def Lq (c : CS) (h : HS) (room hour : Int32) : Int64 := (h_stores h room.toNatClampNeg).toInt64 * (rC_setOf c h room hour).toInt64 - c_heat c room.toNatClampNeg
def gvs (c : CS) (h : HS) (room hour : Int32) : Int64 := if rC_setOf c h room hour = -1000000 then 0 else (if 0 < lg_cmp (Lq c h room hour) 0 then (if (rC_heatingOf c h room).toInt64 < Lq c h room hour then (rC_heatingOf c h room).toInt64 else Lq c h room hour) else 0)
def Xq (c : CS) (h : HS) (room hour : Int32) : Int64 := c_heat c room.toNatClampNeg - (h_stores h room.toNatClampNeg).toInt64 * (rC_planned c h 2 room hour).toInt64
def tks (c : CS) (h : HS) (room hour : Int32) : Int64 := if rC_planned c h 2 room hour = -1000000 then 0 else (if 0 < lg_cmp (Xq c h room hour) 0 then (if (h_mosts h 1 room.toNatClampNeg).toInt64 < Xq c h room hour then (h_mosts h 1 room.toNatClampNeg).toInt64 else Xq c h room hour) else 0)
theorem max_eq {g x : Int64} : (if g < x then x else g) = (if lg_cmp g x ≤ 0 then x else g) := by
  by_cases h : g < x
  · rw [if_pos h, if_pos (lgc_le.mpr (by rw [Int64.le_iff_toInt_le]; rw [Int64.lt_iff_toInt_lt] at h; omega))]
  · rw [if_neg h]
    by_cases h2 : lg_cmp g x ≤ 0
    · rw [if_pos h2]
      have := lgc_le.mp h2
      rw [Int64.le_iff_toInt_le] at this
      rw [Int64.lt_iff_toInt_lt] at h
      exact Int64.toInt_inj.mp (by omega)
    · rw [if_neg h2]
theorem max_0 {x : Int64} (h : 0 ≤ x.toInt) : x = (if lg_cmp 0 x ≤ 0 then x else 0) := by
  rw [if_pos (lgc_le.mpr (by rw [Int64.le_iff_toInt_le, l0]; exact h))]
def Cs (c c' : CS) : Prop := cPar c' = cPar c ∧ c_fromSun c' = c_fromSun c ∧ c_goneOut c' = c_goneOut c ∧ c_warmth c' = c_warmth c ∧ c_uneasy c' = c_uneasy c
theorem hu_spec (c : CS) (h : HS) (room hour : Int32) : Cs c (scC_heatUp c h room hour) ∧ c_fromPersons (scC_heatUp c h room hour) = c_fromPersons c ∧ c_taken (scC_heatUp c h room hour) = c_taken c ∧ c_heat (scC_heatUp c h room hour) = vp_updL (c_heat c) room.toNatClampNeg (c_heat c room.toNatClampNeg + gvs c h room hour) ∧ c_given (scC_heatUp c h room hour) = vp_updL (c_given c) room.toNatClampNeg (c_given c room.toNatClampNeg + gvs c h room hour) ∧ (0 ≤ (c_greatest c room.toNatClampNeg).toInt → c_greatest (scC_heatUp c h room hour) = vp_updL (c_greatest c) room.toNatClampNeg (if lg_cmp (gvs c h room hour) (c_greatest c room.toNatClampNeg) ≤ 0 then c_greatest c room.toNatClampNeg else gvs c h room hour)) := by
  unfold scC_heatUp
  by_cases h1 : rC_setOf c h room hour = -1000000
  · have eg : gvs c h room hour = 0 := if_pos h1
    rw [if_pos h1, eg, Int64.add_zero, Int64.add_zero, updL_self, updL_self]
    exact ⟨⟨rfl, rfl, rfl, rfl, rfl⟩, rfl, rfl, rfl, rfl, fun q => by rw [← max_0 q, updL_self]⟩
  · rw [if_neg h1]
    by_cases h2 : 0 < lg_cmp (Lq c h room hour) 0
    · have eg : gvs c h room hour = (if (rC_heatingOf c h room).toInt64 < Lq c h room hour then (rC_heatingOf c h room).toInt64 else Lq c h room hour) := by
        unfold gvs
        rw [if_neg h1, if_pos h2]
      rw [if_pos (show 0 < lg_cmp ((h_stores h room.toNatClampNeg).toInt64 * (rC_setOf c h room hour).toInt64 - c_heat c room.toNatClampNeg) 0 from h2), eg]
      have em : ∀ x : Int64, (if (if (rC_heatingOf c h room).toInt64 < Lq c h room hour then (rC_heatingOf c h room).toInt64 else Lq c h room hour) < x then x else (if (rC_heatingOf c h room).toInt64 < Lq c h room hour then (rC_heatingOf c h room).toInt64 else Lq c h room hour)) = (if lg_cmp (if (rC_heatingOf c h room).toInt64 < Lq c h room hour then (rC_heatingOf c h room).toInt64 else Lq c h room hour) x ≤ 0 then x else (if (rC_heatingOf c h room).toInt64 < Lq c h room hour then (rC_heatingOf c h room).toInt64 else Lq c h room hour)) := fun x => max_eq
      split
      · split
        · exact ⟨⟨rfl, rfl, rfl, rfl, rfl⟩, rfl, rfl, rfl, rfl, fun q => congrArg (vp_updL (c_greatest c) room.toNatClampNeg) (em _)⟩
        · exact ⟨⟨rfl, rfl, rfl, rfl, rfl⟩, rfl, rfl, rfl, rfl, fun q => congrArg (vp_updL (c_greatest c) room.toNatClampNeg) (em _)⟩
      · exact ⟨⟨rfl, rfl, rfl, rfl, rfl⟩, rfl, rfl, rfl, rfl, fun q => congrArg (vp_updL (c_greatest c) room.toNatClampNeg) (em _)⟩
    · have eg : gvs c h room hour = 0 := by
        unfold gvs
        rw [if_neg h1, if_neg h2]
      rw [if_neg (show ¬ 0 < lg_cmp ((h_stores h room.toNatClampNeg).toInt64 * (rC_setOf c h room hour).toInt64 - c_heat c room.toNatClampNeg) 0 from h2), eg, Int64.add_zero, Int64.add_zero, updL_self, updL_self]
      exact ⟨⟨rfl, rfl, rfl, rfl, rfl⟩, rfl, rfl, rfl, rfl, fun q => by rw [← max_0 q, updL_self]⟩
theorem cd_spec (c : CS) (h : HS) (room hour : Int32) : Cs c (scC_coolDown c h room hour) ∧ c_fromPersons (scC_coolDown c h room hour) = c_fromPersons c ∧ c_given (scC_coolDown c h room hour) = c_given c ∧ c_greatest (scC_coolDown c h room hour) = c_greatest c ∧ c_heat (scC_coolDown c h room hour) = vp_updL (c_heat c) room.toNatClampNeg (c_heat c room.toNatClampNeg - tks c h room hour) ∧ c_taken (scC_coolDown c h room hour) = vp_updL (c_taken c) room.toNatClampNeg (c_taken c room.toNatClampNeg + tks c h room hour) := by
  unfold scC_coolDown
  by_cases h1 : rC_planned c h 2 room hour = -1000000
  · have eg : tks c h room hour = 0 := if_pos h1
    rw [if_pos h1, eg, Int64.add_zero, Int64.sub_zero, updL_self, updL_self]
    exact ⟨⟨rfl, rfl, rfl, rfl, rfl⟩, rfl, rfl, rfl, rfl, rfl⟩
  · rw [if_neg h1]
    by_cases h2 : 0 < lg_cmp (Xq c h room hour) 0
    · have eg : tks c h room hour = (if (h_mosts h 1 room.toNatClampNeg).toInt64 < Xq c h room hour then (h_mosts h 1 room.toNatClampNeg).toInt64 else Xq c h room hour) := by
        unfold tks
        rw [if_neg h1, if_pos h2]
      rw [if_pos (show 0 < lg_cmp (c_heat c room.toNatClampNeg - (h_stores h room.toNatClampNeg).toInt64 * (rC_planned c h 2 room hour).toInt64) 0 from h2), eg]
      exact ⟨⟨rfl, rfl, rfl, rfl, rfl⟩, rfl, rfl, rfl, rfl, rfl⟩
    · have eg : tks c h room hour = 0 := by
        unfold tks
        rw [if_neg h1, if_neg h2]
      rw [if_neg (show ¬ 0 < lg_cmp (c_heat c room.toNatClampNeg - (h_stores h room.toNatClampNeg).toInt64 * (rC_planned c h 2 room hour).toInt64) 0 from h2), eg, Int64.add_zero, Int64.sub_zero, updL_self, updL_self]
      exact ⟨⟨rfl, rfl, rfl, rfl, rfl⟩, rfl, rfl, rfl, rfl, rfl⟩
theorem min_eq {l m : Int64} (hm : 0 ≤ m.toInt) : (if 0 ≤ lg_cmp l 0 then (if lg_cmp l m ≤ 0 then l else m) else 0) = (if 0 < lg_cmp l 0 then (if m < l then m else l) else 0) := by
  by_cases h : 0 < lg_cmp l 0
  · have h2 := lgc_gt.mp h
    rw [Int64.lt_iff_toInt_lt, l0] at h2
    rw [if_pos h, if_pos (lgc_ge.mpr (by rw [Int64.le_iff_toInt_le, l0]; omega))]
    by_cases h3 : m < l
    · rw [if_pos h3, if_neg (fun q => by have := lgc_le.mp q; rw [Int64.le_iff_toInt_le] at this; rw [Int64.lt_iff_toInt_lt] at h3; omega)]
    · rw [if_neg h3, if_pos (lgc_le.mpr (by rw [Int64.le_iff_toInt_le]; rw [Int64.lt_iff_toInt_lt] at h3; omega))]
  · rw [if_neg h]
    have h2 : ¬ (0 : Int64) < l := fun q => h (lgc_gt.mpr q)
    rw [Int64.lt_iff_toInt_lt, l0] at h2
    by_cases h3 : 0 ≤ lg_cmp l 0
    · have h4 := lgc_ge.mp h3
      rw [Int64.le_iff_toInt_le, l0] at h4
      have e : l = 0 := Int64.toInt_inj.mp (by rw [l0]; omega)
      rw [if_pos h3, e, if_pos (lgc_le.mpr (by rw [Int64.le_iff_toInt_le, l0]; exact hm))]
    · rw [if_neg h3]
theorem min_eq0 {m : Int64} (hm : 0 ≤ m.toInt) : (if 0 ≤ lg_cmp 0 0 then (if lg_cmp 0 m ≤ 0 then 0 else m) else 0) = (0 : Int64) := by
  rw [min_eq hm, if_neg (fun q => absurd (lgc_gt.mp q) (by decide))]
