abbrev mOf (x : Int32) (b : Int64) (mh : Nat → Int32) (h : HS) : MU := (x, h_rooms h, h_stores h, mh, h_mosts h 1, b, h_walls h, h_wallFrom h, h_wallTo h, h_wallLeads h, h_windows h, h_windowRoom h, h_windowSide h, h_windowArea h, h_windowLimit h, h_outsides h, (fun j => h_suns h (j / 24) (j % 24)), h_plans h 0, h_plans h 1, h_plans h 2, h_low h, h_high h)
noncomputable def lsum (h : HS) (r : Nat) (n : Nat) : Int := Nat.rec (motive := fun _ => Int) 0 (fun w z => z + (if h_wallFrom h w = nI r ∨ h_wallTo h w = nI r then (h_wallLeads h w).toInt else 0)) n
def pI (h : HS) : Prop := ((h_rooms h = nI (hnR h) ∧ hnR h ≤ 8) ∧ (h_walls h = nI (hnW h) ∧ hnW h ≤ 20) ∧ (h_windows h = nI (hnN h) ∧ hnN h ≤ 12)) ∧
  ((∀ r, r < hnR h → 1 ≤ (h_stores h r).toInt ∧ (h_stores h r).toInt ≤ 10000) ∧ (∀ w, w < hnW h → ∃ j, j < hnR h ∧ h_wallFrom h w = nI j) ∧ (∀ w, w < hnW h → h_wallTo h w = -1 ∨ ∃ j, j < hnR h ∧ h_wallTo h w = nI j)) ∧
  ((∀ w, w < hnN h → ∃ j, j < hnR h ∧ h_windowRoom h w = nI j) ∧ (∀ w, w < hnN h → ∃ j, j < 4 ∧ h_windowSide h w = nI j) ∧ (∀ j, 0 ≤ (h_plans h 0 j).toInt ∧ (h_plans h 0 j).toInt ≤ 100) ∧ (∀ r, 0 ≤ (h_mosts h 0 r).toInt ∧ 0 ≤ (h_mosts h 1 r).toInt)) ∧
  ((∀ w, w < hnW h → 0 ≤ (h_wallLeads h w).toInt ∧ (h_wallLeads h w).toInt ≤ 1000) ∧ (∀ w, w < hnW h → h_wallFrom h w ≠ h_wallTo h w) ∧ (∀ w, hnW h ≤ w → h_wallLeads h w = 0) ∧ (∀ r, r < 8 → (h_leadsAt h r).toInt = lsum h r (hnW h)))
def E8 (f g : Nat → Int64) : Prop := ∀ r, r < 8 → f r = g r
def E8i (f g : Nat → Int32) : Prop := ∀ r, r < 8 → f r = g r
theorem E8u {f g : Nat → Int64} {k : Nat} {v w : Int64} (h : E8 f g) (e : v = w) : E8 (vp_updL f k v) (vp_updL g k w) := by
  intro r hr
  unfold vp_updL
  split
  · exact e
  · exact h r hr
theorem E8iu {f g : Nat → Int32} {k : Nat} {v w : Int32} (h : E8i f g) (e : v = w) : E8i (upd f k v) (upd g k w) := by
  intro r hr
  unfold upd
  split
  · exact e
  · exact h r hr
abbrev cPar (c : CS) : Int32 × Int32 × Int32 × Int32 × Int32 × Int32 × Int64 := (c_over c, c_setRoom c, c_setTried c, c_setFrom c, c_mostRoom c, c_mostTried c, c_begun c)
abbrev mPar (gv : MV) : Int32 × Int32 × Int32 × Int32 := (m_now gv, m_triedRoom gv, m_triedWarmth gv, m_triedFrom gv)
def Qg (c : CS) (gv : MV) : Prop := E8 (c_given c) (m_gave gv) ∧ E8 (c_taken c) (m_taken gv) ∧ E8 (c_greatest c) (m_greatest gv) ∧ E8i (c_uneasy c) (m_uneasy gv) ∧ c_fromSun c = m_bySun gv ∧ c_goneOut c = m_out gv ∧ ∀ r, r < 8 → 0 ≤ (m_greatest gv r).toInt
def Lr (full : Prop) (c0 : CS) (gv0 : MV) (c : CS) (gv : MV) : Prop := cPar c = cPar c0 ∧ mPar gv = mPar gv0 ∧ (full → Qg c gv)
def KK (full : Prop) (c0 : CS) (gv0 : MV) (c : CS) (gv : MV) : Prop := Lr full c0 gv0 c gv ∧ E8 (c_heat c) (m_heat gv) ∧ (full → c_fromPersons c = m_byPersons gv)
def Wn (n : Nat) (c : CS) (gv : MV) : Prop := ∀ r, r < n → c_warmth c r = m_warmth gv r
theorem warm_eq {h : HS} (hp : pI h) {x : Int32} {b : Int64} {mh : Nat → Int32} {c : CS} {gv : MV} {i : Nat} (hi : i < hnR h) (e : c_heat c i = m_heat gv i) : rC_warmthOf c h (nI i) = rM_warmthOf (mOf x b mh h) gv (nI i) := by
  have h8 := hp.1.1.2
  have hs := (hp.2.1.1 i hi).1
  unfold rC_warmthOf rM_warmthOf
  rw [nI_clamp (by omega)]
  rw [if_pos (lgc_ge.mpr (by rw [Int64.le_iff_toInt_le, l1, Int32.toInt_toInt64]; exact hs))]
  rw [floor_eq hs, e]
theorem k7 {full : Prop} {c0 : CS} {gv0 : MV} {h : HS} (hp : pI h) {x : Int32} {b : Int64} {mh : Nat → Int32} {c c9 : CS} {gv gv9 : MV} {hr : Int32} {i : Nat} (hi : i < hnR h) (hK : KK full c0 gv0 c gv) (hW : Wn i c gv) : KK full c0 gv0 (bC_step_7 c c9 h hr i) (bM_flows_2 gv (mOf x b mh h) gv9 hr i) ∧ Wn (i + 1) (bC_step_7 c c9 h hr i) (bM_flows_2 gv (mOf x b mh h) gv9 hr i) := by
  have h8 := hp.1.1.2
  refine ⟨hK, fun r hr2 => ?_⟩
  have e : rC_warmthOf c h (nI i) = rM_warmthOf (mOf x b mh h) gv (nI i) := warm_eq hp hi (hK.2.1 i (by omega))
  show vp_updL (c_warmth c) i (rC_warmthOf c h (nI i)) r = vp_updL (m_warmth gv) i (rM_warmthOf (mOf x b mh h) gv (nI i)) r
  unfold vp_updL
  by_cases q : r = i
  · rw [if_pos q, if_pos q, e]
  · rw [if_neg q, if_neg q]
    exact hW r (by omega)
theorem nI_ne_m1 {j : Nat} (h : j < 2 ^ 31) : ¬ nI j = -1 := by
  intro e
  have := congrArg Int32.toInt e
  rw [nI_toInt h] at this
  have h2 : (-1 : Int32).toInt = -1 := by decide
  omega
theorem kwl {full : Prop} {c0 : CS} {gv0 : MV} {h : HS} (hp : pI h) {x : Int32} {b : Int64} {mh : Nat → Int32} {c c9 : CS} {gv gv9 : MV} {hr : Int32} {i : Nat} (hi : i < hnW h) (hK : KK full c0 gv0 c gv) (hW : Wn (hnR h) c gv) : KK full c0 gv0 (bC_passWalls_2 c c9 h hr i) (bM_flows_29 gv (mOf x b mh h) gv9 hr i) ∧ Wn (hnR h) (bC_passWalls_2 c c9 h hr i) (bM_flows_29 gv (mOf x b mh h) gv9 hr i) := by
  have h8 := hp.1.1.2
  obtain ⟨j, hj, ej⟩ := hp.2.1.2.1 i hi
  have ew : c_warmth c (h_wallFrom h i).toNatClampNeg = m_warmth gv (h_wallFrom h i).toNatClampNeg := by
    rw [ej, nI_clamp (by omega)]
    exact hW j hj
  have eh : c_heat c (h_wallFrom h i).toNatClampNeg = m_heat gv (h_wallFrom h i).toNatClampNeg := by
    rw [ej, nI_clamp (by omega)]
    exact hK.2.1 j (by omega)
  unfold bC_passWalls_2 bM_flows_29
  rcases hp.2.1.2.2 i hi with et | ⟨k, hk, et⟩
  · rw [if_pos et, if_neg (show ¬ 0 ≤ m_wallOther (mOf x b mh h) i from by
      show ¬ 0 ≤ h_wallTo h i
      rw [et]
      decide)]
    refine ⟨⟨⟨hK.1.1, hK.1.2.1, fun q => ?_⟩, ?_, hK.2.2⟩, hW⟩
    · obtain ⟨a1, a2, a3, a4, a5, a6, a7⟩ := hK.1.2.2 q
      refine ⟨a1, a2, a3, a4, a5, ?_, a7⟩
      show c_goneOut c + _ = m_out gv + _
      rw [a6, ew]
    · exact E8u hK.2.1 (by rw [eh, ew])
  · have n1 : ¬ h_wallTo h i = -1 := by
      rw [et]
      exact nI_ne_m1 (by omega)
    rw [if_neg n1, if_pos (show 0 ≤ m_wallOther (mOf x b mh h) i from by
      show 0 ≤ h_wallTo h i
      rw [et]
      exact nI_pos' (by omega))]
    have ew2 : c_warmth c (h_wallTo h i).toNatClampNeg = m_warmth gv (h_wallTo h i).toNatClampNeg := by
      rw [et, nI_clamp (by omega)]
      exact hW k hk
    refine ⟨⟨hK.1, ?_, hK.2.2⟩, hW⟩
    have e1 := E8u (k := (h_wallFrom h i).toNatClampNeg) hK.2.1 (show c_heat c (h_wallFrom h i).toNatClampNeg - (c_warmth c (h_wallFrom h i).toNatClampNeg - c_warmth c (h_wallTo h i).toNatClampNeg) * (h_wallLeads h i).toInt64 / 100 = m_heat gv (h_wallFrom h i).toNatClampNeg - (m_warmth gv (h_wallFrom h i).toNatClampNeg - m_warmth gv (h_wallTo h i).toNatClampNeg) * (h_wallLeads h i).toInt64 / 100 from by rw [eh, ew, ew2])
    refine E8u e1 ?_
    have e2 := e1 (h_wallTo h i).toNatClampNeg (by rw [et, nI_clamp (by omega)]; omega)
    show _ + (c_warmth c (h_wallFrom h i).toNatClampNeg - c_warmth c (h_wallTo h i).toNatClampNeg) * (h_wallLeads h i).toInt64 / 100 = _ + (m_warmth gv (h_wallFrom h i).toNatClampNeg - m_warmth gv (h_wallTo h i).toNatClampNeg) * (h_wallLeads h i).toInt64 / 100
    rw [ew, ew2] at e2 ⊢
    rw [e2]
theorem kwn {full : Prop} {c0 : CS} {gv0 : MV} {h : HS} (hp : pI h) {x : Int32} {b : Int64} {mh : Nat → Int32} {c c9 : CS} {gv gv9 : MV} {hr : Int32} (hh : vp_in hr 24) {i : Nat} (hi : i < hnN h) (hK : KK full c0 gv0 c gv) (hW : Wn (hnR h) c gv) : KK full c0 gv0 (bC_passWindows_2 c c9 h hr i) (bM_flows_145 gv (mOf x b mh h) gv9 hr i) ∧ Wn (hnR h) (bC_passWindows_2 c c9 h hr i) (bM_flows_145 gv (mOf x b mh h) gv9 hr i) := by
  have h8 := hp.1.1.2
  obtain ⟨j, hj, ej⟩ := hp.2.2.1.1 i hi
  obtain ⟨a, ha, ea⟩ := hp.2.2.1.2.1 i hi
  obtain ⟨q, hq, rfl⟩ := vp_in_of hh (by decide)
  have ew : c_warmth c (h_windowRoom h i).toNatClampNeg = m_warmth gv (h_windowRoom h i).toNatClampNeg := by
    rw [ej, nI_clamp (by omega)]
    exact hW j hj
  have eh : c_heat c (h_windowRoom h i).toNatClampNeg = m_heat gv (h_windowRoom h i).toNatClampNeg := by
    rw [ej, nI_clamp (by omega)]
    exact hK.2.1 j (by omega)
  have es : m_sun (mOf x b mh h) (24 * m_windowSide (mOf x b mh h) i + nI q).toNatClampNeg = h_suns h (h_windowSide h i).toNatClampNeg (nI q).toNatClampNeg := by
    show h_suns h ((24 * h_windowSide h i + nI q).toNatClampNeg / 24) ((24 * h_windowSide h i + nI q).toNatClampNeg % 24) = _
    rw [ea, show (24 : Int32) = nI 24 from rfl, pk_mul, nI_add, nI_clamp (by omega), nI_clamp (by omega), nI_clamp (by omega)]
    rw [show (24 * a + q) / 24 = a by omega, show (24 * a + q) % 24 = q by omega]
  unfold bC_passWindows_2 bM_flows_145
  rw [es]
  by_cases hc : lg_cmp (c_warmth c (h_windowRoom h i).toNatClampNeg) (h_windowLimit h i).toInt64 ≤ 0
  · rw [if_pos hc, if_pos (show lg_cmp (m_warmth gv (m_windowRoom (mOf x b mh h) i).toNatClampNeg) (m_windowLimit (mOf x b mh h) i).toInt64 ≤ 0 from by rw [← ew]; exact hc)]
    refine ⟨⟨⟨hK.1.1, hK.1.2.1, fun q9 => ?_⟩, ?_, hK.2.2⟩, hW⟩
    · obtain ⟨a1, a2, a3, a4, a5, a6, a7⟩ := hK.1.2.2 q9
      refine ⟨a1, a2, a3, a4, ?_, a6, a7⟩
      show c_fromSun c + _ = m_bySun gv + _
      rw [a5]
    · exact E8u hK.2.1 (by rw [eh])
  · rw [if_neg hc, if_neg (show ¬ lg_cmp (m_warmth gv (m_windowRoom (mOf x b mh h) i).toNatClampNeg) (m_windowLimit (mOf x b mh h) i).toInt64 ≤ 0 from by rw [← ew]; exact hc)]
    refine ⟨⟨⟨hK.1.1, hK.1.2.1, fun q9 => ?_⟩, ?_, hK.2.2⟩, hW⟩
    · obtain ⟨a1, a2, a3, a4, a5, a6, a7⟩ := hK.1.2.2 q9
      refine ⟨a1, a2, a3, a4, ?_, a6, a7⟩
      show c_fromSun c + _ = m_bySun gv + _
      rw [a5]
    · exact E8u hK.2.1 (by rw [eh])
