theorem mkv_heat {x0 : Nat → Int64} {x1 : Nat → Int32} {x2 : Nat → Int64} {x3 : Nat → Int64} {x4 : Nat → Int64} {x5 : Int32} {x6 : Int64} {x7 : Int64} {x8 : Int64} {x9 : Nat → Int64} {x10 : Int32} {x11 : Int32} {x12 : Int32} {x13 : Int32} {x14 : Nat → Int64} : m_heat (x0, x1, x2, x3, x4, x5, x6, x7, x8, x9, x10, x11, x12, x13, x14) = x0 := rfl
theorem mkv_uneasy {x0 : Nat → Int64} {x1 : Nat → Int32} {x2 : Nat → Int64} {x3 : Nat → Int64} {x4 : Nat → Int64} {x5 : Int32} {x6 : Int64} {x7 : Int64} {x8 : Int64} {x9 : Nat → Int64} {x10 : Int32} {x11 : Int32} {x12 : Int32} {x13 : Int32} {x14 : Nat → Int64} : m_uneasy (x0, x1, x2, x3, x4, x5, x6, x7, x8, x9, x10, x11, x12, x13, x14) = x1 := rfl
theorem mkv_gave {x0 : Nat → Int64} {x1 : Nat → Int32} {x2 : Nat → Int64} {x3 : Nat → Int64} {x4 : Nat → Int64} {x5 : Int32} {x6 : Int64} {x7 : Int64} {x8 : Int64} {x9 : Nat → Int64} {x10 : Int32} {x11 : Int32} {x12 : Int32} {x13 : Int32} {x14 : Nat → Int64} : m_gave (x0, x1, x2, x3, x4, x5, x6, x7, x8, x9, x10, x11, x12, x13, x14) = x2 := rfl
theorem mkv_taken {x0 : Nat → Int64} {x1 : Nat → Int32} {x2 : Nat → Int64} {x3 : Nat → Int64} {x4 : Nat → Int64} {x5 : Int32} {x6 : Int64} {x7 : Int64} {x8 : Int64} {x9 : Nat → Int64} {x10 : Int32} {x11 : Int32} {x12 : Int32} {x13 : Int32} {x14 : Nat → Int64} : m_taken (x0, x1, x2, x3, x4, x5, x6, x7, x8, x9, x10, x11, x12, x13, x14) = x3 := rfl
theorem mkv_greatest {x0 : Nat → Int64} {x1 : Nat → Int32} {x2 : Nat → Int64} {x3 : Nat → Int64} {x4 : Nat → Int64} {x5 : Int32} {x6 : Int64} {x7 : Int64} {x8 : Int64} {x9 : Nat → Int64} {x10 : Int32} {x11 : Int32} {x12 : Int32} {x13 : Int32} {x14 : Nat → Int64} : m_greatest (x0, x1, x2, x3, x4, x5, x6, x7, x8, x9, x10, x11, x12, x13, x14) = x4 := rfl
theorem mkv_now {x0 : Nat → Int64} {x1 : Nat → Int32} {x2 : Nat → Int64} {x3 : Nat → Int64} {x4 : Nat → Int64} {x5 : Int32} {x6 : Int64} {x7 : Int64} {x8 : Int64} {x9 : Nat → Int64} {x10 : Int32} {x11 : Int32} {x12 : Int32} {x13 : Int32} {x14 : Nat → Int64} : m_now (x0, x1, x2, x3, x4, x5, x6, x7, x8, x9, x10, x11, x12, x13, x14) = x5 := rfl
theorem mkv_bySun {x0 : Nat → Int64} {x1 : Nat → Int32} {x2 : Nat → Int64} {x3 : Nat → Int64} {x4 : Nat → Int64} {x5 : Int32} {x6 : Int64} {x7 : Int64} {x8 : Int64} {x9 : Nat → Int64} {x10 : Int32} {x11 : Int32} {x12 : Int32} {x13 : Int32} {x14 : Nat → Int64} : m_bySun (x0, x1, x2, x3, x4, x5, x6, x7, x8, x9, x10, x11, x12, x13, x14) = x6 := rfl
theorem mkv_byPersons {x0 : Nat → Int64} {x1 : Nat → Int32} {x2 : Nat → Int64} {x3 : Nat → Int64} {x4 : Nat → Int64} {x5 : Int32} {x6 : Int64} {x7 : Int64} {x8 : Int64} {x9 : Nat → Int64} {x10 : Int32} {x11 : Int32} {x12 : Int32} {x13 : Int32} {x14 : Nat → Int64} : m_byPersons (x0, x1, x2, x3, x4, x5, x6, x7, x8, x9, x10, x11, x12, x13, x14) = x7 := rfl
theorem mkv_out {x0 : Nat → Int64} {x1 : Nat → Int32} {x2 : Nat → Int64} {x3 : Nat → Int64} {x4 : Nat → Int64} {x5 : Int32} {x6 : Int64} {x7 : Int64} {x8 : Int64} {x9 : Nat → Int64} {x10 : Int32} {x11 : Int32} {x12 : Int32} {x13 : Int32} {x14 : Nat → Int64} : m_out (x0, x1, x2, x3, x4, x5, x6, x7, x8, x9, x10, x11, x12, x13, x14) = x8 := rfl
theorem mkv_warmth {x0 : Nat → Int64} {x1 : Nat → Int32} {x2 : Nat → Int64} {x3 : Nat → Int64} {x4 : Nat → Int64} {x5 : Int32} {x6 : Int64} {x7 : Int64} {x8 : Int64} {x9 : Nat → Int64} {x10 : Int32} {x11 : Int32} {x12 : Int32} {x13 : Int32} {x14 : Nat → Int64} : m_warmth (x0, x1, x2, x3, x4, x5, x6, x7, x8, x9, x10, x11, x12, x13, x14) = x9 := rfl
theorem mkv_triedRoom {x0 : Nat → Int64} {x1 : Nat → Int32} {x2 : Nat → Int64} {x3 : Nat → Int64} {x4 : Nat → Int64} {x5 : Int32} {x6 : Int64} {x7 : Int64} {x8 : Int64} {x9 : Nat → Int64} {x10 : Int32} {x11 : Int32} {x12 : Int32} {x13 : Int32} {x14 : Nat → Int64} : m_triedRoom (x0, x1, x2, x3, x4, x5, x6, x7, x8, x9, x10, x11, x12, x13, x14) = x10 := rfl
theorem mkv_triedWarmth {x0 : Nat → Int64} {x1 : Nat → Int32} {x2 : Nat → Int64} {x3 : Nat → Int64} {x4 : Nat → Int64} {x5 : Int32} {x6 : Int64} {x7 : Int64} {x8 : Int64} {x9 : Nat → Int64} {x10 : Int32} {x11 : Int32} {x12 : Int32} {x13 : Int32} {x14 : Nat → Int64} : m_triedWarmth (x0, x1, x2, x3, x4, x5, x6, x7, x8, x9, x10, x11, x12, x13, x14) = x11 := rfl
theorem mkv_triedFrom {x0 : Nat → Int64} {x1 : Nat → Int32} {x2 : Nat → Int64} {x3 : Nat → Int64} {x4 : Nat → Int64} {x5 : Int32} {x6 : Int64} {x7 : Int64} {x8 : Int64} {x9 : Nat → Int64} {x10 : Int32} {x11 : Int32} {x12 : Int32} {x13 : Int32} {x14 : Nat → Int64} : m_triedFrom (x0, x1, x2, x3, x4, x5, x6, x7, x8, x9, x10, x11, x12, x13, x14) = x12 := rfl
theorem mkv_wasLow {x0 : Nat → Int64} {x1 : Nat → Int32} {x2 : Nat → Int64} {x3 : Nat → Int64} {x4 : Nat → Int64} {x5 : Int32} {x6 : Int64} {x7 : Int64} {x8 : Int64} {x9 : Nat → Int64} {x10 : Int32} {x11 : Int32} {x12 : Int32} {x13 : Int32} {x14 : Nat → Int64} : m_wasLow (x0, x1, x2, x3, x4, x5, x6, x7, x8, x9, x10, x11, x12, x13, x14) = x13 := rfl
theorem mkv_kept {x0 : Nat → Int64} {x1 : Nat → Int32} {x2 : Nat → Int64} {x3 : Nat → Int64} {x4 : Nat → Int64} {x5 : Int32} {x6 : Int64} {x7 : Int64} {x8 : Int64} {x9 : Nat → Int64} {x10 : Int32} {x11 : Int32} {x12 : Int32} {x13 : Int32} {x14 : Nat → Int64} : m_kept (x0, x1, x2, x3, x4, x5, x6, x7, x8, x9, x10, x11, x12, x13, x14) = x14 := rfl
theorem kp_loop (gu : MU) (gv : MV) : ∀ n, n ≤ 8 → (m_heat (fM_keep_2 gu gv n) = m_heat gv ∧ m_uneasy (fM_keep_2 gu gv n) = m_uneasy gv ∧ m_gave (fM_keep_2 gu gv n) = m_gave gv ∧ m_taken (fM_keep_2 gu gv n) = m_taken gv ∧ m_greatest (fM_keep_2 gu gv n) = m_greatest gv ∧ m_now (fM_keep_2 gu gv n) = m_now gv ∧ m_bySun (fM_keep_2 gu gv n) = m_bySun gv ∧ m_byPersons (fM_keep_2 gu gv n) = m_byPersons gv ∧ m_out (fM_keep_2 gu gv n) = m_out gv ∧ m_warmth (fM_keep_2 gu gv n) = m_warmth gv ∧ m_triedRoom (fM_keep_2 gu gv n) = m_triedRoom gv ∧ m_wasLow (fM_keep_2 gu gv n) = m_wasLow gv) ∧ ∀ j, j < n → m_kept (fM_keep_2 gu gv n) j = m_heat gv j ∧ m_kept (fM_keep_2 gu gv n) (8 + j) = (m_uneasy gv j).toInt64 ∧ m_kept (fM_keep_2 gu gv n) (16 + j) = m_gave gv j ∧ m_kept (fM_keep_2 gu gv n) (24 + j) = m_taken gv j ∧ m_kept (fM_keep_2 gu gv n) (32 + j) = m_greatest gv j := by
  intro n
  induction n with
  | zero => exact fun _ => ⟨⟨rfl, rfl, rfl, rfl, rfl, rfl, rfl, rfl, rfl, rfl, rfl, rfl⟩, fun j hj => absurd hj (Nat.not_lt_zero j)⟩
  | succ n ih =>
    intro hn
    obtain ⟨⟨a1, a2, a3, a4, a5, a6, a7, a8, a9, a10, a11, a12⟩, b⟩ := ih (by omega)
    refine ⟨⟨a1, a2, a3, a4, a5, a6, a7, a8, a9, a10, a11, a12⟩, fun j hj => ?_⟩
    have ek : m_kept (fM_keep_2 gu gv (n + 1)) = vp_updL (vp_updL (vp_updL (vp_updL (vp_updL (m_kept (fM_keep_2 gu gv n)) n (m_heat (fM_keep_2 gu gv n) n)) (8 + n) (m_uneasy (fM_keep_2 gu gv n) n).toInt64) (16 + n) (m_gave (fM_keep_2 gu gv n) n)) (24 + n) (m_taken (fM_keep_2 gu gv n) n)) (32 + n) (m_greatest (fM_keep_2 gu gv n) n) := rfl
    rw [ek, a1, a2, a3, a4, a5]
    rcases Nat.lt_or_ge j n with q | q
    · obtain ⟨c1, c2, c3, c4, c5⟩ := b j q
      refine ⟨?_, ?_, ?_, ?_, ?_⟩
      · rw [pk_uLn (by omega), pk_uLn (by omega), pk_uLn (by omega), pk_uLn (by omega), pk_uLn (by omega), c1]
      · rw [pk_uLn (by omega), pk_uLn (by omega), pk_uLn (by omega), pk_uLn (by omega), pk_uLn (by omega), c2]
      · rw [pk_uLn (by omega), pk_uLn (by omega), pk_uLn (by omega), pk_uLn (by omega), pk_uLn (by omega), c3]
      · rw [pk_uLn (by omega), pk_uLn (by omega), pk_uLn (by omega), pk_uLn (by omega), pk_uLn (by omega), c4]
      · rw [pk_uLn (by omega), pk_uLn (by omega), pk_uLn (by omega), pk_uLn (by omega), pk_uLn (by omega), c5]
    · have e : j = n := by omega
      subst e
      refine ⟨?_, ?_, ?_, ?_, ?_⟩
      · rw [pk_uLn (by omega), pk_uLn (by omega), pk_uLn (by omega), pk_uLn (by omega), pk_uLs]
      · rw [pk_uLn (by omega), pk_uLn (by omega), pk_uLn (by omega), pk_uLs]
      · rw [pk_uLn (by omega), pk_uLn (by omega), pk_uLs]
      · rw [pk_uLn (by omega), pk_uLs]
      · rw [pk_uLs]
theorem keep_spec (gu : MU) (gv : MV) : (m_heat (sgvM_keep gu gv) = m_heat gv ∧ m_uneasy (sgvM_keep gu gv) = m_uneasy gv ∧ m_gave (sgvM_keep gu gv) = m_gave gv ∧ m_taken (sgvM_keep gu gv) = m_taken gv ∧ m_greatest (sgvM_keep gu gv) = m_greatest gv ∧ m_now (sgvM_keep gu gv) = m_now gv ∧ m_bySun (sgvM_keep gu gv) = m_bySun gv ∧ m_byPersons (sgvM_keep gu gv) = m_byPersons gv ∧ m_out (sgvM_keep gu gv) = m_out gv ∧ m_triedRoom (sgvM_keep gu gv) = m_triedRoom gv ∧ m_wasLow (sgvM_keep gu gv) = m_wasLow gv) ∧ (∀ j, j < 8 → m_kept (sgvM_keep gu gv) j = m_heat gv j ∧ m_kept (sgvM_keep gu gv) (8 + j) = (m_uneasy gv j).toInt64 ∧ m_kept (sgvM_keep gu gv) (16 + j) = m_gave gv j ∧ m_kept (sgvM_keep gu gv) (24 + j) = m_taken gv j ∧ m_kept (sgvM_keep gu gv) (32 + j) = m_greatest gv j) ∧ m_kept (sgvM_keep gu gv) 40 = (m_now gv).toInt64 ∧ m_kept (sgvM_keep gu gv) 41 = m_bySun gv ∧ m_kept (sgvM_keep gu gv) 42 = m_byPersons gv ∧ m_kept (sgvM_keep gu gv) 43 = m_out gv := by
  have h := kp_loop gu gv k8 (by have := k8_eq; omega)
  have e8 := k8_eq
  have es : sgvM_keep gu gv = sgvM_keep_z (fM_keep_2 gu gv k8) gu gv := by unfold sgvM_keep; rfl
  rw [es]
  clear es
  generalize fM_keep_2 gu gv k8 = z at h
  obtain ⟨⟨a1, a2, a3, a4, a5, a6, a7, a8, a9, a10, a11, a12⟩, b⟩ := h
  have ez : sgvM_keep_z z gu gv = (m_heat z, m_uneasy z, m_gave z, m_taken z, m_greatest z, m_now z, m_bySun z, m_byPersons z, m_out z, m_warmth z, m_triedRoom z, m_triedWarmth z, m_triedFrom z, m_wasLow z, vp_updL (vp_updL (vp_updL (vp_updL (m_kept z) 40 (m_now z).toInt64) 41 (m_bySun z)) 42 (m_byPersons z)) 43 (m_out z)) := rfl
  generalize ek : vp_updL (vp_updL (vp_updL (vp_updL (m_kept z) 40 (m_now z).toInt64) 41 (m_bySun z)) 42 (m_byPersons z)) 43 (m_out z) = kk at ez
  rw [ez]
  clear ez
  refine ⟨⟨mkv_heat.trans a1, mkv_uneasy.trans a2, mkv_gave.trans a3, mkv_taken.trans a4, mkv_greatest.trans a5, mkv_now.trans a6, mkv_bySun.trans a7, mkv_byPersons.trans a8, mkv_out.trans a9, mkv_triedRoom.trans a11, mkv_wasLow.trans a12⟩, ?_, ?_⟩
  · intro j hj
    show kk j = _ ∧ kk (8 + j) = _ ∧ kk (16 + j) = _ ∧ kk (24 + j) = _ ∧ kk (32 + j) = _
    rw [← ek]
    obtain ⟨c1, c2, c3, c4, c5⟩ := b j (by omega)
    refine ⟨?_, ?_, ?_, ?_, ?_⟩
    · rw [pk_uLn (by omega), pk_uLn (by omega), pk_uLn (by omega), pk_uLn (by omega), c1]
    · rw [pk_uLn (by omega), pk_uLn (by omega), pk_uLn (by omega), pk_uLn (by omega), c2]
    · rw [pk_uLn (by omega), pk_uLn (by omega), pk_uLn (by omega), pk_uLn (by omega), c3]
    · rw [pk_uLn (by omega), pk_uLn (by omega), pk_uLn (by omega), pk_uLn (by omega), c4]
    · rw [pk_uLn (by omega), pk_uLn (by omega), pk_uLn (by omega), pk_uLn (by omega), c5]
  · show kk 40 = _ ∧ kk 41 = _ ∧ kk 42 = _ ∧ kk 43 = _
    rw [← ek, a6, a7, a8, a9]
    refine ⟨?_, ?_, ?_, ?_⟩
    · rw [pk_uLn (by omega), pk_uLn (by omega), pk_uLn (by omega), pk_uLs]
    · rw [pk_uLn (by omega), pk_uLn (by omega), pk_uLs]
    · rw [pk_uLn (by omega), pk_uLs]
    · rw [pk_uLs]
theorem pb_loop (gu : MU) (gv : MV) : ∀ n, n ≤ 8 → m_kept (fM_putBack_2 gu gv n) = m_kept gv ∧ ∀ j, j < n → m_heat (fM_putBack_2 gu gv n) j = m_kept gv j ∧ m_uneasy (fM_putBack_2 gu gv n) j = (m_kept gv (8 + j)).toInt32 ∧ m_gave (fM_putBack_2 gu gv n) j = m_kept gv (16 + j) ∧ m_taken (fM_putBack_2 gu gv n) j = m_kept gv (24 + j) ∧ m_greatest (fM_putBack_2 gu gv n) j = m_kept gv (32 + j) := by
  intro n
  induction n with
  | zero => exact fun _ => ⟨rfl, fun j hj => absurd hj (Nat.not_lt_zero j)⟩
  | succ n ih =>
    intro hn
    obtain ⟨a1, b⟩ := ih (by omega)
    refine ⟨a1, fun j hj => ?_⟩
    show vp_updL (m_heat (fM_putBack_2 gu gv n)) n (m_kept (fM_putBack_2 gu gv n) n) j = _ ∧ upd (m_uneasy (fM_putBack_2 gu gv n)) n (m_kept (fM_putBack_2 gu gv n) (8 + n)).toInt32 j = _ ∧ vp_updL (m_gave (fM_putBack_2 gu gv n)) n (m_kept (fM_putBack_2 gu gv n) (16 + n)) j = _ ∧ vp_updL (m_taken (fM_putBack_2 gu gv n)) n (m_kept (fM_putBack_2 gu gv n) (24 + n)) j = _ ∧ vp_updL (m_greatest (fM_putBack_2 gu gv n)) n (m_kept (fM_putBack_2 gu gv n) (32 + n)) j = _
    rw [a1]
    rcases Nat.lt_or_ge j n with q | q
    · obtain ⟨c1, c2, c3, c4, c5⟩ := b j q
      rw [pk_uLn (by omega), pk_un (by omega), pk_uLn (by omega), pk_uLn (by omega), pk_uLn (by omega)]
      exact ⟨c1, c2, c3, c4, c5⟩
    · have e : j = n := by omega
      subst e
      rw [pk_uLs, pk_us, pk_uLs, pk_uLs, pk_uLs]
      exact ⟨rfl, rfl, rfl, rfl, rfl⟩
/-- what was kept comes back -/
theorem back_spec {gu gu2 : MU} {gv y : MV} (hk : m_kept y = m_kept (sgvM_keep gu gv)) : E8 (m_heat (sgvM_putBack gu2 y)) (m_heat gv) ∧ E8i (m_uneasy (sgvM_putBack gu2 y)) (m_uneasy gv) ∧ E8 (m_gave (sgvM_putBack gu2 y)) (m_gave gv) ∧ E8 (m_taken (sgvM_putBack gu2 y)) (m_taken gv) ∧ E8 (m_greatest (sgvM_putBack gu2 y)) (m_greatest gv) ∧ m_now (sgvM_putBack gu2 y) = m_now gv ∧ m_bySun (sgvM_putBack gu2 y) = m_bySun gv ∧ m_byPersons (sgvM_putBack gu2 y) = m_byPersons gv ∧ m_out (sgvM_putBack gu2 y) = m_out gv ∧ m_triedRoom (sgvM_putBack gu2 y) = -1 ∧ m_wasLow (sgvM_putBack gu2 y) = 0 := by
  obtain ⟨-, k1, k2, k3, k4, k5⟩ := keep_spec gu gv
  have h := pb_loop gu2 y k8 (by have := k8_eq; omega)
  have e8 := k8_eq
  have es : sgvM_putBack gu2 y = sgvM_putBack_z (fM_putBack_2 gu2 y k8) gu2 y := by unfold sgvM_putBack; rfl
  rw [es]
  clear es
  generalize fM_putBack_2 gu2 y k8 = z at h
  obtain ⟨a1, b⟩ := h
  rw [hk] at a1 b
  refine ⟨fun j hj => ?_, fun j hj => ?_, fun j hj => ?_, fun j hj => ?_, fun j hj => ?_, ?_, ?_, ?_, ?_, rfl, rfl⟩
  · exact (b j (by omega)).1.trans (k1 j hj).1
  · refine (b j (by omega)).2.1.trans ?_
    rw [(k1 j hj).2.1]
    exact Int32.toInt32_toInt64 _
  · exact (b j (by omega)).2.2.1.trans (k1 j hj).2.2.1
  · exact (b j (by omega)).2.2.2.1.trans (k1 j hj).2.2.2.1
  · exact (b j (by omega)).2.2.2.2.trans (k1 j hj).2.2.2.2
  · show (m_kept z 40).toInt32 = _
    rw [a1, k2]
    exact Int32.toInt32_toInt64 _
  · show m_kept z 41 = _
    rw [a1, k3]
  · show m_kept z 42 = _
    rw [a1, k4]
  · show m_kept z 43 = _
    rw [a1, k5]
