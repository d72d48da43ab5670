theorem kept_mk {x0 : Nat → Int64} {x1 : Nat → Int32} {x2 : Nat → Int64} {x3 : Nat → Int64} {x4 : Nat → Int64} {x5 : Int32} {x6 : Int64} {x7 : Int64} {x8 : Int64} {x9 : Nat → Int64} {x10 : Int32} {x11 : Int32} {x12 : Int32} {x13 : Int32} {x14 : Nat → Int64} : m_kept (x0, x1, x2, x3, x4, x5, x6, x7, x8, x9, x10, x11, x12, x13, x14) = x14 := rfl
theorem kp_M_flows_2 (gu : MU) (gv : MV) (h_ : Int32) (n : Nat) : m_kept (fM_flows_2 gu gv h_ n) = m_kept gv := by
  induction n with
  | zero => rfl
  | succ n ih =>
    show m_kept (bM_flows_2 (fM_flows_2 gu gv h_ n) gu gv h_ n) = m_kept gv
    unfold bM_flows_2
    (repeat' split) <;> exact kept_mk.trans ih
theorem kp_M_flows_29 (gu : MU) (gv : MV) (h_ : Int32) (n : Nat) : m_kept (fM_flows_29 gu gv h_ n) = m_kept gv := by
  induction n with
  | zero => rfl
  | succ n ih =>
    show m_kept (bM_flows_29 (fM_flows_29 gu gv h_ n) gu gv h_ n) = m_kept gv
    unfold bM_flows_29
    (repeat' split) <;> exact kept_mk.trans ih
theorem kp_M_flows_145 (gu : MU) (gv : MV) (h_ : Int32) (n : Nat) : m_kept (fM_flows_145 gu gv h_ n) = m_kept gv := by
  induction n with
  | zero => rfl
  | succ n ih =>
    show m_kept (bM_flows_145 (fM_flows_145 gu gv h_ n) gu gv h_ n) = m_kept gv
    unfold bM_flows_145
    (repeat' split) <;> exact kept_mk.trans ih
theorem kp_M_flows_248 (gu : MU) (gv : MV) (h_ : Int32) (n : Nat) : m_kept (fM_flows_248 gu gv h_ n) = m_kept gv := by
  induction n with
  | zero => rfl
  | succ n ih =>
    show m_kept (bM_flows_248 (fM_flows_248 gu gv h_ n) gu gv h_ n) = m_kept gv
    unfold bM_flows_248
    (repeat' split) <;> exact kept_mk.trans ih
theorem kp_M_step_17 (gu : MU) (gv : MV) (h_ : Int32) (n : Nat) : m_kept (fM_step_17 gu gv h_ n) = m_kept gv := by
  induction n with
  | zero => rfl
  | succ n ih =>
    show m_kept (bM_step_17 (fM_step_17 gu gv h_ n) gu gv h_ n) = m_kept gv
    unfold bM_step_17
    (repeat' split) <;> exact kept_mk.trans ih
theorem kp_M_step_312 (gu : MU) (gv : MV) (h_ : Int32) (n : Nat) : m_kept (fM_step_312 gu gv h_ n) = m_kept gv := by
  induction n with
  | zero => rfl
  | succ n ih =>
    show m_kept (bM_step_312 (fM_step_312 gu gv h_ n) gu gv h_ n) = m_kept gv
    unfold bM_step_312
    (repeat' split) <;> exact kept_mk.trans ih
theorem kp_flows (gu : MU) (gv : MV) (h_ : Int32) : m_kept (sgvM_flows gu gv h_) = m_kept gv := by
  unfold sgvM_flows
  rw [kp_M_flows_248, kp_M_flows_145, kp_M_flows_29, kp_M_flows_2]
theorem kp_step (gu : MU) (gv : MV) : m_kept (sgvM_step gu gv) = m_kept gv := by
  have e : ∀ z : MV, m_kept (sgvM_step_z z gu gv) = m_kept z := by
    intro z
    unfold sgvM_step_z
    split
    · rw [kp_M_step_312, kept_mk]
    · exact kept_mk
  unfold sgvM_step
  rw [e, kp_M_step_17, kp_flows]
theorem nw_keep (gu : MU) (gv : MV) : m_now (sgvM_keep gu gv) = m_now gv := by
  have e : ∀ n, m_now (fM_keep_2 gu gv n) = m_now gv := by
    intro n
    induction n with
    | zero => rfl
    | succ n ih =>
      show m_now (bM_keep_2 (fM_keep_2 gu gv n) gu gv n) = m_now gv
      unfold bM_keep_2
      exact now_mk.trans ih
  unfold sgvM_keep sgvM_keep_z
  exact now_mk.trans (e k8)
theorem kp_keep (gu : MU) (gv : MV) : m_kept (sgvM_keep gu gv) 40 = (m_now gv).toInt64 := by
  have e : ∀ n, m_now (fM_keep_2 gu gv n) = m_now gv := by
    intro n
    induction n with
    | zero => rfl
    | succ n ih =>
      show m_now (bM_keep_2 (fM_keep_2 gu gv n) gu gv n) = m_now gv
      unfold bM_keep_2
      exact now_mk.trans ih
  unfold sgvM_keep sgvM_keep_z
  rw [kept_mk, pk_uLn (by decide), pk_uLn (by decide), pk_uLn (by decide), pk_uLs, e]
theorem nw_putBack (gu : MU) (gv : MV) : m_now (sgvM_putBack gu gv) = (m_kept gv 40).toInt32 := by
  have e : ∀ n, m_kept (fM_putBack_2 gu gv n) = m_kept gv := by
    intro n
    induction n with
    | zero => rfl
    | succ n ih =>
      show m_kept (bM_putBack_2 (fM_putBack_2 gu gv n) gu gv n) = m_kept gv
      unfold bM_putBack_2
      exact kept_mk.trans ih
  unfold sgvM_putBack sgvM_putBack_z
  rw [now_mk, e]
theorem kback {gu gu2 : MU} {z y : MV} {o : Nat} (h : m_kept y = m_kept (sgvM_keep gu z)) (hz : m_now z = nI o) : m_now (sgvM_putBack gu2 y) = nI o := by
  rw [nw_putBack, h, kp_keep, hz]
  exact Int32.toInt32_toInt64 _
def mK (o H : Nat) : Nat := if (4 * H + 96 - o % 96) % 96 = 0 then 96 else (4 * H + 96 - o % 96) % 96
theorem mK_le (o H : Nat) : mK o H ≤ 96 := by
  unfold mK
  split <;> omega
theorem kend1 {x : Int32} (h : x = nI x.toNatClampNeg) : x + 1 = nI (x.toNatClampNeg + 1) := by rw [← nI_1, ← h]
theorem khx {hour : Int32} {o : Nat} (hH : vp_in hour 24) (ho5 : o ≤ 100000) : ∀ j, o < j → j ≤ o + mK o hour.toNatClampNeg → ((nI j - nI j / 4 * 4 = 0 ∧ nI j / 4 - nI j / 4 / 24 * 24 = hour) ↔ j = o + mK o hour.toNatClampNeg) := by
  obtain ⟨H, hH2, rfl⟩ := vp_in_of hH (by decide)
  rw [nI_clamp (by omega)]
  intro j h1 h2
  have h3 := mK_le o H
  rw [show (4 : Int32) = nI 4 from rfl, show (24 : Int32) = nI 24 from rfl, pk_rem (by omega) (by decide) (by decide), pk_div (by omega) (by decide) (by decide), pk_rem (by omega) (by decide) (by decide), show (0 : Int32) = nI 0 from rfl, nI_eq (by omega) (by decide), nI_eq (by omega) (by omega)]
  unfold mK at h2 ⊢
  split at h2
  · rename_i h4
    rw [if_pos h4]
    omega
  · rename_i h4
    rw [if_neg h4]
    omega
theorem klw1 {x : Int32} {o K i : Nat} (hx : x = nI o + nI i) (hN : o + K < 2 ^ 31) (hi : i ≤ K) (h : nI (o + K) ≤ x) : i = K := by
  rw [hx, nI_add, nI_leI hN (by omega)] at h
  omega
theorem klw2 {x : Int32} {o K i : Nat} (hx : x = nI o + nI i) (hN : o + K < 2 ^ 31) (hi : i ≤ K) (h : ¬ nI (o + K) ≤ x) : i < K := by
  rw [hx, nI_add, nI_leI hN (by omega)] at h
  omega
theorem mK_ge (o H : Nat) : 1 ≤ mK o H := by
  unfold mK
  split <;> omega
set_option maxRecDepth 100000 in
set_option maxHeartbeats 4000000 in
theorem lM_early_51 {l : Launch} {p : Program} {e : Env} {s : State} {m : MethodId} {args : Array Value} {below : List Frame} {meth : Method} {c0 : Code} {D : va_G} {A : Nat → Prop} {Q : State → Prop} (k : Nat → ClassId) (am : Nat → Nat) {ws : va_W} (r hour wanted : Int32) {o E : Nat} (hx : ∀ j, o < j → j ≤ E → ((nI j - nI j / 4 * 4 = 0 ∧ nI j / 4 - nI j / 4 / 24 * 24 = hour) ↔ j = E)) (C : kC p s m args c0 bM_early "RoomHoursModel" kT D kcl (kty k) A 7) (kk : kW p l e ({ frames := 4, cells := 0, slots := 0, locals := 103 }) s m args below meth c0 D kcl A 7 0 0 Q 75 [(4, .int (nI E)), (0, .ref (am 0)), (1, .int r), (2, .int hour), (3, .int wanted)] [] ws) : ∀ (n x : Nat), o < x → x ≤ E → E < x + n → kW p l e ({ frames := 4, cells := 0, slots := 0, locals := 103 }) s m args below meth c0 D kcl A 7 0 0 Q 51 [(4, .int (nI x)), (0, .ref (am 0)), (1, .int r), (2, .int hour), (3, .int wanted)] [] ws := by
  intro n
  induction n with
  | zero => exact fun x h0 h1 h2 => absurd h2 (by omega)
  | succ n ih =>
    intro x h1 h2 h3
    refine kw_iload C 0 dM_early_51 rfl ?_
    refine kw_iconst (v := 4) C dM_early_53 (by decide) ?_
    refine kw_irem C dM_early_54 (by decide) ?_
    refine kw_if_ne (tgt := 69) C dM_early_55 (by decide) (fun c_1 => ?_) (fun c_1 => ?_)
    · skip
      refine kw_iinc (v := nI (x + 1)) (lv' := [(4, .int (nI (x + 1))), (0, .ref (am 0)), (1, .int r), (2, .int hour), (3, .int wanted)]) C 0 dM_early_69 rfl (nI_1 x) (by decide) rfl ?_
      refine kw_goto (tgt := 51) C dM_early_72 (by decide) ?_
      have e9 : x ≠ E := fun e9 => c_1 ((hx x h1 h2).2 e9).1
      exact ih (x + 1) (by omega) (by omega) (by omega)
    · skip
      refine kw_iload C 0 dM_early_58 rfl ?_
      refine kw_iconst (v := 4) C dM_early_60 (by decide) ?_
      refine kw_idiv C dM_early_61 (by decide) ?_
      refine kw_bipush (v := 24) C dM_early_62 (by decide) ?_
      refine kw_irem C dM_early_64 (by decide) ?_
      refine kw_iload_n C 3 dM_early_65 rfl rfl ?_
      refine kw_icmp_eq (tgt := 75) C dM_early_66 (by decide) (fun c_2 => ?_) (fun c_2 => ?_)
      · skip
        have e9 : x = E := (hx x h1 h2).1 ⟨c_1, c_2⟩
        subst e9
        exact kk
      · skip
        refine kw_iinc (v := nI (x + 1)) (lv' := [(4, .int (nI (x + 1))), (0, .ref (am 0)), (1, .int r), (2, .int hour), (3, .int wanted)]) C 0 dM_early_69 rfl (nI_1 x) (by decide) rfl ?_
        refine kw_goto (tgt := 51) C dM_early_72 (by decide) ?_
        have e9 : x ≠ E := fun e9 => c_2 ((hx x h1 h2).2 e9).2
        exact ih (x + 1) (by omega) (by omega) (by omega)
noncomputable def bM_early_121 (z : MV) (gu : MU) (gv : MV) (r : Int32) (hour : Int32) (wanted : Int32) (x5 : Int32) (x6 : Int32) (o : Nat) (K : Nat) (i : Nat) : MV := (sgvM_step gu z)
noncomputable def fM_early_121 (gu : MU) (gv : MV) (r : Int32) (hour : Int32) (wanted : Int32) (x5 : Int32) (x6 : Int32) (o : Nat) (K : Nat) (n : Nat) : MV := Nat.rec (motive := fun _ => MV) gv (fun i z => bM_early_121 z gu gv r hour wanted x5 x6 o K i) n
theorem nw_M_early (gu : MU) (gv : MV) (r hour wanted x5 x6 : Int32) (o K : Nat) (ho : m_now gv = nI o) (i : Nat) : m_now (fM_early_121 gu gv r hour wanted x5 x6 o K i) = nI o + nI i := by
  induction i with
  | zero => exact ho.trans (by rw [nI_add, Nat.add_zero])
  | succ i ih =>
    show m_now (sgvM_step gu (fM_early_121 gu gv r hour wanted x5 x6 o K i)) = _
    rw [nw_step, ih, ← nI_1, Int32.add_assoc]
theorem kp_M_early (gu : MU) (gv : MV) (r hour wanted x5 x6 : Int32) (o K : Nat) (i : Nat) : m_kept (fM_early_121 gu gv r hour wanted x5 x6 o K i) = m_kept gv := by
  induction i with
  | zero => rfl
  | succ i ih =>
    show m_kept (sgvM_step gu (fM_early_121 gu gv r hour wanted x5 x6 o K i)) = _
    rw [kp_step, ih]
set_option maxRecDepth 100000 in
set_option maxHeartbeats 4000000 in
theorem lM_early_121 {l : Launch} {p : Program} {e : Env} {s : State} {m : MethodId} {args : Array Value} {below : List Frame} {meth : Method} {c0 : Code} {D : va_G} {A : Nat → Prop} {Q : State → Prop} (k : Nat → ClassId) (am : Nat → Nat) (gu : MU) (gv : MV) (r : Int32) (hour : Int32) (wanted : Int32) (x5 : Int32) (x6 : Int32) (o : Nat) (K : Nat) (hI : mInv gu) (hto : m_now gv = nI o) (ho5 : o ≤ 100000) (hK : K ≤ 96) (C : kC p s m args c0 bM_early "RoomHoursModel" kT D kcl (kty k) A 7) (kk : kW p l e ({ frames := 4, cells := 0, slots := 0, locals := 103 }) s m args below meth c0 D kcl A 7 0 0 Q 137 [(0, .ref (am 0)), (1, .int r), (2, .int hour), (3, .int wanted), (4, .int (nI (o + K))), (5, .int x5), (6, .int x6)] [] (wM k am gu (fM_early_121 gu gv r hour wanted x5 x6 o K K))) : ∀ (n i : Nat), i ≤ K → K < i + n → kW p l e ({ frames := 4, cells := 0, slots := 0, locals := 103 }) s m args below meth c0 D kcl A 7 0 0 Q 121 [(0, .ref (am 0)), (1, .int r), (2, .int hour), (3, .int wanted), (4, .int (nI (o + K))), (5, .int x5), (6, .int x6)] [] (wM k am gu (fM_early_121 gu gv r hour wanted x5 x6 o K i)) := by
  intro n
  induction n with
  | zero => exact fun i h1 h2 => absurd h2 (by omega)
  | succ n ih =>
    intro i hi hin
    refine kw_aload_n C 0 dM_early_121 rfl rfl ?_
    refine kw_get (v := .int (m_now (fM_early_121 gu gv r hour wanted x5 x6 o K i))) C 0 rfl rfl ku_M 27 (by decide) kt_583 rfl dM_early_122 ?_
    refine kw_iload C 4 dM_early_125 rfl ?_
    refine kw_icmp_ge (tgt := 137) C dM_early_127 (by decide) (fun c_1 => ?_) (fun c_1 => ?_)
    · skip
      have e9 : i = K := klw1 (nw_M_early gu gv r hour wanted x5 x6 o K hto i) (by omega) hi c_1
      subst e9
      refine kw_sub [0, 1, 2, 3, 4, 5, 6] rfl ?_
      exact kk
    · skip
      have hlt : i < K := klw2 (nw_M_early gu gv r hour wanted x5 x6 o K hto i) (by omega) hi c_1
      refine kw_aload_n C 0 dM_early_130 rfl rfl ?_
      refine kw_callAv (w1 := (wM k am gu (sgvM_step gu (fM_early_121 gu gv r hour wanted x5 x6 o K i)))) (st := []) C (cM_step l D k am gu (fM_early_121 gu gv r hour wanted x5 x6 o K i) hI (know (nw_M_early gu gv r hour wanted x5 x6 o K hto i) (by omega))) (cwV 0 C.1.2.2.2.2 (kgV kt_729 kt_731 ks_M_step kt_5 kt_732) rfl rfl rfl kdM_step ⟨Nat.le_of_ble_eq_true rfl, Nat.le_of_ble_eq_true rfl⟩) 0 3 rfl rfl rfl rfl rfl (Nat.le_of_ble_eq_true rfl) dM_early_131 ⟨Nat.zero_le _, Nat.zero_le _⟩ (ad_wM.trans ad_wM.symm) ?_
      refine kw_goto (tgt := 121) C dM_early_134 (by decide) ?_
      refine kw_sub [0, 1, 2, 3, 4, 5, 6] rfl ?_
      refine kw_eq rfl rfl ((congrArg (fun z90 => wM k am gu z90) ((show (sgvM_step gu (fM_early_121 gu gv r hour wanted x5 x6 o K i)) = (bM_early_121 (fM_early_121 gu gv r hour wanted x5 x6 o K i) gu gv r hour wanted x5 x6 o K i) from by unfold bM_early_121; rfl).trans (show (bM_early_121 (fM_early_121 gu gv r hour wanted x5 x6 o K i) gu gv r hour wanted x5 x6 o K i) = (fM_early_121 gu gv r hour wanted x5 x6 o K (i + 1)) from rfl)))) ?_
      exact ih (i + 1) (by omega) (by omega)
noncomputable def hM_early (rec_ : Int32 → MV → (Int32 × MV)) (i : Nat) (f : Int32) (zv : MV) (gu : MU) (r : Int32) (hour : Int32) (wanted : Int32) (o : Nat) (K : Nat) : Int32 × MV := if f = (-1000000) then (if (lg_cmp (rM_warmthOf gu (fM_early_121 gu ((m_heat (sgvM_keep gu zv)), (m_uneasy (sgvM_keep gu zv)), (m_gave (sgvM_keep gu zv)), (m_taken (sgvM_keep gu zv)), (m_greatest (sgvM_keep gu zv)), (m_now (sgvM_keep gu zv)), (m_bySun (sgvM_keep gu zv)), (m_byPersons (sgvM_keep gu zv)), (m_out (sgvM_keep gu zv)), (m_warmth (sgvM_keep gu zv)), r, wanted, ((nI (o + K)) - (4 * (nI i))), (m_wasLow (sgvM_keep gu zv)), (m_kept (sgvM_keep gu zv))) r hour wanted f (nI i) o K K) r) wanted.toInt64) < 0 then rec_ (-1000000) (sgvM_putBack gu (fM_early_121 gu ((m_heat (sgvM_keep gu zv)), (m_uneasy (sgvM_keep gu zv)), (m_gave (sgvM_keep gu zv)), (m_taken (sgvM_keep gu zv)), (m_greatest (sgvM_keep gu zv)), (m_now (sgvM_keep gu zv)), (m_bySun (sgvM_keep gu zv)), (m_byPersons (sgvM_keep gu zv)), (m_out (sgvM_keep gu zv)), (m_warmth (sgvM_keep gu zv)), r, wanted, ((nI (o + K)) - (4 * (nI i))), (m_wasLow (sgvM_keep gu zv)), (m_kept (sgvM_keep gu zv))) r hour wanted f (nI i) o K K)) else rec_ (nI i) (sgvM_putBack gu (fM_early_121 gu ((m_heat (sgvM_keep gu zv)), (m_uneasy (sgvM_keep gu zv)), (m_gave (sgvM_keep gu zv)), (m_taken (sgvM_keep gu zv)), (m_greatest (sgvM_keep gu zv)), (m_now (sgvM_keep gu zv)), (m_bySun (sgvM_keep gu zv)), (m_byPersons (sgvM_keep gu zv)), (m_out (sgvM_keep gu zv)), (m_warmth (sgvM_keep gu zv)), r, wanted, ((nI (o + K)) - (4 * (nI i))), (m_wasLow (sgvM_keep gu zv)), (m_kept (sgvM_keep gu zv))) r hour wanted f (nI i) o K K))) else (f, zv)
noncomputable def gM_early (gu : MU) (r : Int32) (hour : Int32) (wanted : Int32) (o : Nat) (K : Nat) (n : Nat) : Nat → Int32 → MV → (Int32 × MV) := Nat.rec (motive := fun _ => Nat → Int32 → MV → (Int32 × MV)) (fun _ f zv => (f, zv)) (fun _ rec_ i f zv => hM_early (rec_ (i + 1)) i f zv gu r hour wanted o K) n
set_option maxRecDepth 100000 in
set_option maxHeartbeats 4000000 in
theorem lM_early {l : Launch} {p : Program} {e : Env} {s : State} {m : MethodId} {args : Array Value} {below : List Frame} {meth : Method} {c0 : Code} {D : va_G} {A : Nat → Prop} {Q : State → Prop} (k : Nat → ClassId) (am : Nat → Nat) (gu : MU) (r : Int32) (hour : Int32) (wanted : Int32) (o : Nat) (K : Nat) (hI : mInv gu) (hr9 : vp_in r (mnR gu)) (ho5 : o ≤ 100000) (hK : K ≤ 96) (C : kC p s m args c0 bM_early "RoomHoursModel" kT D kcl (kty k) A 7) {G : Int32 × MV} (kk : kW p l e ({ frames := 4, cells := 0, slots := 0, locals := 103 }) s m args below meth c0 D kcl A 7 0 0 Q 167 [(5, .int G.1), (0, .ref (am 0)), (1, .int r), (2, .int hour), (3, .int wanted), (4, .int (nI (o + K)))] [] (wM k am gu G.2)) : ∀ (n i : Nat) (f : Int32) (zv : MV), i ≤ k25 → k25 < i + n → m_now zv = nI o → gM_early gu r hour wanted o K (k25 - i) i f zv = G → kW p l e ({ frames := 4, cells := 0, slots := 0, locals := 103 }) s m args below meth c0 D kcl A 7 0 0 Q 82 [(6, .int (nI i)), (5, .int f), (0, .ref (am 0)), (1, .int r), (2, .int hour), (3, .int wanted), (4, .int (nI (o + K)))] [] (wM k am gu zv) := by
  intro n
  induction n with
  | zero => exact fun i f zv h1 h2 => absurd h2 (by omega)
  | succ n ih =>
    intro i f zv hi hin hz hg
    refine kw_iload C 0 dM_early_82 rfl ?_
    refine kw_bipush (v := 24) C dM_early_84 (by decide) ?_
    refine kw_icmp_gt (tgt := 167) C dM_early_86 (by decide) (fun c_1 => ?_) (fun c_1 => ?_)
    · skip
      have e9 : i = k25 := klr1 hi c_1
      have hg2 : (f, zv) = G := by rw [e9, Nat.sub_self] at hg; exact hg
      subst hg2
      refine kw_sub [1, 2, 3, 4, 5, 6] rfl ?_
      exact kk
    · skip
      have hlt : i < k25 := klr2 hi c_1
      have hg1 : hM_early (gM_early gu r hour wanted o K (k25 - (i + 1)) (i + 1)) i f zv gu r hour wanted o K = G := by rw [show k25 - i = (k25 - (i + 1)) + 1 from by omega] at hg; exact hg
      refine kw_iload C 1 dM_early_89 rfl ?_
      refine kw_ldc (v := -1000000) C kt_555 dM_early_91 ?_
      refine kw_icmp_ne (tgt := 167) C dM_early_93 (by decide) (fun c_2 => ?_) (fun c_2 => ?_)
      · skip
        have hg2 : (f, zv) = G := by rw [← hg1]; unfold hM_early; rw [if_neg c_2]
        subst hg2
        refine kw_sub [1, 2, 3, 4, 5, 6] rfl ?_
        exact kk
      · skip
        refine kw_aload_n C 2 dM_early_96 rfl rfl ?_
        refine kw_callAv (w1 := (wM k am gu (sgvM_keep gu zv))) (st := []) C (cM_keep l D k am gu zv) (cwV 0 C.1.2.2.2.2 (kgV kt_756 kt_758 ks_M_keep kt_5 kt_759) rfl rfl rfl kdM_keep ⟨Nat.le_of_ble_eq_true rfl, Nat.le_of_ble_eq_true rfl⟩) 0 3 rfl rfl rfl rfl rfl (Nat.le_of_ble_eq_true rfl) dM_early_97 ⟨Nat.zero_le _, Nat.zero_le _⟩ (ad_wM.trans ad_wM.symm) ?_
        refine kw_aload_n C 2 dM_early_100 rfl rfl ?_
        refine kw_iload_n C 3 dM_early_101 rfl rfl ?_
        refine kw_put C 0 rfl rfl ku_M tM_ok nM 32 (by decide) kt_588 rfl (ty := .int) (by decide +kernel) rfl rfl (Nat.le_of_ble_eq_true rfl) dM_early_102 (wM_gv k am gu (m_heat (sgvM_keep gu zv)) (m_uneasy (sgvM_keep gu zv)) (m_gave (sgvM_keep gu zv)) (m_taken (sgvM_keep gu zv)) (m_greatest (sgvM_keep gu zv)) (m_now (sgvM_keep gu zv)) (m_bySun (sgvM_keep gu zv)) (m_byPersons (sgvM_keep gu zv)) (m_out (sgvM_keep gu zv)) (m_warmth (sgvM_keep gu zv)) r (m_triedWarmth (sgvM_keep gu zv)) (m_triedFrom (sgvM_keep gu zv)) (m_wasLow (sgvM_keep gu zv)) (m_kept (sgvM_keep gu zv))) rfl ?_
        refine kw_aload_n C 2 dM_early_105 rfl rfl ?_
        refine kw_iload_n C 5 dM_early_106 rfl rfl ?_
        refine kw_put C 0 rfl rfl ku_M tM_ok nM 33 (by decide) kt_589 rfl (ty := .int) (by decide +kernel) rfl rfl (Nat.le_of_ble_eq_true rfl) dM_early_107 (wM_gv k am gu (m_heat (sgvM_keep gu zv)) (m_uneasy (sgvM_keep gu zv)) (m_gave (sgvM_keep gu zv)) (m_taken (sgvM_keep gu zv)) (m_greatest (sgvM_keep gu zv)) (m_now (sgvM_keep gu zv)) (m_bySun (sgvM_keep gu zv)) (m_byPersons (sgvM_keep gu zv)) (m_out (sgvM_keep gu zv)) (m_warmth (sgvM_keep gu zv)) r wanted (m_triedFrom (sgvM_keep gu zv)) (m_wasLow (sgvM_keep gu zv)) (m_kept (sgvM_keep gu zv))) rfl ?_
        refine kw_aload_n C 2 dM_early_110 rfl rfl ?_
        refine kw_iload C 6 dM_early_111 rfl ?_
        refine kw_iconst (v := 4) C dM_early_113 (by decide) ?_
        refine kw_iload C 0 dM_early_114 rfl ?_
        refine kw_imul C dM_early_116 ?_
        refine kw_isub C dM_early_117 ?_
        refine kw_put C 0 rfl rfl ku_M tM_ok nM 34 (by decide) kt_590 rfl (ty := .int) (by decide +kernel) rfl rfl (Nat.le_of_ble_eq_true rfl) dM_early_118 (wM_gv k am gu (m_heat (sgvM_keep gu zv)) (m_uneasy (sgvM_keep gu zv)) (m_gave (sgvM_keep gu zv)) (m_taken (sgvM_keep gu zv)) (m_greatest (sgvM_keep gu zv)) (m_now (sgvM_keep gu zv)) (m_bySun (sgvM_keep gu zv)) (m_byPersons (sgvM_keep gu zv)) (m_out (sgvM_keep gu zv)) (m_warmth (sgvM_keep gu zv)) r wanted ((nI (o + K)) - (4 * (nI i))) (m_wasLow (sgvM_keep gu zv)) (m_kept (sgvM_keep gu zv))) rfl ?_
        refine kw_eq rfl rfl mk_wM_gv ?_
        refine kw_sub [2, 3, 4, 5, 6, 1, 0] rfl ?_
        refine lM_early_121 k am gu ((m_heat (sgvM_keep gu zv)), (m_uneasy (sgvM_keep gu zv)), (m_gave (sgvM_keep gu zv)), (m_taken (sgvM_keep gu zv)), (m_greatest (sgvM_keep gu zv)), (m_now (sgvM_keep gu zv)), (m_bySun (sgvM_keep gu zv)), (m_byPersons (sgvM_keep gu zv)), (m_out (sgvM_keep gu zv)), (m_warmth (sgvM_keep gu zv)), r, wanted, ((nI (o + K)) - (4 * (nI i))), (m_wasLow (sgvM_keep gu zv)), (m_kept (sgvM_keep gu zv))) r hour wanted f (nI i) o K hI (now_mk.trans ((nw_keep gu zv).trans hz)) ho5 hK C ?_ (K + 1) 0 (Nat.zero_le _) (by omega)
        refine kw_aload_n C 0 dM_early_137 rfl rfl ?_
        refine kw_iload_n C 1 dM_early_138 rfl rfl ?_
        refine kw_callAl (w1 := (wM k am gu (fM_early_121 gu ((m_heat (sgvM_keep gu zv)), (m_uneasy (sgvM_keep gu zv)), (m_gave (sgvM_keep gu zv)), (m_taken (sgvM_keep gu zv)), (m_greatest (sgvM_keep gu zv)), (m_now (sgvM_keep gu zv)), (m_bySun (sgvM_keep gu zv)), (m_byPersons (sgvM_keep gu zv)), (m_out (sgvM_keep gu zv)), (m_warmth (sgvM_keep gu zv)), r, wanted, ((nI (o + K)) - (4 * (nI i))), (m_wasLow (sgvM_keep gu zv)), (m_kept (sgvM_keep gu zv))) r hour wanted f (nI i) o K K))) (st := []) C (cM_warmthOf l D k am gu (fM_early_121 gu ((m_heat (sgvM_keep gu zv)), (m_uneasy (sgvM_keep gu zv)), (m_gave (sgvM_keep gu zv)), (m_taken (sgvM_keep gu zv)), (m_greatest (sgvM_keep gu zv)), (m_now (sgvM_keep gu zv)), (m_bySun (sgvM_keep gu zv)), (m_byPersons (sgvM_keep gu zv)), (m_out (sgvM_keep gu zv)), (m_warmth (sgvM_keep gu zv)), r, wanted, ((nI (o + K)) - (4 * (nI i))), (m_wasLow (sgvM_keep gu zv)), (m_kept (sgvM_keep gu zv))) r hour wanted f (nI i) o K K) r hI hr9) (cwV 1 C.1.2.2.2.2 (kgV kt_737 kt_739 ks_M_warmthOf kt_5 kt_740) rfl rfl rfl kdM_warmthOf ⟨Nat.le_of_ble_eq_true rfl, Nat.le_of_ble_eq_true rfl⟩) 0 3 rfl rfl rfl rfl rfl (Nat.le_of_ble_eq_true rfl) dM_early_139 ⟨Nat.zero_le _, Nat.zero_le _⟩ (ad_wM.trans ad_wM.symm) ?_
        refine kw_iload_n C 3 dM_early_142 rfl rfl ?_
        refine kw_i2l C dM_early_143 ?_
        refine kw_lcmp C dM_early_144 ?_
        refine kw_if_lt (tgt := 153) C dM_early_145 (by decide) (fun c_3 => ?_) (fun c_3 => ?_)
        · skip
          refine kw_ldc (v := -1000000) C kt_555 dM_early_153 ?_
          refine kw_istore (lv' := [(5, .int (-1000000)), (0, .ref (am 0)), (1, .int r), (2, .int hour), (3, .int wanted), (4, .int (nI (o + K))), (6, .int (nI i))]) C dM_early_155 (by decide) rfl ?_
          refine kw_aload_n C 1 dM_early_157 rfl rfl ?_
          refine kw_callAv (w1 := (wM k am gu (sgvM_putBack gu (fM_early_121 gu ((m_heat (sgvM_keep gu zv)), (m_uneasy (sgvM_keep gu zv)), (m_gave (sgvM_keep gu zv)), (m_taken (sgvM_keep gu zv)), (m_greatest (sgvM_keep gu zv)), (m_now (sgvM_keep gu zv)), (m_bySun (sgvM_keep gu zv)), (m_byPersons (sgvM_keep gu zv)), (m_out (sgvM_keep gu zv)), (m_warmth (sgvM_keep gu zv)), r, wanted, ((nI (o + K)) - (4 * (nI i))), (m_wasLow (sgvM_keep gu zv)), (m_kept (sgvM_keep gu zv))) r hour wanted f (nI i) o K K)))) (st := []) C (cM_putBack l D k am gu (fM_early_121 gu ((m_heat (sgvM_keep gu zv)), (m_uneasy (sgvM_keep gu zv)), (m_gave (sgvM_keep gu zv)), (m_taken (sgvM_keep gu zv)), (m_greatest (sgvM_keep gu zv)), (m_now (sgvM_keep gu zv)), (m_bySun (sgvM_keep gu zv)), (m_byPersons (sgvM_keep gu zv)), (m_out (sgvM_keep gu zv)), (m_warmth (sgvM_keep gu zv)), r, wanted, ((nI (o + K)) - (4 * (nI i))), (m_wasLow (sgvM_keep gu zv)), (m_kept (sgvM_keep gu zv))) r hour wanted f (nI i) o K K)) (cwV 0 C.1.2.2.2.2 (kgV kt_760 kt_762 ks_M_putBack kt_5 kt_763) rfl rfl rfl kdM_putBack ⟨Nat.le_of_ble_eq_true rfl, Nat.le_of_ble_eq_true rfl⟩) 0 3 rfl rfl rfl rfl rfl (Nat.le_of_ble_eq_true rfl) dM_early_158 ⟨Nat.zero_le _, Nat.zero_le _⟩ (ad_wM.trans ad_wM.symm) ?_
          refine kw_iinc (v := nI (i + 1)) (lv' := [(6, .int (nI (i + 1))), (5, .int (-1000000)), (0, .ref (am 0)), (1, .int r), (2, .int hour), (3, .int wanted), (4, .int (nI (o + K)))]) C 6 dM_early_161 rfl (nI_1 i) (by decide) rfl ?_
          refine kw_goto (tgt := 82) C dM_early_164 (by decide) ?_
          have hg2 : gM_early gu r hour wanted o K (k25 - (i + 1)) (i + 1) (-1000000) (sgvM_putBack gu (fM_early_121 gu ((m_heat (sgvM_keep gu zv)), (m_uneasy (sgvM_keep gu zv)), (m_gave (sgvM_keep gu zv)), (m_taken (sgvM_keep gu zv)), (m_greatest (sgvM_keep gu zv)), (m_now (sgvM_keep gu zv)), (m_bySun (sgvM_keep gu zv)), (m_byPersons (sgvM_keep gu zv)), (m_out (sgvM_keep gu zv)), (m_warmth (sgvM_keep gu zv)), r, wanted, ((nI (o + K)) - (4 * (nI i))), (m_wasLow (sgvM_keep gu zv)), (m_kept (sgvM_keep gu zv))) r hour wanted f (nI i) o K K)) = G := by rw [← hg1]; unfold hM_early; rw [if_pos c_2, if_pos c_3]
          refine kw_sub [0, 1, 2, 3, 4, 5, 6] rfl ?_
          exact ih (i + 1) (-1000000) (sgvM_putBack gu (fM_early_121 gu ((m_heat (sgvM_keep gu zv)), (m_uneasy (sgvM_keep gu zv)), (m_gave (sgvM_keep gu zv)), (m_taken (sgvM_keep gu zv)), (m_greatest (sgvM_keep gu zv)), (m_now (sgvM_keep gu zv)), (m_bySun (sgvM_keep gu zv)), (m_byPersons (sgvM_keep gu zv)), (m_out (sgvM_keep gu zv)), (m_warmth (sgvM_keep gu zv)), r, wanted, ((nI (o + K)) - (4 * (nI i))), (m_wasLow (sgvM_keep gu zv)), (m_kept (sgvM_keep gu zv))) r hour wanted f (nI i) o K K)) (by omega) (by omega) (kback (gu := gu) (z := zv) ((kp_M_early _ _ _ _ _ _ _ _ _ _).trans kept_mk) hz) hg2
        · skip
          refine kw_iload C 6 dM_early_148 rfl ?_
          refine kw_goto (tgt := 155) C dM_early_150 (by decide) ?_
          refine kw_istore (lv' := [(5, .int (nI i)), (0, .ref (am 0)), (1, .int r), (2, .int hour), (3, .int wanted), (4, .int (nI (o + K))), (6, .int (nI i))]) C dM_early_155 (by decide) rfl ?_
          refine kw_aload_n C 1 dM_early_157 rfl rfl ?_
          refine kw_callAv (w1 := (wM k am gu (sgvM_putBack gu (fM_early_121 gu ((m_heat (sgvM_keep gu zv)), (m_uneasy (sgvM_keep gu zv)), (m_gave (sgvM_keep gu zv)), (m_taken (sgvM_keep gu zv)), (m_greatest (sgvM_keep gu zv)), (m_now (sgvM_keep gu zv)), (m_bySun (sgvM_keep gu zv)), (m_byPersons (sgvM_keep gu zv)), (m_out (sgvM_keep gu zv)), (m_warmth (sgvM_keep gu zv)), r, wanted, ((nI (o + K)) - (4 * (nI i))), (m_wasLow (sgvM_keep gu zv)), (m_kept (sgvM_keep gu zv))) r hour wanted f (nI i) o K K)))) (st := []) C (cM_putBack l D k am gu (fM_early_121 gu ((m_heat (sgvM_keep gu zv)), (m_uneasy (sgvM_keep gu zv)), (m_gave (sgvM_keep gu zv)), (m_taken (sgvM_keep gu zv)), (m_greatest (sgvM_keep gu zv)), (m_now (sgvM_keep gu zv)), (m_bySun (sgvM_keep gu zv)), (m_byPersons (sgvM_keep gu zv)), (m_out (sgvM_keep gu zv)), (m_warmth (sgvM_keep gu zv)), r, wanted, ((nI (o + K)) - (4 * (nI i))), (m_wasLow (sgvM_keep gu zv)), (m_kept (sgvM_keep gu zv))) r hour wanted f (nI i) o K K)) (cwV 0 C.1.2.2.2.2 (kgV kt_760 kt_762 ks_M_putBack kt_5 kt_763) rfl rfl rfl kdM_putBack ⟨Nat.le_of_ble_eq_true rfl, Nat.le_of_ble_eq_true rfl⟩) 0 3 rfl rfl rfl rfl rfl (Nat.le_of_ble_eq_true rfl) dM_early_158 ⟨Nat.zero_le _, Nat.zero_le _⟩ (ad_wM.trans ad_wM.symm) ?_
          refine kw_iinc (v := nI (i + 1)) (lv' := [(6, .int (nI (i + 1))), (5, .int (nI i)), (0, .ref (am 0)), (1, .int r), (2, .int hour), (3, .int wanted), (4, .int (nI (o + K)))]) C 6 dM_early_161 rfl (nI_1 i) (by decide) rfl ?_
          refine kw_goto (tgt := 82) C dM_early_164 (by decide) ?_
          have hg2 : gM_early gu r hour wanted o K (k25 - (i + 1)) (i + 1) (nI i) (sgvM_putBack gu (fM_early_121 gu ((m_heat (sgvM_keep gu zv)), (m_uneasy (sgvM_keep gu zv)), (m_gave (sgvM_keep gu zv)), (m_taken (sgvM_keep gu zv)), (m_greatest (sgvM_keep gu zv)), (m_now (sgvM_keep gu zv)), (m_bySun (sgvM_keep gu zv)), (m_byPersons (sgvM_keep gu zv)), (m_out (sgvM_keep gu zv)), (m_warmth (sgvM_keep gu zv)), r, wanted, ((nI (o + K)) - (4 * (nI i))), (m_wasLow (sgvM_keep gu zv)), (m_kept (sgvM_keep gu zv))) r hour wanted f (nI i) o K K)) = G := by rw [← hg1]; unfold hM_early; rw [if_pos c_2, if_neg c_3]
          refine kw_sub [0, 1, 2, 3, 4, 5, 6] rfl ?_
          exact ih (i + 1) (nI i) (sgvM_putBack gu (fM_early_121 gu ((m_heat (sgvM_keep gu zv)), (m_uneasy (sgvM_keep gu zv)), (m_gave (sgvM_keep gu zv)), (m_taken (sgvM_keep gu zv)), (m_greatest (sgvM_keep gu zv)), (m_now (sgvM_keep gu zv)), (m_bySun (sgvM_keep gu zv)), (m_byPersons (sgvM_keep gu zv)), (m_out (sgvM_keep gu zv)), (m_warmth (sgvM_keep gu zv)), r, wanted, ((nI (o + K)) - (4 * (nI i))), (m_wasLow (sgvM_keep gu zv)), (m_kept (sgvM_keep gu zv))) r hour wanted f (nI i) o K K)) (by omega) (by omega) (kback (gu := gu) (z := zv) ((kp_M_early _ _ _ _ _ _ _ _ _ _).trans kept_mk) hz) hg2
noncomputable def rM_early (gu : MU) (gv : MV) (r : Int32) (hour : Int32) (wanted : Int32) : Int32 := if (rM_isRoom gu gv r) = 0 then 0 else (if (rM_in hour 0 23) = 0 then 0 else (if (rM_isWarmth wanted) = 0 then 0 else (gM_early (0, (m_rooms gu), (m_store gu), (m_mostHeating gu), (m_mostCooling gu), (m_began gu), (m_walls gu), (m_wallRoom gu), (m_wallOther gu), (m_leads gu), (m_windows gu), (m_windowRoom gu), (m_windowSide gu), (m_windowArea gu), (m_windowLimit gu), (m_outside gu), (m_sun gu), (m_persons gu), (m_set gu), (m_cool gu), (m_low gu), (m_high gu)) r hour wanted (m_now gv).toNatClampNeg (mK (m_now gv).toNatClampNeg hour.toNatClampNeg) k25 0 (-1000000) gv).1))
noncomputable def sguM_early (gu : MU) (gv : MV) (r : Int32) (hour : Int32) (wanted : Int32) : MU := if (rM_isRoom gu gv r) = 0 then (1, (m_rooms gu), (m_store gu), (m_mostHeating gu), (m_mostCooling gu), (m_began gu), (m_walls gu), (m_wallRoom gu), (m_wallOther gu), (m_leads gu), (m_windows gu), (m_windowRoom gu), (m_windowSide gu), (m_windowArea gu), (m_windowLimit gu), (m_outside gu), (m_sun gu), (m_persons gu), (m_set gu), (m_cool gu), (m_low gu), (m_high gu)) else (if (rM_in hour 0 23) = 0 then (1, (m_rooms gu), (m_store gu), (m_mostHeating gu), (m_mostCooling gu), (m_began gu), (m_walls gu), (m_wallRoom gu), (m_wallOther gu), (m_leads gu), (m_windows gu), (m_windowRoom gu), (m_windowSide gu), (m_windowArea gu), (m_windowLimit gu), (m_outside gu), (m_sun gu), (m_persons gu), (m_set gu), (m_cool gu), (m_low gu), (m_high gu)) else (if (rM_isWarmth wanted) = 0 then (1, (m_rooms gu), (m_store gu), (m_mostHeating gu), (m_mostCooling gu), (m_began gu), (m_walls gu), (m_wallRoom gu), (m_wallOther gu), (m_leads gu), (m_windows gu), (m_windowRoom gu), (m_windowSide gu), (m_windowArea gu), (m_windowLimit gu), (m_outside gu), (m_sun gu), (m_persons gu), (m_set gu), (m_cool gu), (m_low gu), (m_high gu)) else (0, (m_rooms gu), (m_store gu), (m_mostHeating gu), (m_mostCooling gu), (m_began gu), (m_walls gu), (m_wallRoom gu), (m_wallOther gu), (m_leads gu), (m_windows gu), (m_windowRoom gu), (m_windowSide gu), (m_windowArea gu), (m_windowLimit gu), (m_outside gu), (m_sun gu), (m_persons gu), (m_set gu), (m_cool gu), (m_low gu), (m_high gu))))
noncomputable def sgvM_early (gu : MU) (gv : MV) (r : Int32) (hour : Int32) (wanted : Int32) : MV := if (rM_isRoom gu gv r) = 0 then gv else (if (rM_in hour 0 23) = 0 then gv else (if (rM_isWarmth wanted) = 0 then gv else (gM_early (0, (m_rooms gu), (m_store gu), (m_mostHeating gu), (m_mostCooling gu), (m_began gu), (m_walls gu), (m_wallRoom gu), (m_wallOther gu), (m_leads gu), (m_windows gu), (m_windowRoom gu), (m_windowSide gu), (m_windowArea gu), (m_windowLimit gu), (m_outside gu), (m_sun gu), (m_persons gu), (m_set gu), (m_cool gu), (m_low gu), (m_high gu)) r hour wanted (m_now gv).toNatClampNeg (mK (m_now gv).toNatClampNeg hour.toNatClampNeg) k25 0 (-1000000) gv).2))
set_option maxRecDepth 100000 in
set_option maxHeartbeats 4000000 in
theorem cM_early (l : Launch) (D : va_G) (k : Nat → ClassId) (am : Nat → Nat) (gu : MU) (gv : MV) (r : Int32) (hour : Int32) (wanted : Int32) (hI : mInv gu) (ho : m_now gv = nI (m_now gv).toNatClampNeg) (ho5 : (m_now gv).toNatClampNeg ≤ 100000) : kMi l yM_early (kwm yM_early bM_early 7 (some .int)) ({ frames := 4, cells := 0, slots := 0, locals := 103 }) D kcl (kty k) (wM k am gu gv) (wM k am (sguM_early gu gv r hour wanted) (sgvM_early gu gv r hour wanted)) [.ref (am 0), .int r, .int hour, .int wanted] (rM_early gu gv r hour wanted) := by
  refine k_entry_i (lv0 := [(0, .ref (am 0)), (1, .int r), (2, .int hour), (3, .int wanted)]) rfl (by decide +kernel) (Nat.le_of_ble_eq_true rfl) rfl ?_
  intro p e s m args below meth c0 C hr hlocks
  have hk := k25_eq
  refine kw_aload_n C 0 dM_early_0 rfl rfl ?_
  refine kw_aload_n C 0 dM_early_1 rfl rfl ?_
  refine kw_iload_n C 1 dM_early_2 rfl rfl ?_
  refine kw_callAi (w1 := (wM k am gu gv)) (st := [.ref (am 0)]) C (cM_isRoom l D k am gu gv r) (cwV 1 C.1.2.2.2.2 (kgV kt_686 kt_688 ks_M_isRoom kt_5 kt_689) rfl rfl rfl kdM_isRoom ⟨Nat.le_of_ble_eq_true rfl, Nat.le_of_ble_eq_true rfl⟩) 0 3 rfl rfl rfl rfl rfl (Nat.le_of_ble_eq_true rfl) dM_early_3 ⟨Nat.zero_le _, Nat.zero_le _⟩ (ad_wM.trans ad_wM.symm) ?_
  refine kw_if_eq (tgt := 30) C dM_early_6 (by decide) (fun c_1 => ?_) (fun c_1 => ?_)
  · skip
    refine kw_iconst (v := 1) C dM_early_30 (by decide) ?_
    refine kw_put C 0 rfl rfl ku_M tM_ok nM 0 (by decide) kt_556 rfl (ty := .int) (by decide +kernel) rfl rfl (Nat.le_of_ble_eq_true rfl) dM_early_31 (wM_gu k am 1 (m_rooms gu) (m_store gu) (m_mostHeating gu) (m_mostCooling gu) (m_began gu) (m_walls gu) (m_wallRoom gu) (m_wallOther gu) (m_leads gu) (m_windows gu) (m_windowRoom gu) (m_windowSide gu) (m_windowArea gu) (m_windowLimit gu) (m_outside gu) (m_sun gu) (m_persons gu) (m_set gu) (m_cool gu) (m_low gu) (m_high gu) gv) rfl ?_
    refine kw_aload_n C 0 dM_early_34 rfl rfl ?_
    refine kw_get (v := .int 1) C 0 rfl rfl ku_M 0 (by decide) kt_556 rfl dM_early_35 ?_
    refine kw_if_le (tgt := 43) C dM_early_38 (by decide) (fun c_2 => ?_) (fun c_2 => ?_)
    · skip
      exact absurd c_2 (by decide)
    · skip
      refine kw_iconst (v := 0) C dM_early_41 (by decide) ?_
      refine kw_eq rfl rfl (mk_wM_gu.trans (kc2 (f := fun z90 z91 => wM k am z90 z91) (show (1, (m_rooms gu), (m_store gu), (m_mostHeating gu), (m_mostCooling gu), (m_began gu), (m_walls gu), (m_wallRoom gu), (m_wallOther gu), (m_leads gu), (m_windows gu), (m_windowRoom gu), (m_windowSide gu), (m_windowArea gu), (m_windowLimit gu), (m_outside gu), (m_sun gu), (m_persons gu), (m_set gu), (m_cool gu), (m_low gu), (m_high gu)) = sguM_early gu gv r hour wanted from by unfold sguM_early; rw [if_pos c_1]) (show gv = sgvM_early gu gv r hour wanted from by unfold sgvM_early; rw [if_pos c_1]))) ?_
      exact kw_iret C hr hlocks (by unfold rM_early; rw [if_pos c_1]) dM_early_42
  · skip
    refine kw_iload_n C 2 dM_early_9 rfl rfl ?_
    refine kw_iconst (v := 0) C dM_early_10 (by decide) ?_
    refine kw_bipush (v := 23) C dM_early_11 (by decide) ?_
    refine kw_callSi (st := [.ref (am 0)]) C (cM_in l D k hour 0 23) (va_cwS 3 C.1.2.2.2.2 (kgO kt_676 kt_677 kt_5 kt_678) rfl rfl rfl kdM_in ⟨Nat.le_of_ble_eq_true rfl, Nat.le_of_ble_eq_true rfl⟩) [] rfl rfl rfl rfl (Nat.le_of_ble_eq_true rfl) dM_early_13 ⟨Nat.zero_le _, Nat.zero_le _⟩ rfl (wM k am gu gv) rfl ?_
    refine kw_if_eq (tgt := 30) C dM_early_16 (by decide) (fun c_3 => ?_) (fun c_3 => ?_)
    · skip
      refine kw_iconst (v := 1) C dM_early_30 (by decide) ?_
      refine kw_put C 0 rfl rfl ku_M tM_ok nM 0 (by decide) kt_556 rfl (ty := .int) (by decide +kernel) rfl rfl (Nat.le_of_ble_eq_true rfl) dM_early_31 (wM_gu k am 1 (m_rooms gu) (m_store gu) (m_mostHeating gu) (m_mostCooling gu) (m_began gu) (m_walls gu) (m_wallRoom gu) (m_wallOther gu) (m_leads gu) (m_windows gu) (m_windowRoom gu) (m_windowSide gu) (m_windowArea gu) (m_windowLimit gu) (m_outside gu) (m_sun gu) (m_persons gu) (m_set gu) (m_cool gu) (m_low gu) (m_high gu) gv) rfl ?_
      refine kw_aload_n C 0 dM_early_34 rfl rfl ?_
      refine kw_get (v := .int 1) C 0 rfl rfl ku_M 0 (by decide) kt_556 rfl dM_early_35 ?_
      refine kw_if_le (tgt := 43) C dM_early_38 (by decide) (fun c_4 => ?_) (fun c_4 => ?_)
      · skip
        exact absurd c_4 (by decide)
      · skip
        refine kw_iconst (v := 0) C dM_early_41 (by decide) ?_
        refine kw_eq rfl rfl (mk_wM_gu.trans (kc2 (f := fun z90 z91 => wM k am z90 z91) (show (1, (m_rooms gu), (m_store gu), (m_mostHeating gu), (m_mostCooling gu), (m_began gu), (m_walls gu), (m_wallRoom gu), (m_wallOther gu), (m_leads gu), (m_windows gu), (m_windowRoom gu), (m_windowSide gu), (m_windowArea gu), (m_windowLimit gu), (m_outside gu), (m_sun gu), (m_persons gu), (m_set gu), (m_cool gu), (m_low gu), (m_high gu)) = sguM_early gu gv r hour wanted from by unfold sguM_early; rw [if_neg c_1, if_pos c_3]) (show gv = sgvM_early gu gv r hour wanted from by unfold sgvM_early; rw [if_neg c_1, if_pos c_3]))) ?_
        exact kw_iret C hr hlocks (by unfold rM_early; rw [if_neg c_1, if_pos c_3]) dM_early_42
    · skip
      refine kw_iload_n C 3 dM_early_19 rfl rfl ?_
      refine kw_callSi (st := [.ref (am 0)]) C (cM_isWarmth l D k wanted) (va_cwS 1 C.1.2.2.2.2 (kgO kt_679 kt_680 kt_5 kt_681) rfl rfl rfl kdM_isWarmth ⟨Nat.le_of_ble_eq_true rfl, Nat.le_of_ble_eq_true rfl⟩) [] rfl rfl rfl rfl (Nat.le_of_ble_eq_true rfl) dM_early_20 ⟨Nat.zero_le _, Nat.zero_le _⟩ rfl (wM k am gu gv) rfl ?_
      refine kw_if_eq (tgt := 30) C dM_early_23 (by decide) (fun c_5 => ?_) (fun c_5 => ?_)
      · skip
        refine kw_iconst (v := 1) C dM_early_30 (by decide) ?_
        refine kw_put C 0 rfl rfl ku_M tM_ok nM 0 (by decide) kt_556 rfl (ty := .int) (by decide +kernel) rfl rfl (Nat.le_of_ble_eq_true rfl) dM_early_31 (wM_gu k am 1 (m_rooms gu) (m_store gu) (m_mostHeating gu) (m_mostCooling gu) (m_began gu) (m_walls gu) (m_wallRoom gu) (m_wallOther gu) (m_leads gu) (m_windows gu) (m_windowRoom gu) (m_windowSide gu) (m_windowArea gu) (m_windowLimit gu) (m_outside gu) (m_sun gu) (m_persons gu) (m_set gu) (m_cool gu) (m_low gu) (m_high gu) gv) rfl ?_
        refine kw_aload_n C 0 dM_early_34 rfl rfl ?_
        refine kw_get (v := .int 1) C 0 rfl rfl ku_M 0 (by decide) kt_556 rfl dM_early_35 ?_
        refine kw_if_le (tgt := 43) C dM_early_38 (by decide) (fun c_6 => ?_) (fun c_6 => ?_)
        · skip
          exact absurd c_6 (by decide)
        · skip
          refine kw_iconst (v := 0) C dM_early_41 (by decide) ?_
          refine kw_eq rfl rfl (mk_wM_gu.trans (kc2 (f := fun z90 z91 => wM k am z90 z91) (show (1, (m_rooms gu), (m_store gu), (m_mostHeating gu), (m_mostCooling gu), (m_began gu), (m_walls gu), (m_wallRoom gu), (m_wallOther gu), (m_leads gu), (m_windows gu), (m_windowRoom gu), (m_windowSide gu), (m_windowArea gu), (m_windowLimit gu), (m_outside gu), (m_sun gu), (m_persons gu), (m_set gu), (m_cool gu), (m_low gu), (m_high gu)) = sguM_early gu gv r hour wanted from by unfold sguM_early; rw [if_neg c_1, if_neg c_3, if_pos c_5]) (show gv = sgvM_early gu gv r hour wanted from by unfold sgvM_early; rw [if_neg c_1, if_neg c_3, if_pos c_5]))) ?_
          exact kw_iret C hr hlocks (by unfold rM_early; rw [if_neg c_1, if_neg c_3, if_pos c_5]) dM_early_42
      · skip
        refine kw_iconst (v := 0) C dM_early_26 (by decide) ?_
        refine kw_goto (tgt := 31) C dM_early_27 (by decide) ?_
        refine kw_put C 0 rfl rfl ku_M tM_ok nM 0 (by decide) kt_556 rfl (ty := .int) (by decide +kernel) rfl rfl (Nat.le_of_ble_eq_true rfl) dM_early_31 (wM_gu k am 0 (m_rooms gu) (m_store gu) (m_mostHeating gu) (m_mostCooling gu) (m_began gu) (m_walls gu) (m_wallRoom gu) (m_wallOther gu) (m_leads gu) (m_windows gu) (m_windowRoom gu) (m_windowSide gu) (m_windowArea gu) (m_windowLimit gu) (m_outside gu) (m_sun gu) (m_persons gu) (m_set gu) (m_cool gu) (m_low gu) (m_high gu) gv) rfl ?_
        refine kw_aload_n C 0 dM_early_34 rfl rfl ?_
        refine kw_get (v := .int 0) C 0 rfl rfl ku_M 0 (by decide) kt_556 rfl dM_early_35 ?_
        refine kw_if_le (tgt := 43) C dM_early_38 (by decide) (fun c_7 => ?_) (fun c_7 => ?_)
        · skip
          refine kw_aload_n C 0 dM_early_43 rfl rfl ?_
          refine kw_get (v := .int (m_now gv)) C 0 rfl rfl ku_M 27 (by decide) kt_583 rfl dM_early_44 ?_
          refine kw_iconst (v := 1) C dM_early_47 (by decide) ?_
          refine kw_iadd C dM_early_48 ?_
          refine kw_istore (lv' := [(4, .int ((m_now gv) + 1)), (0, .ref (am 0)), (1, .int r), (2, .int hour), (3, .int wanted)]) C dM_early_49 (by decide) rfl ?_
          refine kw_sub [0, 1, 2, 3, 4] rfl ?_
          refine kw_eq (show ([(4, .int ((m_now gv) + 1)), (0, .ref (am 0)), (1, .int r), (2, .int hour), (3, .int wanted)] : List (Nat × Value)) = [(4, .int (nI ((m_now gv).toNatClampNeg + 1))), (0, .ref (am 0)), (1, .int r), (2, .int hour), (3, .int wanted)] from by rw [kend1 ho]) rfl rfl ?_
          refine lM_early_51 k am r hour wanted (khx (krin (N := 24) rfl (by decide) c_3) ho5) C ?_ ((mK (m_now gv).toNatClampNeg hour.toNatClampNeg) + 1) ((m_now gv).toNatClampNeg + 1) (Nat.lt_succ_self _) (by have := mK_ge (m_now gv).toNatClampNeg hour.toNatClampNeg; omega) (by omega)
          refine kw_ldc (v := -1000000) C kt_555 dM_early_75 ?_
          refine kw_istore (lv' := [(5, .int (-1000000)), (4, .int (nI ((m_now gv).toNatClampNeg + (mK (m_now gv).toNatClampNeg hour.toNatClampNeg)))), (0, .ref (am 0)), (1, .int r), (2, .int hour), (3, .int wanted)]) C dM_early_77 (by decide) rfl ?_
          refine kw_iconst (v := 0) C dM_early_79 (by decide) ?_
          refine kw_istore (lv' := [(6, .int 0), (5, .int (-1000000)), (4, .int (nI ((m_now gv).toNatClampNeg + (mK (m_now gv).toNatClampNeg hour.toNatClampNeg)))), (0, .ref (am 0)), (1, .int r), (2, .int hour), (3, .int wanted)]) C dM_early_80 (by decide) rfl ?_
          refine kw_eq rfl rfl mk_wM_gu ?_
          refine kw_sub [0, 1, 3, 4, 5, 6, 2] rfl ?_
          refine lM_early k am (0, (m_rooms gu), (m_store gu), (m_mostHeating gu), (m_mostCooling gu), (m_began gu), (m_walls gu), (m_wallRoom gu), (m_wallOther gu), (m_leads gu), (m_windows gu), (m_windowRoom gu), (m_windowSide gu), (m_windowArea gu), (m_windowLimit gu), (m_outside gu), (m_sun gu), (m_persons gu), (m_set gu), (m_cool gu), (m_low gu), (m_high gu)) r hour wanted (m_now gv).toNatClampNeg (mK (m_now gv).toNatClampNeg hour.toNatClampNeg) (mInv_t hI) (kroomM (gv := gv) hI c_1) ho5 (mK_le _ _) C (G := (gM_early (0, (m_rooms gu), (m_store gu), (m_mostHeating gu), (m_mostCooling gu), (m_began gu), (m_walls gu), (m_wallRoom gu), (m_wallOther gu), (m_leads gu), (m_windows gu), (m_windowRoom gu), (m_windowSide gu), (m_windowArea gu), (m_windowLimit gu), (m_outside gu), (m_sun gu), (m_persons gu), (m_set gu), (m_cool gu), (m_low gu), (m_high gu)) r hour wanted (m_now gv).toNatClampNeg (mK (m_now gv).toNatClampNeg hour.toNatClampNeg) k25 0 (-1000000) gv)) ?_ (k25 + 1) 0 (-1000000) gv (Nat.zero_le _) (by omega) ho rfl
          refine kw_iload C 0 dM_early_167 rfl ?_
          refine kw_eq rfl rfl ((kc2 (f := fun z90 z91 => wM k am z90 z91) (show (0, (m_rooms gu), (m_store gu), (m_mostHeating gu), (m_mostCooling gu), (m_began gu), (m_walls gu), (m_wallRoom gu), (m_wallOther gu), (m_leads gu), (m_windows gu), (m_windowRoom gu), (m_windowSide gu), (m_windowArea gu), (m_windowLimit gu), (m_outside gu), (m_sun gu), (m_persons gu), (m_set gu), (m_cool gu), (m_low gu), (m_high gu)) = sguM_early gu gv r hour wanted from by unfold sguM_early; rw [if_neg c_1, if_neg c_3, if_neg c_5]) (show (gM_early (0, (m_rooms gu), (m_store gu), (m_mostHeating gu), (m_mostCooling gu), (m_began gu), (m_walls gu), (m_wallRoom gu), (m_wallOther gu), (m_leads gu), (m_windows gu), (m_windowRoom gu), (m_windowSide gu), (m_windowArea gu), (m_windowLimit gu), (m_outside gu), (m_sun gu), (m_persons gu), (m_set gu), (m_cool gu), (m_low gu), (m_high gu)) r hour wanted (m_now gv).toNatClampNeg (mK (m_now gv).toNatClampNeg hour.toNatClampNeg) k25 0 (-1000000) gv).2 = sgvM_early gu gv r hour wanted from by unfold sgvM_early; rw [if_neg c_1, if_neg c_3, if_neg c_5]))) ?_
          exact kw_iret C hr hlocks (by unfold rM_early; rw [if_neg c_1, if_neg c_3, if_neg c_5]) dM_early_169
        · skip
          exact absurd (by decide) c_7
theorem mInv_mh {gu : MU} {x : Nat → Int32} (hI : mInv gu) : mInv ((m_thrown gu), (m_rooms gu), (m_store gu), x, (m_mostCooling gu), (m_began gu), (m_walls gu), (m_wallRoom gu), (m_wallOther gu), (m_leads gu), (m_windows gu), (m_windowRoom gu), (m_windowSide gu), (m_windowArea gu), (m_windowLimit gu), (m_outside gu), (m_sun gu), (m_persons gu), (m_set gu), (m_cool gu), (m_low gu), (m_high gu)) := hI
theorem krangeM {n : Int32} (h : ¬ rM_in n 1 192 = 0) : n = nI n.toNatClampNeg ∧ n.toNatClampNeg ≤ 192 := by
  unfold rM_in at h
  split at h
  · exact absurd rfl h
  · rename_i h1
    split at h
    · exact absurd rfl h
    · rename_i h2
      have h3 : ¬ n < 0 := by
        intro q
        apply h1
        rw [Int32.lt_iff_toInt_lt] at q ⊢
        have : (1 : Int32).toInt = 1 := by decide
        have : (0 : Int32).toInt = 0 := by decide
        omega
      obtain ⟨j, hj, e⟩ := nI_of h3
      rw [e, nI_clamp hj]
      rw [e, show (192 : Int32) = nI 192 from rfl, nI_ltI (by decide) hj] at h2
      exact ⟨rfl, by omega⟩
