theorem mul4_toInt {i : Nat} (hi : i ≤ 25) : (nI i * 4).toInt = 4 * (i : Int) := by
  rw [show (4 : Int32) = nI 4 from rfl, pk_mul, nI_toInt (by omega)]
  omega
theorem nb_nI {c : CS} {h : HS} {o : Nat} (ho : c_over c = nI o) (ho5 : o ≤ 100000) (hour : Int32) : ∃ k, k ≤ 96 ∧ rC_nextBeginning c h hour = nI (o + k) := by
  unfold rC_nextBeginning
  rw [fmod_nI, ho]
  have h1 : ((hour * 4 - nI o).toInt % 96).toNat < 96 := by omega
  by_cases q : nI ((hour * 4 - nI o).toInt % 96).toNat = 0
  · rw [if_pos q]
    exact ⟨96, Nat.le_refl _, by rw [show (96 : Int32) = nI 96 from rfl, nI_add]⟩
  · rw [if_neg q]
    exact ⟨_, by omega, nI_add _ _⟩
theorem nb_val {c : CS} {h : HS} {o H : Nat} (ho : c_over c = nI o) (ho5 : o ≤ 100000) (hH : H < 24) : rC_nextBeginning c h (nI H) = nI (o + mK o H) := by
  unfold rC_nextBeginning
  rw [fmod_nI, ho]
  have e1 : (nI H * 4 - nI o).toInt = 4 * (H : Int) - o := by
    rw [show (4 : Int32) = nI 4 from rfl, pk_mul, pk_sub_toInt (by omega) (by omega)]
    omega
  rw [e1]
  unfold mK
  have e2 : ((4 * (H : Int) - o) % 96).toNat = (4 * H + 96 - o % 96) % 96 := by omega
  rw [e2]
  by_cases q : (4 * H + 96 - o % 96) % 96 = 0
  · rw [q, if_pos nI_0, if_pos rfl, show (96 : Int32) = nI 96 from rfl, nI_add]
  · rw [if_neg q, if_neg (show ¬ nI ((4 * H + 96 - o % 96) % 96) = 0 from fun z => q ((nI_eq (b := 0) (by omega) (by decide)).mp (z.trans nI_0.symm))), nI_add]
theorem early_prem {c : CS} {h : HS} {o : Nat} (ho : c_over c = nI o) (ho5 : o ≤ 100000) (hour : Int32) : rC_nextBeginning c h hour = nI ((c_over c).toNatClampNeg + ((rC_nextBeginning c h hour).toNatClampNeg - (c_over c).toNatClampNeg)) ∧ c_over c = nI (c_over c).toNatClampNeg ∧ (c_over c).toNatClampNeg ≤ 100000 ∧ ((rC_nextBeginning c h hour).toNatClampNeg - (c_over c).toNatClampNeg) ≤ 96 := by
  obtain ⟨k, hk, e⟩ := nb_nI (h := h) ho ho5 hour
  have e1 : (c_over c).toNatClampNeg = o := by rw [ho, nI_clamp (by omega)]
  have e2 : (rC_nextBeginning c h hour).toNatClampNeg = o + k := by rw [e, nI_clamp (by omega)]
  rw [e1, e2, show o + k - o = k by omega]
  exact ⟨e, ho, ho5, hk⟩
/-- what the reference holds between two trials -/
def RV (c : CS) (gv : MV) : Prop := SS True c gv ∧ m_triedRoom gv = -1 ∧ m_wasLow gv = 0
theorem RV_back {c : CS} {gv y : MV} {gu gu2 : MU} (hV : RV c gv) (hk : m_kept y = m_kept (sgvM_keep gu gv)) : RV c (sgvM_putBack gu2 y) := by
  obtain ⟨a1, a2, a3, a4, a5, a6, a7, a8, a9, a10, a11⟩ := back_spec (gu2 := gu2) hk
  obtain ⟨⟨s1, s2, s3⟩, -, -⟩ := hV
  obtain ⟨⟨b1, b2, b3, b4, b5, b6, b7⟩, b8⟩ := s3 trivial
  refine ⟨⟨s1.trans a6.symm, fun r hr => (s2 r hr).trans (a1 r hr).symm, fun _ => ⟨⟨fun r hr => (b1 r hr).trans (a3 r hr).symm, fun r hr => (b2 r hr).trans (a4 r hr).symm, fun r hr => (b3 r hr).trans (a5 r hr).symm, fun r hr => (b4 r hr).trans (a2 r hr).symm, b5.trans a7.symm, b6.trans a9.symm, fun r hr => by rw [a5 r hr]; exact b7 r hr⟩, b8.trans a8.symm⟩⟩, a10, a11⟩
theorem cpy_E8 {f g : Nat → Int64} : E8 (va_cpy f g (0 : Int32).toNatClampNeg (0 : Int32).toNatClampNeg (8 : Int32).toNatClampNeg) f := by
  intro r hr
  unfold va_cpy
  rw [if_pos (show (0 : Int32).toNatClampNeg ≤ r ∧ r < (0 : Int32).toNatClampNeg + (8 : Int32).toNatClampNeg from ⟨Nat.zero_le r, by show r < 0 + 8; omega⟩)]
  show f (0 + (r - 0)) = f r
  rw [Nat.zero_add, Nat.sub_zero]
noncomputable def eC (c z : CS) (h : HS) (room wanted : Int32) (o K i : Nat) : CS := scC_trySet (stC_copyOf c z h) h room wanted (nI (o + K) - nI i * 4)
noncomputable def eM (gu : MU) (zv : MV) (room wanted : Int32) (o K i : Nat) : MV := (m_heat (sgvM_keep gu zv), m_uneasy (sgvM_keep gu zv), m_gave (sgvM_keep gu zv), m_taken (sgvM_keep gu zv), m_greatest (sgvM_keep gu zv), m_now (sgvM_keep gu zv), m_bySun (sgvM_keep gu zv), m_byPersons (sgvM_keep gu zv), m_out (sgvM_keep gu zv), m_warmth (sgvM_keep gu zv), room, wanted, nI (o + K) - 4 * nI i, m_wasLow (sgvM_keep gu zv), m_kept (sgvM_keep gu zv))
theorem eM_now (gu : MU) (zv : MV) (r w : Int32) (o K i : Nat) : m_now (eM gu zv r w o K i) = m_now (sgvM_keep gu zv) := mkv_now
theorem eM_heat (gu : MU) (zv : MV) (r w : Int32) (o K i : Nat) : m_heat (eM gu zv r w o K i) = m_heat (sgvM_keep gu zv) := mkv_heat
theorem eM_tr (gu : MU) (zv : MV) (r w : Int32) (o K i : Nat) : m_triedRoom (eM gu zv r w o K i) = r := mkv_triedRoom
theorem eM_tw (gu : MU) (zv : MV) (r w : Int32) (o K i : Nat) : m_triedWarmth (eM gu zv r w o K i) = w := mkv_triedWarmth
theorem eM_tf (gu : MU) (zv : MV) (r w : Int32) (o K i : Nat) : m_triedFrom (eM gu zv r w o K i) = nI (o + K) - 4 * nI i := mkv_triedFrom
theorem eM_kp (gu : MU) (zv : MV) (r w : Int32) (o K i : Nat) : m_kept (eM gu zv r w o K i) = m_kept (sgvM_keep gu zv) := mkv_kept
theorem early_E1 {c z : CS} {h : HS} (hp : pI h) {x : Int32} {b : Int64} {zv : MV} (hV : RV c zv) {j : Nat} (hj : j < hnR h) {wanted : Int32} {o K i : Nat} (ho : c_over c = nI o) (ho5 : o + K ≤ 1000000) : rC_warmthOf (itC h K (eC c z h (nI j) wanted o K i)) h (nI j) = rM_warmthOf (mOf x b (h_mosts h 0) h) (itM (mOf x b (h_mosts h 0) h) K (eM (mOf x b (h_mosts h 0) h) zv (nI j) wanted o K i)) (nI j) := by
  have h8 := hp.1.1.2
  obtain ⟨⟨k1, k2, k3, k4, k5, k6, k7, k8, k9, k10, k11⟩, -⟩ := keep_spec (mOf x b (h_mosts h 0) h) zv
  have S0 : SS False (eC c z h (nI j) wanted o K i) (eM (mOf x b (h_mosts h 0) h) zv (nI j) wanted o K i) := by
    refine ⟨?_, ?_, fun q => q.elim⟩
    · rw [eM_now, k6]
      exact hV.1.1
    · rw [eM_heat, k1]
      show E8 (va_cpy (c_heat c) (c_heat z) (0 : Int32).toNatClampNeg (0 : Int32).toNatClampNeg (8 : Int32).toNatClampNeg) (m_heat zv)
      exact fun r hr => (cpy_E8 r hr).trans (hV.1.2.1 r hr)
  have R := it_rel (full := False) hp (x := x) (b := b) (mh := h_mosts h 0) (fun i _ => (hp.2.2.1.2.2.2 i).1) (show c_over (eC c z h (nI j) wanted o K i) = nI o from ho) (fun c' h1 => by
    simp only [cPar2, Prod.mk.injEq] at h1
    exact kTM_off h1.2.2.2.1) S0 K (by omega) (fun k hk c' gv' h1 h2 h3 h4 => by
    simp only [cPar2, mPar2, Prod.mk.injEq] at h1 h2
    intro i9 hi9 X
    rw [h1.1, h1.2.1, h1.2.2.1, h2.1, h2.2.1, h2.2.2, h3, h4, eM_tr, eM_tw, eM_tf]
    show (if nI i9 = nI j then (if nI (o + k) < nI (o + K) - nI i * 4 then X else wanted) else X) = (if nI i9 = nI j then (if nI (o + k) < nI (o + K) - 4 * nI i then X else wanted) else X)
    rw [Int32.mul_comm (nI i) 4])
  exact warm_eq hp hj (R.1.2.1 j (by omega))
theorem it_pz {h : HS} {c : CS} {x : Int32} : ∀ n, (∀ k, k < n → (c_over (itC h k c) < c_setFrom (itC h k c) ↔ c_over (itC h k c) < x)) → (∀ k, c_mostTried (itC h k c) = c_mostTried c) → itC h n (pz c (c_mostTried c) x) = pz (itC h n c) (c_mostTried c) x := by
  intro n
  induction n with
  | zero => exact fun _ _ => rfl
  | succ n ih =>
    intro hs hm
    show scC_step (itC h n (pz c (c_mostTried c) x)) h = pz (scC_step (itC h n c) h) (c_mostTried c) x
    rw [ih (fun k hk => hs k (by omega)) hm]
    exact pz_step (hs n (Nat.lt_succ_self n)) (by rw [hm n]; exact Int.le_refl _) h (Or.inr (hm n).symm)
theorem cp2_step (c : CS) (h : HS) : cPar2 (scC_step c h) = cPar2 c := by
  have eU : ∀ (z : CS) (hr : Int32) (n : Nat), cPar2 (fC_countUneasy_2 z h hr n) = cPar2 z := by
    intro z hr n
    induction n with
    | zero => rfl
    | succ n ih =>
      show cPar2 (bC_countUneasy_2 (fC_countUneasy_2 z h hr n) z h hr n) = _
      unfold bC_countUneasy_2
      (repeat' split) <;> exact ih
  unfold scC_step scC_passWindows scC_passWalls
  generalize rC_hourOfDay c h = hr
  have hcp : cPar (fC_step_47 (fC_passWindows_2 (fC_passWalls_2 (fC_step_7 c h hr (hnR h)) h hr (hnW h)) h hr (hnN h)) h hr (hnR h)) = cPar c := by rw [cp_47, cp_N, cp_W, cp_7]
  generalize fC_step_47 (fC_passWindows_2 (fC_passWalls_2 (fC_step_7 c h hr (hnR h)) h hr (hnW h)) h hr (hnN h)) h hr (hnR h) = cE at hcp ⊢
  simp only [cPar, Prod.mk.injEq] at hcp
  obtain ⟨a1, a2, a3, a4, a5, a6, a7⟩ := hcp
  have e : cPar2 cE = cPar2 c := by
    simp only [cPar2, Prod.mk.injEq]
    exact ⟨a2, a3, a4, a5, a6, a7⟩
  unfold scC_step_z scC_countUneasy
  split
  · exact e
  · rw [eU]
    exact e
theorem cp2_it (c : CS) (h : HS) : ∀ n, cPar2 (itC h n c) = cPar2 c := by
  intro n
  induction n with
  | zero => rfl
  | succ n ih => exact (cp2_step _ h).trans ih
theorem ov_it {c : CS} {h : HS} {o : Nat} (ho : c_over c = nI o) : ∀ n, c_over (itC h n c) = nI (o + n) := by
  intro n
  induction n with
  | zero => exact ho
  | succ n ih =>
    show c_over (scC_step (itC h n c) h) = _
    rw [ov_step, ih, nI_1]
    rfl
theorem from_toInt {o K i : Nat} (h : o + K ≤ 1000000) (hi : i ≤ 25) : (nI (o + K) - nI i * 4).toInt = (o : Int) + K - 4 * i := by
  rw [Int32.toInt_sub, mul4_toInt hi, nI_toInt (by omega)]
  rw [Int.bmod_eq_of_le (by omega) (by omega)]
  omega
/-- from a beginning that lies before now the trial is the same -/
theorem early_same {c z : CS} {h : HS} {room wanted : Int32} {o K i i' : Nat} (ho : c_over c = nI o) (hK : o + K ≤ 1000000) (hi : i ≤ i') (hi' : i' ≤ 25) (hf : ¬ c_over c < nI (o + K) - nI i * 4) : rC_warmthOf (itC h K (eC c z h room wanted o K i')) h room = rC_warmthOf (itC h K (eC c z h room wanted o K i)) h room := by
  have e0 : eC c z h room wanted o K i' = pz (eC c z h room wanted o K i) (c_mostTried (eC c z h room wanted o K i)) (nI (o + K) - nI i' * 4) := rfl
  have hov := ov_it (h := h) (show c_over (eC c z h room wanted o K i) = nI o from ho)
  have hf2 : (o : Int) + K - 4 * i ≤ o := by
    rw [Int32.lt_iff_toInt_lt, from_toInt hK (by omega), ho, nI_toInt (by omega)] at hf
    omega
  rw [e0, it_pz K ?_ ?_]
  · rfl
  · intro k hk
    have e1 : c_setFrom (itC h k (eC c z h room wanted o K i)) = nI (o + K) - nI i * 4 := by
      have := cp2_it (eC c z h room wanted o K i) h k
      simp only [cPar2, Prod.mk.injEq] at this
      exact this.2.2.1
    rw [e1, hov k, Int32.lt_iff_toInt_lt, Int32.lt_iff_toInt_lt, from_toInt hK (by omega), from_toInt hK hi', nI_toInt (by omega)]
    omega
  · intro k
    have := cp2_it (eC c z h room wanted o K i) h k
    simp only [cPar2, Prod.mk.injEq] at this
    exact this.2.2.2.2.1
theorem gM_early_s (gu : MU) (r hour wanted : Int32) (o K n i : Nat) (f : Int32) (zv : MV) : gM_early gu r hour wanted o K (n + 1) i f zv = hM_early (gM_early gu r hour wanted o K n (i + 1)) i f zv gu r hour wanted o K := rfl
theorem gM_early_f {gu : MU} {r hour wanted : Int32} {o K i : Nat} {f : Int32} {zv : MV} (hf : ¬ f = -1000000) : ∀ n, gM_early gu r hour wanted o K n i f zv = (f, zv) := by
  intro n
  cases n with
  | zero => rfl
  | succ n =>
    rw [gM_early_s]
    unfold hM_early
    rw [if_neg hf]
theorem hM_early_eq (rec_ : Int32 → MV → Int32 × MV) (gu : MU) (r hour wanted : Int32) (o K i : Nat) (zv : MV) : hM_early rec_ i (-1000000) zv gu r hour wanted o K = (if lg_cmp (rM_warmthOf gu (itM gu K (eM gu zv r wanted o K i)) r) wanted.toInt64 < 0 then rec_ (-1000000) (sgvM_putBack gu (itM gu K (eM gu zv r wanted o K i))) else rec_ (nI i) (sgvM_putBack gu (itM gu K (eM gu zv r wanted o K i)))) := by
  unfold hM_early
  rw [if_pos rfl]
  simp only [itM_early]
  rfl
theorem eM_kept (gu : MU) (zv : MV) (r wanted : Int32) (o K i : Nat) : m_kept (itM gu K (eM gu zv r wanted o K i)) = m_kept (sgvM_keep gu zv) := (itM_kept gu _ K).trans (eM_kp gu zv r wanted o K i)
theorem nI_nn {i : Nat} (hi : i < 2 ^ 31) : ¬ nI i = -1000000 := by
  intro e
  have := congrArg Int32.toInt e
  rw [nI_toInt hi, show (-1000000 : Int32).toInt = -1000000 from by decide] at this
  omega
theorem early_none {c z : CS} {h : HS} (hp : pI h) {x : Int32} {b : Int64} {j : Nat} (hj : j < hnR h) {hour wanted : Int32} {o K : Nat} (ho : c_over c = nI o) (hK : o + K ≤ 1000000) {i0 : Nat} (hw : ∀ i, i0 ≤ i → i ≤ 25 → lg_cmp (rC_warmthOf (itC h K (eC c z h (nI j) wanted o K i)) h (nI j)) wanted.toInt64 < 0) : ∀ n i zv, i0 ≤ i → i + n = 25 → RV c zv → (gM_early (mOf x b (h_mosts h 0) h) (nI j) hour wanted o K n i (-1000000) zv).1 = -1000000 ∧ RV c (gM_early (mOf x b (h_mosts h 0) h) (nI j) hour wanted o K n i (-1000000) zv).2 := by
  intro n
  induction n with
  | zero => exact fun i zv _ _ hV => ⟨rfl, hV⟩
  | succ n ih =>
    intro i zv hi hin hV
    rw [gM_early_s, hM_early_eq, if_pos (by rw [← early_E1 (z := z) hp hV hj ho hK]; exact hw i hi (by omega))]
    exact ih (i + 1) _ (by omega) (by omega) (RV_back hV (eM_kept _ _ _ _ _ _ _))
theorem gR_early_s (c : CS) (h : HS) (room hour wanted bg : Int32) (o K n i : Nat) (z : CS) : gR_early c h room hour wanted bg o K (n + 1) i z = hR_early (gR_early c h room hour wanted bg o K n (i + 1)) i z c h room hour wanted bg o K := rfl
theorem early_rel {c : CS} {h : HS} (hp : pI h) {x : Int32} {b : Int64} {j : Nat} (hj : j < hnR h) {hour wanted : Int32} {o K : Nat} (ho : c_over c = nI o) (hK : o + K ≤ 1000000) : ∀ n i z zv, i + n = 25 → RV c zv → (gM_early (mOf x b (h_mosts h 0) h) (nI j) hour wanted o K n i (-1000000) zv).1 = (gR_early c h (nI j) hour wanted (nI (o + K)) o K n i z).1 ∧ RV c (gM_early (mOf x b (h_mosts h 0) h) (nI j) hour wanted o K n i (-1000000) zv).2 := by
  intro n
  induction n with
  | zero => exact fun i z zv _ hV => ⟨rfl, hV⟩
  | succ n ih =>
    intro i z zv hin hV
    have hb : RV c (sgvM_putBack (mOf x b (h_mosts h 0) h) (itM (mOf x b (h_mosts h 0) h) K (eM (mOf x b (h_mosts h 0) h) zv (nI j) wanted o K i))) := RV_back hV (eM_kept _ _ _ _ _ _ _)
    have eR : hR_early (gR_early c h (nI j) hour wanted (nI (o + K)) o K n (i + 1)) i z c h (nI j) hour wanted (nI (o + K)) o K = (if lg_cmp (rC_warmthOf (itC h K (eC c z h (nI j) wanted o K i)) h (nI j)) wanted.toInt64 < 0 then (if c_over c < nI (o + K) - nI i * 4 then gR_early c h (nI j) hour wanted (nI (o + K)) o K n (i + 1) (itC h K (eC c z h (nI j) wanted o K i)) else (-1000000, itC h K (eC c z h (nI j) wanted o K i))) else (nI i, itC h K (eC c z h (nI j) wanted o K i))) := by
      unfold hR_early
      simp only [itC_early]
      rfl
    rw [gM_early_s, hM_early_eq, gR_early_s, eR, early_E1 (z := z) (x := x) (b := b) hp hV hj ho hK]
    by_cases q1 : lg_cmp (rM_warmthOf (mOf x b (h_mosts h 0) h) (itM (mOf x b (h_mosts h 0) h) K (eM (mOf x b (h_mosts h 0) h) zv (nI j) wanted o K i)) (nI j)) wanted.toInt64 < 0
    · rw [if_pos q1, if_pos q1]
      by_cases q2 : c_over c < nI (o + K) - nI i * 4
      · rw [if_pos q2]
        exact ih (i + 1) _ _ (by omega) hb
      · rw [if_neg q2]
        refine early_none (z := z) hp hj ho hK (i0 := i) (fun i' h1 h2 => ?_) n (i + 1) _ (by omega) (by omega) hb
        rw [early_same ho hK h1 h2 q2, early_E1 (z := z) (x := x) (b := b) hp hV hj ho hK]
        exact q1
    · rw [if_neg q1, if_neg q1, gM_early_f (nI_nn (by omega))]
      exact ⟨rfl, hb⟩
theorem mOf_t {x y : Int32} {b : Int64} {mh : Nat → Int32} {h : HS} : ((y, m_rooms (mOf x b mh h), m_store (mOf x b mh h), m_mostHeating (mOf x b mh h), m_mostCooling (mOf x b mh h), m_began (mOf x b mh h), m_walls (mOf x b mh h), m_wallRoom (mOf x b mh h), m_wallOther (mOf x b mh h), m_leads (mOf x b mh h), m_windows (mOf x b mh h), m_windowRoom (mOf x b mh h), m_windowSide (mOf x b mh h), m_windowArea (mOf x b mh h), m_windowLimit (mOf x b mh h), m_outside (mOf x b mh h), m_sun (mOf x b mh h), m_persons (mOf x b mh h), m_set (mOf x b mh h), m_cool (mOf x b mh h), m_low (mOf x b mh h), m_high (mOf x b mh h)) : MU) = mOf y b mh h := rfl
theorem p_early {c t : CS} {h : HS} {gu : MU} {gv : MV} {f : Nat → Int64} (p0 p1 p2 : Int32) (hR : Rl c h gu gv) : m_thrown (sguM_early gu gv p0 p1 p2) = kcode (oR_early c t h p0 p1 p2) ∧ (kcode (oR_early c t h p0 p1 p2) = 0 → kout (oR_early c t h p0 p1 p2) (rR_early c t h p0 p1 p2).toInt64 f 0 = (rM_early gu gv p0 p1 p2).toInt64) ∧ Rl c h (sguM_early gu gv p0 p1 p2) (sgvM_early gu gv p0 p1 p2) := by
  obtain ⟨⟨x, rfl⟩, hp, ⟨o, ho5, ho⟩, hS, hT⟩ := hR
  have hno : m_now gv = nI o := by rw [← hS.1, ho]
  unfold oR_early rR_early sguM_early rM_early sgvM_early
  simp only [room_eq hp]
  by_cases q1 : rH_hasRoom h p0 = 0
  · simp only [q1, ↓reduceIte, kc1]
    exact ⟨by first | trivial | rfl, by first | trivial | exact fun q => absurd q n10 | exact fun q => q.elim, ⟨1, rfl⟩, hp, ⟨o, ho5, ho⟩, hS, hT⟩
  · simp only [q1, ↓reduceIte]
    by_cases q2 : rR_isHour p1 = 0
    · have q2' : rM_in p1 0 23 = 0 := q2
      simp only [q2, q2', ↓reduceIte, kc1]
      exact ⟨by first | trivial | rfl, by first | trivial | exact fun q => absurd q n10 | exact fun q => q.elim, ⟨1, rfl⟩, hp, ⟨o, ho5, ho⟩, hS, hT⟩
    · have q2' : ¬ rM_in p1 0 23 = 0 := q2
      simp only [q2, q2', ↓reduceIte]
      by_cases q3 : rR_isWarmth p2 = 0
      · have q3' : rM_isWarmth p2 = 0 := q3
        simp only [q3, q3', ↓reduceIte, kc1]
        exact ⟨by first | trivial | rfl, by first | trivial | exact fun q => absurd q n10 | exact fun q => q.elim, ⟨1, rfl⟩, hp, ⟨o, ho5, ho⟩, hS, hT⟩
      · have q3' : ¬ rM_isWarmth p2 = 0 := q3
        simp only [q3, q3', ↓reduceIte, kc0]
        obtain ⟨j, hj, e0⟩ := has_lt hp q1
        obtain ⟨H, hH, e1⟩ := in_nI (N := 23) rfl (by decide) q2
        subst e0
        subst e1
        have hk := mK_le o H
        have ec : (m_now gv).toNatClampNeg = o := by rw [hno, nI_clamp (by omega)]
        have ec2 : (c_over c).toNatClampNeg = o := by rw [ho, nI_clamp (by omega)]
        rw [ec, ec2, nI_clamp (n := H) (by omega), nb_val ho ho5 (by omega), nI_clamp (n := o + mK o H) (by omega), show o + mK o H - o = mK o H by omega]
        have R := early_rel (x := 0) (b := c_begun c) (hour := nI H) (wanted := p2) hp hj ho (K := mK o H) (by omega) k25 0 t gv (by rw [k25_eq]) ⟨hS, hT.2.2.1, hT.2.2.2⟩
        rw [mOf_t]
        refine ⟨by first | trivial | rfl, ?_, ⟨0, rfl⟩, hp, ⟨o, ho5, ho⟩, R.2.1, hT.1, hT.2.1, R.2.2.1, R.2.2.2⟩
        try intro _
        refine kout0.trans ?_
        exact congrArg Int32.toInt64 R.1.symm
