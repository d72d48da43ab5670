theorem strong_S1 {c z : CS} {h : HS} (hp : pI h) {b : Int64} {mh : Nat → Int32} {j : Nat} (hmh : ∀ i, i ≠ j → mh i = h_mosts h 0 i) {zv : MV} (hV : RV c zv) (hj : j < hnR h) {N : Nat} (hN : N ≤ 192) {o : Nat} (ho : c_over c = nI o) (ho5 : o ≤ 100000) {i : Nat} (hi : i ≤ 101) : rC_staysUp (sC c z h (nI j) i) h (nI j) (nI N) = (if m_wasLow (itM (mOf 0 b (upd mh j (nI (1000 * i))) h) N (sM (mOf 0 b mh h) zv (nI j) (nI N))) = 0 then 1 else 0) := by
  have h8 := hp.1.1.2
  obtain ⟨⟨k1, k2, k3, k4, k5, k6, k7, k8, k9, k10, k11⟩, -⟩ := keep_spec (mOf 0 b mh h) zv
  have hno : m_now zv = nI o := by rw [← hV.1.1, ho]
  have S0 : SS False (sC c z h (nI j) i) (sM (mOf 0 b mh h) zv (nI j) (nI N)) := by
    refine ⟨?_, ?_, fun q => q.elim⟩
    · rw [sM_now, k6]
      exact hV.1.1
    · rw [sM_heat, k1]
      show E8 (va_cpy (c_heat c) (c_heat z) (0 : Int32).toNatClampNeg (0 : Int32).toNatClampNeg (8 : Int32).toNatClampNeg) (m_heat zv)
      exact fun r hr => (cpy_E8 r hr).trans (hV.1.2.1 r hr)
  have eN : (nI N).toNatClampNeg = N := nI_clamp (by omega)
  unfold rC_staysUp
  rw [eN]
  refine up_rel (x := 0) (b := b) (c0 := sC c z h (nI j) i) (g0 := sM (mOf 0 b mh h) zv (nI j) (nI N)) (o := o) (N := N) hp ?_ hj (by omega) ?_ ?_ ?_ N 0 (sC c z h (nI j) i) (sM (mOf 0 b mh h) zv (nI j) (nI N)) (by omega) S0 rfl rfl ho ?_
  · intro i9 hi9
    unfold upd
    by_cases q : i9 = j
    · rw [if_pos q, nI_toInt (by omega)]
      omega
    · rw [if_neg q, hmh i9 q]
      exact (hp.2.2.1.2.2.2 i9).1
  · intro c' h1 i9 hi9
    simp only [cPar2, Prod.mk.injEq] at h1
    rw [h1.2.2.2.1, h1.2.2.2.2.1]
    show (if nI i9 = nI j then nI (1000 * i) else h_mosts h 0 i9) = upd mh j (nI (1000 * i)) i9
    unfold upd
    by_cases q : i9 = j
    · rw [if_pos (by rw [q]), if_pos q]
    · rw [if_neg (fun z9 => q ((nI_eq (by omega) (by omega)).mp z9)), if_neg q, hmh i9 q]
  · intro k hk c' gv' h1 h2 h3 h4 i9 hi9 X
    simp only [cPar2, mPar2, Prod.mk.injEq] at h1 h2
    rw [h1.1, h2.1, h2.2.2, sM_tr, sM_tf, h4, k6, hno, nI_add, if_pos (show nI (o + k) < nI (o + N) from (nI_ltI (by omega) (by omega)).mpr (by omega)), ite_self]
    exact if_neg (nI_ne_m1 (by omega))
  · exact sM_tr _ _ _ _
  · rw [sM_wl, k11]
    exact hV.2.2
theorem gM_strong_s (r steps had : Int32) (o n i : Nat) (f : Int32) (zu : MU) (zv : MV) : gM_strong r steps had o (n + 1) i f zu zv = hM_strong (gM_strong r steps had o n (i + 1)) i f zu zv r steps had o := rfl
theorem gM_strong_f {r steps had : Int32} {o i : Nat} {f : Int32} {zu : MU} {zv : MV} (hf : ¬ f = -1000000) : ∀ n, gM_strong r steps had o n i f zu zv = (f, zu, zv) := by
  intro n
  cases n with
  | zero => rfl
  | succ n =>
    rw [gM_strong_s]
    unfold hM_strong
    rw [if_neg hf]
theorem mOf_u {x : Int32} {b : Int64} {mh : Nat → Int32} {h : HS} {k : Nat} {v : Int32} : ((m_thrown (mOf x b mh h), m_rooms (mOf x b mh h), m_store (mOf x b mh h), upd (m_mostHeating (mOf x b mh h)) k v, m_mostCooling (mOf x b mh h), m_began (mOf x b mh h), m_walls (mOf x b mh h), m_wallRoom (mOf x b mh h), m_wallOther (mOf x b mh h), m_leads (mOf x b mh h), m_windows (mOf x b mh h), m_windowRoom (mOf x b mh h), m_windowSide (mOf x b mh h), m_windowArea (mOf x b mh h), m_windowLimit (mOf x b mh h), m_outside (mOf x b mh h), m_sun (mOf x b mh h), m_persons (mOf x b mh h), m_set (mOf x b mh h), m_cool (mOf x b mh h), m_low (mOf x b mh h), m_high (mOf x b mh h)) : MU) = mOf x b (upd mh k v) h := rfl
theorem hM_strong_eq (rec_ : Int32 → MU → MV → Int32 × MU × MV) (b : Int64) (mh : Nat → Int32) (h : HS) (j N : Nat) (hj : j < 8) (hN : N ≤ 192) (had : Int32) (o i : Nat) (zv : MV) : hM_strong rec_ i (-1000000) (mOf 0 b mh h) zv (nI j) (nI N) had o = (if m_wasLow (itM (mOf 0 b (upd mh j (nI (1000 * i))) h) N (sM (mOf 0 b mh h) zv (nI j) (nI N))) = 0 then rec_ (nI (1000 * i)) (mOf 0 b (upd mh j (nI (1000 * i))) h) (sgvM_putBack (mOf 0 b (upd mh j (nI (1000 * i))) h) (itM (mOf 0 b (upd mh j (nI (1000 * i))) h) N (sM (mOf 0 b mh h) zv (nI j) (nI N)))) else rec_ (-1000000) (mOf 0 b (upd mh j (nI (1000 * i))) h) (sgvM_putBack (mOf 0 b (upd mh j (nI (1000 * i))) h) (itM (mOf 0 b (upd mh j (nI (1000 * i))) h) N (sM (mOf 0 b mh h) zv (nI j) (nI N))))) := by
  have e1 : (nI N).toNatClampNeg = N := nI_clamp (by omega)
  have e2 : (nI j).toNatClampNeg = j := nI_clamp (by omega)
  unfold hM_strong
  rw [if_pos rfl, mOf_u, e1, e2]
  simp only [itM_strong]
  rfl
theorem sM_kept (zu gu : MU) (zv : MV) (r s : Int32) (N : Nat) : m_kept (itM gu N (sM zu zv r s)) = m_kept (sgvM_keep zu zv) := (itM_kept gu _ N).trans (sM_kp zu zv r s)
theorem upd_off {mh g : Nat → Int32} {j : Nat} {v : Int32} (h : ∀ i, i ≠ j → mh i = g i) : ∀ i, i ≠ j → upd mh j v i = g i := fun i hi => (pk_un hi).trans (h i hi)
theorem strong_none {c z : CS} {h : HS} (hp : pI h) {b : Int64} {j : Nat} (hj : j < hnR h) {N : Nat} (hN : N ≤ 192) {o : Nat} (ho : c_over c = nI o) (ho5 : o ≤ 100000) {had : Int32} {i0 : Nat} (hw : ∀ i, i0 ≤ i → i ≤ 101 → rC_staysUp (sC c z h (nI j) i) h (nI j) (nI N) = 0) : ∀ n i mh zv, i0 ≤ i → i + n = 101 → RV c zv → (∀ i, i ≠ j → mh i = h_mosts h 0 i) → (gM_strong (nI j) (nI N) had o n i (-1000000) (mOf 0 b mh h) zv).1 = -1000000 ∧ (∃ mh', (gM_strong (nI j) (nI N) had o n i (-1000000) (mOf 0 b mh h) zv).2.1 = mOf 0 b mh' h ∧ ∀ i, i ≠ j → mh' i = h_mosts h 0 i) ∧ RV c (gM_strong (nI j) (nI N) had o n i (-1000000) (mOf 0 b mh h) zv).2.2 := by
  have h8 := hp.1.1.2
  intro n
  induction n with
  | zero => exact fun i mh zv _ _ hV hm => ⟨rfl, ⟨mh, rfl, hm⟩, hV⟩
  | succ n ih =>
    intro i mh zv hi hin hV hm
    have s1 := strong_S1 (z := z) (b := b) hp hm hV hj hN ho ho5 (i := i) (by omega)
    rw [hw i hi (by omega)] at s1
    rw [gM_strong_s, hM_strong_eq _ b mh h j N (by omega) hN, if_neg (fun q => by rw [if_pos q] at s1; exact absurd s1 (by decide))]
    exact ih (i + 1) _ _ (by omega) (by omega) (RV_back hV (sM_kept _ _ _ _ _ _)) (upd_off hm)
theorem gR_strong_s (c : CS) (h : HS) (room steps : Int32) (n i : Nat) (z : CS) : gR_strong c h room steps (n + 1) i z = hR_strong (gR_strong c h room steps n (i + 1)) i z c h room steps := rfl
theorem hR_strong_eq (rec_ : CS → Int32 × CS) (i : Nat) (z c : CS) (h : HS) (room steps : Int32) : hR_strong rec_ i z c h room steps = (if rC_staysUp (sC c z h room i) h room steps = 0 then (if c_fellShort (scC_staysUp (sC c z h room i) h room steps) = 0 then (-1000000, scC_staysUp (sC c z h room i) h room steps) else rec_ (scC_staysUp (sC c z h room i) h room steps)) else (nI (1000 * i), scC_staysUp (sC c z h room i) h room steps)) := rfl
theorem strong_rel {c : CS} {h : HS} (hp : pI h) {b : Int64} {j : Nat} (hj : j < hnR h) {N : Nat} (hN : N ≤ 192) {o : Nat} (ho : c_over c = nI o) (ho5 : o ≤ 100000) {had : Int32} : ∀ n i z mh zv, i + n = 101 → RV c zv → (∀ i, i ≠ j → mh i = h_mosts h 0 i) → (gM_strong (nI j) (nI N) had o n i (-1000000) (mOf 0 b mh h) zv).1 = (gR_strong c h (nI j) (nI N) n i z).1 ∧ (∃ mh', (gM_strong (nI j) (nI N) had o n i (-1000000) (mOf 0 b mh h) zv).2.1 = mOf 0 b mh' h ∧ ∀ i, i ≠ j → mh' i = h_mosts h 0 i) ∧ RV c (gM_strong (nI j) (nI N) had o n i (-1000000) (mOf 0 b mh h) zv).2.2 := by
  have h8 := hp.1.1.2
  intro n
  induction n with
  | zero => exact fun i z mh zv _ hV hm => ⟨rfl, ⟨mh, rfl, hm⟩, hV⟩
  | succ n ih =>
    intro i z mh zv hin hV hm
    have s1 := strong_S1 (z := z) (b := b) hp hm hV hj hN ho ho5 (i := i) (by omega)
    have hb : RV c (sgvM_putBack (mOf 0 b (upd mh j (nI (1000 * i))) h) (itM (mOf 0 b (upd mh j (nI (1000 * i))) h) N (sM (mOf 0 b mh h) zv (nI j) (nI N)))) := RV_back hV (sM_kept _ _ _ _ _ _)
    rw [gM_strong_s, hM_strong_eq _ b mh h j N (by omega) hN, gR_strong_s, hR_strong_eq]
    by_cases q : m_wasLow (itM (mOf 0 b (upd mh j (nI (1000 * i))) h) N (sM (mOf 0 b mh h) zv (nI j) (nI N))) = 0
    · rw [if_pos q] at s1
      rw [if_pos q, if_neg (show ¬ rC_staysUp (sC c z h (nI j) i) h (nI j) (nI N) = 0 from by rw [s1]; decide), gM_strong_f (nI_nn (by omega))]
      exact ⟨rfl, ⟨_, rfl, upd_off hm⟩, hb⟩
    · rw [if_neg q] at s1
      rw [if_neg q, if_pos s1]
      by_cases q2 : c_fellShort (scC_staysUp (sC c z h (nI j) i) h (nI j) (nI N)) = 0
      · rw [if_pos q2]
        refine strong_none (z := z) hp hj hN ho ho5 (i0 := i) (fun i' h1 h2 => ?_) n (i + 1) _ _ (by omega) (by omega) hb (upd_off hm)
        have e0 : sC c z h (nI j) i' = pz (sC c z h (nI j) i) (nI (1000 * i')) (c_setFrom (sC c z h (nI j) i)) := rfl
        rw [e0]
        refine up_pz _ _ ?_ s1 q2
        show (nI (1000 * i)).toInt ≤ (nI (1000 * i')).toInt
        rw [nI_toInt (by omega), nI_toInt (by omega)]
        omega
      · rw [if_neg q2]
        exact ih (i + 1) _ _ _ (by omega) hb (upd_off hm)
