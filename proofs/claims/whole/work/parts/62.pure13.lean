theorem lsum_s (h : HS) (r n : Nat) : lsum h r (n + 1) = lsum h r n + (if h_wallFrom h n = nI r ∨ h_wallTo h n = nI r then (h_wallLeads h n).toInt else 0) := rfl
theorem lsum_b {h : HS} (hp : pI h) (r : Nat) : ∀ n, n ≤ hnW h → 0 ≤ lsum h r n ∧ lsum h r n ≤ 1000 * n := by
  intro n
  induction n with
  | zero => exact fun _ => ⟨Int.le_refl _, Int.le_refl _⟩
  | succ n ih =>
    intro hn
    have h1 := ih (by omega)
    have h2 := hp.2.2.2.1 n (by omega)
    rw [lsum_s]
    split <;> omega
theorem add_toInt {a b : Int32} (h1 : -100000000 ≤ a.toInt) (h2 : a.toInt ≤ 100000000) (h3 : -100000000 ≤ b.toInt) (h4 : b.toInt ≤ 100000000) : (a + b).toInt = a.toInt + b.toInt := by
  rw [Int32.toInt_add]
  apply Int.bmod_eq_of_le <;> omega
theorem addL_toInt {a b : Int64} (h1 : -100000000 ≤ a.toInt) (h2 : a.toInt ≤ 100000000) (h3 : -100000000 ≤ b.toInt) (h4 : b.toInt ≤ 100000000) : (a + b).toInt = a.toInt + b.toInt := by
  rw [Int64.toInt_add]
  apply Int.bmod_eq_of_le <;> omega
theorem too_sum {h : HS} (hp : pI h) {x : Int32} {b : Int64} {mh : Nat → Int32} {gv : MV} {more : Int32} (hm : -1000 ≤ more.toInt ∧ more.toInt ≤ 1000) (r : Nat) : ∀ n, n ≤ hnW h → (fM_isTooMuch_6 (mOf x b mh h) gv (nI r) more n).toInt = more.toInt + lsum h r n := by
  have h20 := hp.1.2.1.2
  intro n
  induction n with
  | zero =>
    intro _
    show (more.toInt64).toInt = more.toInt + 0
    rw [Int32.toInt_toInt64, Int.add_zero]
  | succ n ih =>
    intro hn
    have e1 := ih (by omega)
    have h1 := lsum_b hp r n (by omega)
    have h2 := hp.2.2.2.1 n (by omega)
    show (bM_isTooMuch_6 (fM_isTooMuch_6 (mOf x b mh h) gv (nI r) more n) (mOf x b mh h) gv (nI r) more n).toInt = _
    unfold bM_isTooMuch_6
    rw [lsum_s]
    have key : (fM_isTooMuch_6 (mOf x b mh h) gv (nI r) more n + (h_wallLeads h n).toInt64).toInt = more.toInt + (lsum h r n + (h_wallLeads h n).toInt) := by
      rw [addL_toInt (by omega) (by omega) (by rw [Int32.toInt_toInt64]; omega) (by rw [Int32.toInt_toInt64]; omega), e1, Int32.toInt_toInt64]
      omega
    by_cases q1 : h_wallFrom h n = nI r
    · rw [if_pos q1, if_pos (Or.inl q1)]
      exact key
    · rw [if_neg q1]
      by_cases q2 : h_wallTo h n = nI r
      · rw [if_pos q2, if_pos (Or.inr q2)]
        exact key
      · rw [if_neg q2, if_neg (fun z => z.elim q1 q2), Int64.add_zero, e1]
        omega
theorem has_of {h : HS} (hp : pI h) {j : Nat} (hj : j < hnR h) : rH_hasRoom h (nI j) = 1 := by
  have h8 := hp.1.1.2
  unfold rH_hasRoom
  rw [if_neg (nI_pos (by omega)), if_neg]
  rw [hp.1.1.1, nI_leI (by omega) (by omega)]
  omega
theorem bears_eq {h : HS} (hp : pI h) {x : Int32} {b : Int64} {mh : Nat → Int32} {gv : MV} {room more : Int32} (hr : room = -1 ∨ ∃ j, j < hnR h ∧ room = nI j) (hm : -1000 ≤ more.toInt ∧ more.toInt ≤ 1000) : rH_bears h room more = 0 ↔ ¬ rM_isTooMuch (mOf x b mh h) gv room more = 0 := by
  have h8 := hp.1.1.2
  have h20 := hp.1.2.1.2
  rcases hr with rfl | ⟨j, hj, rfl⟩
  · unfold rH_bears rM_isTooMuch
    rw [if_pos (show rH_hasRoom h (-1) = 0 from by unfold rH_hasRoom; rw [if_pos (by decide)]), if_pos (by decide)]
    decide
  · unfold rH_bears rM_isTooMuch
    rw [if_neg (show ¬ rH_hasRoom h (nI j) = 0 from by rw [has_of hp hj]; decide), if_neg (nI_pos (by omega)), nI_clamp (by omega)]
    have h1 := lsum_b hp j (hnW h) (Nat.le_refl _)
    have h2 := hp.2.1.1 j hj
    have h3 := hp.2.2.2.2.2.2 j (by omega)
    have e1 : (100 * h_stores h j).toInt = 100 * (h_stores h j).toInt := by
      rw [Int32.toInt_mul, show (100 : Int32).toInt = 100 from by decide]
      apply Int.bmod_eq_of_le <;> omega
    have e2 : (h_leadsAt h j + more).toInt = lsum h j (hnW h) + more.toInt := by
      rw [add_toInt (by omega) (by omega) (by omega) (by omega), h3]
    have e3 := too_sum hp (x := x) (b := b) (mh := mh) (gv := gv) hm j (hnW h) (Nat.le_refl _)
    have e4 : (100 * (m_store (mOf x b mh h) j).toInt64).toInt = 100 * (h_stores h j).toInt := by
      rw [Int64.toInt_mul, show (100 : Int64).toInt = 100 from by decide, Int32.toInt_toInt64]
      show (100 * (h_stores h j).toInt).bmod (2 ^ 64) = _
      apply Int.bmod_eq_of_le <;> omega
    have e5 : fM_isTooMuch_6 (mOf x b mh h) gv (nI j) more (mnW (mOf x b mh h)) = fM_isTooMuch_6 (mOf x b mh h) gv (nI j) more (hnW h) := rfl
    rw [e5]
    by_cases q : 100 * h_stores h j < h_leadsAt h j + more
    · rw [if_pos q, if_neg (fun z => by
        have z2 := lgc_le.mp z
        rw [Int64.le_iff_toInt_le, e3, e4] at z2
        rw [Int32.lt_iff_toInt_lt, e1, e2] at q
        omega)]
      exact ⟨fun _ => n10, fun _ => rfl⟩
    · rw [if_neg q, if_pos (lgc_le.mpr (by
        rw [Int64.le_iff_toInt_le, e3, e4]
        rw [Int32.lt_iff_toInt_lt, e1, e2] at q
        omega))]
      exact ⟨fun z => absurd z n10, fun z => absurd rfl z⟩
theorem lsum_c {h h' : HS} {r : Nat} : ∀ n, (∀ w, w < n → h_wallFrom h' w = h_wallFrom h w ∧ h_wallTo h' w = h_wallTo h w ∧ h_wallLeads h' w = h_wallLeads h w) → lsum h' r n = lsum h r n := by
  intro n
  induction n with
  | zero => exact fun _ => rfl
  | succ n ih =>
    intro hw
    obtain ⟨e1, e2, e3⟩ := hw n (Nat.lt_succ_self n)
    rw [lsum_s, lsum_s, ih (fun w h9 => hw w (by omega)), e1, e2, e3]
theorem lsum_u {h h' : HS} {r k : Nat} (hf : h_wallFrom h' = h_wallFrom h) (ht : h_wallTo h' = h_wallTo h) {v : Int32} (hl : h_wallLeads h' = upd (h_wallLeads h) k v) : ∀ n, k < n → lsum h' r n = lsum h r n + (if h_wallFrom h k = nI r ∨ h_wallTo h k = nI r then v.toInt - (h_wallLeads h k).toInt else 0) := by
  intro n
  induction n with
  | zero => exact fun z => absurd z (Nat.not_lt_zero k)
  | succ n ih =>
    intro hk
    rw [lsum_s, lsum_s, hf, ht, hl]
    by_cases q : k = n
    · subst q
      rw [lsum_c (h := h) k (fun w hw => ⟨by rw [hf], by rw [ht], by rw [hl, pk_un (by omega)]⟩), pk_us]
      split <;> omega
    · rw [ih (by omega), pk_un (by omega)]
      omega
theorem pI_addLeads {h : HS} (hp : pI h) {wall more : Int32} {k : Nat} (hk : k < hnW h) (hw : wall = nI k) (hv : 0 ≤ (h_wallLeads h k + more).toInt ∧ (h_wallLeads h k + more).toInt ≤ 1000) (hm : -1000 ≤ more.toInt ∧ more.toInt ≤ 1000) : pI (shH_addLeads h wall more) ∧ ∃ L', shH_addLeads h wall more = (h_rooms h, h_walls h, h_windows h, h_low h, h_high h, h_stores h, L', h_mosts h, h_plans h, h_wallFrom h, h_wallTo h, upd (h_wallLeads h) k (h_wallLeads h k + more), h_windowRoom h, h_windowSide h, h_windowArea h, h_windowLimit h, h_outsides h, h_suns h) := by
  have h8 := hp.1.1.2
  have h20 := hp.1.2.1.2
  have hkc : wall.toNatClampNeg = k := by rw [hw, nI_clamp (by omega)]
  obtain ⟨a, ha, ea⟩ := hp.2.1.2.1 k hk
  have hac : (h_wallFrom h k).toNatClampNeg = a := by rw [ea, nI_clamp (by omega)]
  have hne := hp.2.2.2.2.1 k hk
  have hb := hp.2.2.2.1 k hk
  have esum : (h_wallLeads h k + more).toInt = (h_wallLeads h k).toInt + more.toInt := add_toInt (by omega) (by omega) (by omega) (by omega)
  have mk : ∀ L' : Nat → Int32, (∀ r, r < 8 → (L' r).toInt = lsum h r (hnW h) + (if h_wallFrom h k = nI r ∨ h_wallTo h k = nI r then (h_wallLeads h k + more).toInt - (h_wallLeads h k).toInt else 0)) → pI (h_rooms h, h_walls h, h_windows h, h_low h, h_high h, h_stores h, L', h_mosts h, h_plans h, h_wallFrom h, h_wallTo h, upd (h_wallLeads h) k (h_wallLeads h k + more), h_windowRoom h, h_windowSide h, h_windowArea h, h_windowLimit h, h_outsides h, h_suns h) := by
    intro L' hL
    obtain ⟨p1, p2, p3, d1, d2, d3, d4⟩ := hp
    refine ⟨p1, p2, p3, fun w hw9 => ?_, d2, fun w hw9 => ?_, fun r hr => ?_⟩
    · show 0 ≤ (upd (h_wallLeads h) k (h_wallLeads h k + more) w).toInt ∧ (upd (h_wallLeads h) k (h_wallLeads h k + more) w).toInt ≤ 1000
      unfold upd
      split
      · exact hv
      · exact d1 w hw9
    · show upd (h_wallLeads h) k (h_wallLeads h k + more) w = 0
      have hw8 : hnW h ≤ w := hw9
      rw [pk_un (by omega)]
      exact d3 w hw9
    · refine (hL r hr).trans ?_
      exact (lsum_u (h := h) (h' := (h_rooms h, h_walls h, h_windows h, h_low h, h_high h, h_stores h, L', h_mosts h, h_plans h, h_wallFrom h, h_wallTo h, upd (h_wallLeads h) k (h_wallLeads h k + more), h_windowRoom h, h_windowSide h, h_windowArea h, h_windowLimit h, h_outsides h, h_suns h)) rfl rfl rfl (hnW h) hk).symm
  unfold shH_addLeads
  rw [hkc, hac]
  have la := hp.2.2.2.2.2.2 a (by omega)
  have lb := lsum_b hp a (hnW h) (Nat.le_refl _)
  have ea2 : (h_leadsAt h a + more).toInt = lsum h a (hnW h) + more.toInt := by
    rw [add_toInt (by omega) (by omega) (by omega) (by omega), la]
  by_cases q : h_wallTo h k = -1
  · rw [if_pos q]
    refine ⟨mk _ (fun r hr => ?_), _, rfl⟩
    unfold upd
    by_cases q2 : r = a
    · rw [if_pos q2, q2, if_pos (Or.inl ea), ea2, esum]
      omega
    · rw [if_neg q2, if_neg (fun z => z.elim (fun z => q2 (by rw [ea] at z; exact ((nI_eq (by omega) (by omega)).mp z).symm)) (fun z => by rw [q] at z; exact nI_ne_m1 (by omega) z.symm)), hp.2.2.2.2.2.2 r hr]
      omega
  · rw [if_neg q]
    rcases hp.2.1.2.2 k hk with e | ⟨d, hd, ed⟩
    · exact absurd e q
    · have hdc : (h_wallTo h k).toNatClampNeg = d := by rw [ed, nI_clamp (by omega)]
      rw [hdc]
      have had : d ≠ a := fun z => hne (by rw [ea, ed, z])
      have ld := hp.2.2.2.2.2.2 d (by omega)
      have lbd := lsum_b hp d (hnW h) (Nat.le_refl _)
      refine ⟨mk _ (fun r hr => ?_), _, rfl⟩
      by_cases q3 : r = d
      · subst q3
        rw [pk_us, pk_un had, if_pos (Or.inr ed), add_toInt (by omega) (by omega) (by omega) (by omega), ld, esum]
        omega
      · rw [pk_un q3]
        by_cases q2 : r = a
        · subst q2
          rw [pk_us, if_pos (Or.inl ea), ea2, esum]
          omega
        · rw [pk_un q2, if_neg (fun z => z.elim (fun z => q2 (by rw [ea] at z; exact ((nI_eq (by omega) (by omega)).mp z).symm)) (fun z => q3 (by rw [ed] at z; exact ((nI_eq (by omega) (by omega)).mp z).symm))), hp.2.2.2.2.2.2 r hr]
          omega
