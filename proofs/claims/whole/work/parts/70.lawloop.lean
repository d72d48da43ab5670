theorem Rl_use {c : CS} {h : HS} {gu : MU} {gv : MV} (hR : Rl c h gu gv) : kInv h ∧ mInv gu ∧ ∃ o, c_over c = nI o ∧ o ≤ 100000 ∧ m_now gv = nI o := by
  obtain ⟨⟨x, rfl⟩, hp, ⟨o, ho5, ho⟩, hS, -⟩ := hR
  exact ⟨pI_k hp, pI_m hp, o, ho, ho5, by rw [← hS.1, ho]⟩
theorem kcl_o {x : Int32} {o : Nat} (h : x = nI o) (ho : o ≤ 100000) : x = nI x.toNatClampNeg ∧ x.toNatClampNeg ≤ 100000 := by
  have e : x.toNatClampNeg = o := by rw [h, nI_clamp (by omega)]
  rw [e]
  exact ⟨h, ho⟩
theorem Rl_0 : Rl c_init h_init (gu_at k192) gv_init := by
  refine ⟨⟨0, rfl⟩, ?_, ⟨0, Nat.zero_le _, rfl⟩, ?_, rfl, rfl, rfl, rfl⟩
  · refine ⟨⟨⟨rfl, Nat.zero_le _⟩, ⟨rfl, Nat.zero_le _⟩, ⟨rfl, Nat.zero_le _⟩⟩, ⟨fun r hr => absurd hr (Nat.not_lt_zero r), fun r hr => absurd hr (Nat.not_lt_zero r), fun r hr => absurd hr (Nat.not_lt_zero r)⟩, ⟨fun r hr => absurd hr (Nat.not_lt_zero r), fun r hr => absurd hr (Nat.not_lt_zero r), fun j => ?_, fun r => ?_⟩, fun r hr => absurd hr (Nat.not_lt_zero r), fun r hr => absurd hr (Nat.not_lt_zero r), fun r hr => rfl, fun r hr => rfl⟩
    · show 0 ≤ (0 : Int32).toInt ∧ (0 : Int32).toInt ≤ 100
      decide
    · show 0 ≤ (0 : Int32).toInt ∧ 0 ≤ (0 : Int32).toInt
      decide
  · exact ⟨rfl, fun r hr => rfl, fun _ => ⟨⟨fun r hr => rfl, fun r hr => rfl, fun r hr => rfl, fun r hr => rfl, rfl, rfl, fun r hr => by show 0 ≤ (0 : Int64).toInt; decide⟩, rfl⟩⟩
theorem kgt {n i : Nat} (hn : n ≤ 2560) (hi : i ≤ n) : (nI n - 5 < nI i ↔ n < i + 5) := by
  rw [Int32.lt_iff_toInt_lt, show (5 : Int32) = nI 5 from rfl, pk_sub_toInt (by omega) (by decide), nI_toInt (by omega)]
  omega
theorem knx (j : Nat) : nI (5 * j) + 5 = nI (5 * (j + 1)) := by
  rw [show (5 : Int32) = nI 5 from rfl, nI_add, Nat.mul_succ]
set_option maxRecDepth 100000 in
set_option maxHeartbeats 4000000 in
theorem law_loop {l : Launch} {p : Program} {e : Env} {s : State} {m : MethodId} {below : List Frame} {meth : Method} {c0 : Code} {D : va_G} (k : Nat → ClassId) (ah : Nat → Nat) (ar : Nat → Nat → Nat) (ac ax am : Nat → Nat) (a ao b n : Nat) (xs : Nat → Int32) (hl9 : l.stackTraces = false) (C : kC p s m #[Value.ref b] c0 code "RoomHoursLaw" kT D kcl (kty k) (fun q : Nat => s.heap.size ≤ q) 8) (hr : meth.sig.returnType = ret) (hlocks : meth.locks = false) (hE : kE s) (hZ : kZ (fun q : Nat => s.heap.size ≤ q) s s.heap) (hN : kN9 s) (hX : va_X b n xs s s.heap) (hbs : b < s.heap.size) (hn : n ≤ 2560) : ∀ (n9 j : Nat) (c t : CS) (h : HS) (gu : MU) (gv : MV) (f : Nat → Int64), 5 * j ≤ n → n < 5 * j + n9 → Rl c h gu gv → kW p l e room_1 s m #[Value.ref b] below meth c0 D kcl (fun q : Nat => s.heap.size ≤ q) 8 (100 + j) (2000 + 6 * j) (lw_Z below #[Value.ref b] s) 23 [(4, .int (nI (5 * j))), (0, .ref b), (1, .ref a), (2, .ref (am 0)), (3, .ref ao)] [] ((wR k ah ar ac ax a c t h ++ [(ao, .inl (k 1, 1, .inr (.inl f)))]) ++ wM k am gu gv) := by
  have hbA : ¬ (fun q : Nat => s.heap.size ≤ q) b := Nat.not_le.mpr hbs
  intro n9
  induction n9 with
  | zero => exact fun j c t h gu gv f h1 h2 => absurd h2 (by omega)
  | succ n9 ih =>
    intro j c t h gu gv f hj hjn hR
    obtain ⟨hI, hIm, o, ho, ho5, hom⟩ := Rl_use hR
    have ho9 := kcl_o ho ho5
    have hom9 := kcl_o hom ho5
    refine kw_iload C 0 dL_law_23 rfl ?_
    refine kw_aload_n C 1 dL_law_25 rfl rfl ?_
    refine kw_slen C hX hbs hbA dL_law_26 ?_
    refine kw_iconst (v := 5) C dL_law_27 (by decide) ?_
    refine kw_isub C dL_law_28 ?_
    refine kw_icmp_gt (tgt := 1116) C dL_law_29 (by decide) (fun c_1 => ?_) (fun c_1 => ?_)
    · refine kw_iconst (v := 1) C dL_law_1116 (by decide) ?_
      intro H locs ls hP hD hS hl
      refine va_forget (fun q hq => hS.2.2 q hq) ?_
      refine W.widen (k := 601024) (n := 7293034) (by omega) (by omega) ?_
      exact lw_ret C.1.1 C.1.2.1 hr hlocks dL_law_1117
    · have hi : 5 * j + 5 ≤ n := by
        have hq : ¬ n < 5 * j + 5 := fun z => c_1 ((kgt hn (by omega)).mpr z)
        omega
      have tail : ∀ (c t : CS) (h : HS) (gu : MU) (gv : MV) (f : Nat → Int64), Rl c h gu gv → kW p l e room_1 s m #[Value.ref b] below meth c0 D kcl (fun q : Nat => s.heap.size ≤ q) 8 (100 + j + 1) (2000 + 6 * j + 6) (lw_Z below #[Value.ref b] s) 1110 [(4, .int (nI (5 * j))), (0, .ref b), (1, .ref a), (2, .ref (am 0)), (3, .ref ao)] [] ((wR k ah ar ac ax a c t h ++ [(ao, .inl (k 1, 1, .inr (.inl f)))]) ++ wM k am gu gv) := by
        intro c t h gu gv f hR
        refine kw_iinc (v := nI (5 * j) + 5) (lv' := [(4, .int (nI (5 * j) + 5)), (0, .ref b), (1, .ref a), (2, .ref (am 0)), (3, .ref ao)]) C 0 dL_law_1110 rfl rfl (by decide) rfl ?_
        refine kw_goto (tgt := 23) C dL_law_1113 (by decide) ?_
        refine kw_eq (lv' := [(4, .int (nI (5 * (j + 1)))), (0, .ref b), (1, .ref a), (2, .ref (am 0)), (3, .ref ao)]) (by rw [knx]) rfl rfl ?_
        exact ih (j + 1) c t h gu gv f (by omega) (by omega) hR
      refine kw_aload_n C 1 dL_law_32 rfl rfl ?_
      refine kw_iload C 0 dL_law_33 rfl ?_
      refine kw_sld C hX hbs hbA (kix_nI (j := 5 * j) (by omega) (by omega)) dL_law_35 ?_
      refine kw_bipush (v := 15) C dL_law_36 (by decide) ?_
      refine kw_iand C dL_law_38 ?_
      generalize xs (5 * j) &&& 15 = w
      refine kw_by (w = 0) (fun c10 => ?_) (fun c10 => ?_)
      · refine kw_tableIn (off := 69) (tgt := 108) C dL_law_39 (by rw [c10]; decide) (by rw [c10]; decide) (by rw [c10]; rfl) (by decide) ?_
        have P := p_room (t := t) (f := f) (xs (5 * j + 1)) (xs (5 * j + 2)) hR
        refine lL_room k ah ar ac ax am a ao b n (5 * j) xs c t h gu gv f (xs (5 * j + 1)) (xs (5 * j + 2)) rfl rfl hl9 C hE hZ hN hX hbs hbA hn hi (by omega) (by omega) hI hIm P.1 P.2.1 ?_
        exact tail _ _ _ _ _ _ P.2.2
      refine kw_by (w = 1) (fun c11 => ?_) (fun c11 => ?_)
      · refine kw_tableIn (off := 137) (tgt := 176) C dL_law_39 (by rw [c11]; decide) (by rw [c11]; decide) (by rw [c11]; rfl) (by decide) ?_
        have P := p_wall (t := t) (f := f) (xs (5 * j + 1)) (xs (5 * j + 2)) (xs (5 * j + 3)) hR
        refine lL_wall k ah ar ac ax am a ao b n (5 * j) xs c t h gu gv f (xs (5 * j + 1)) (xs (5 * j + 2)) (xs (5 * j + 3)) rfl rfl rfl hl9 C hE hZ hN hX hbs hbA hn hi (by omega) (by omega) hI hIm P.1 P.2.1 ?_
        exact tail _ _ _ _ _ _ P.2.2
      refine kw_by (w = 2) (fun c12 => ?_) (fun c12 => ?_)
      · refine kw_tableIn (off := 217) (tgt := 256) C dL_law_39 (by rw [c12]; decide) (by rw [c12]; decide) (by rw [c12]; rfl) (by decide) ?_
        have P := p_leads (t := t) (f := f) (xs (5 * j + 1)) (xs (5 * j + 2)) hR
        refine lL_leads k ah ar ac ax am a ao b n (5 * j) xs c t h gu gv f (xs (5 * j + 1)) (xs (5 * j + 2)) rfl rfl hl9 C hE hZ hN hX hbs hbA hn hi (by omega) (by omega) hI hIm P.1 P.2.1 ?_
        exact tail _ _ _ _ _ _ P.2.2
      refine kw_by (w = 3) (fun c13 => ?_) (fun c13 => ?_)
      · refine kw_tableIn (off := 285) (tgt := 324) C dL_law_39 (by rw [c13]; decide) (by rw [c13]; decide) (by rw [c13]; rfl) (by decide) ?_
        have P := p_window (t := t) (f := f) (xs (5 * j + 1)) (xs (5 * j + 2)) (xs (5 * j + 3)) (xs (5 * j + 4)) hR
        refine lL_window k ah ar ac ax am a ao b n (5 * j) xs c t h gu gv f (xs (5 * j + 1)) (xs (5 * j + 2)) (xs (5 * j + 3)) (xs (5 * j + 4)) rfl rfl rfl rfl hl9 C hE hZ hN hX hbs hbA hn hi (by omega) (by omega) hI hIm P.1 P.2.1 ?_
        exact tail _ _ _ _ _ _ P.2.2
      refine kw_by (w = 4) (fun c14 => ?_) (fun c14 => ?_)
      · refine kw_tableIn (off := 377) (tgt := 416) C dL_law_39 (by rw [c14]; decide) (by rw [c14]; decide) (by rw [c14]; rfl) (by decide) ?_
        have P := p_outside (t := t) (f := f) (xs (5 * j + 1)) (xs (5 * j + 2)) hR
        refine lL_outside k ah ar ac ax am a ao b n (5 * j) xs c t h gu gv f (xs (5 * j + 1)) (xs (5 * j + 2)) rfl rfl hl9 C hE hZ hN hX hbs hbA hn hi (by omega) (by omega)  hIm P.1 P.2.1 ?_
        exact tail _ _ _ _ _ _ P.2.2
      refine kw_by (w = 5) (fun c15 => ?_) (fun c15 => ?_)
      · refine kw_tableIn (off := 445) (tgt := 484) C dL_law_39 (by rw [c15]; decide) (by rw [c15]; decide) (by rw [c15]; rfl) (by decide) ?_
        have P := p_sun (t := t) (f := f) (xs (5 * j + 1)) (xs (5 * j + 2)) (xs (5 * j + 3)) hR
        refine lL_sun k ah ar ac ax am a ao b n (5 * j) xs c t h gu gv f (xs (5 * j + 1)) (xs (5 * j + 2)) (xs (5 * j + 3)) rfl rfl rfl hl9 C hE hZ hN hX hbs hbA hn hi (by omega) (by omega)  hIm P.1 P.2.1 ?_
        exact tail _ _ _ _ _ _ P.2.2
      refine kw_by (w = 6) (fun c16 => ?_) (fun c16 => ?_)
      · refine kw_tableIn (off := 525) (tgt := 564) C dL_law_39 (by rw [c16]; decide) (by rw [c16]; decide) (by rw [c16]; rfl) (by decide) ?_
        have P := p_plan (t := t) (f := f) (xs (5 * j + 1)) (xs (5 * j + 2)) (xs (5 * j + 3)) (xs (5 * j + 4)) hR
        refine lL_plan k ah ar ac ax am a ao b n (5 * j) xs c t h gu gv f (xs (5 * j + 1)) (xs (5 * j + 2)) (xs (5 * j + 3)) (xs (5 * j + 4)) rfl rfl rfl rfl hl9 C hE hZ hN hX hbs hbA hn hi (by omega) (by omega) hI hIm P.1 P.2.1 ?_
        exact tail _ _ _ _ _ _ P.2.2
      refine kw_by (w = 7) (fun c17 => ?_) (fun c17 => ?_)
      · refine kw_tableIn (off := 617) (tgt := 656) C dL_law_39 (by rw [c17]; decide) (by rw [c17]; decide) (by rw [c17]; rfl) (by decide) ?_
        have P := p_most (t := t) (f := f) (xs (5 * j + 1)) (xs (5 * j + 2)) (xs (5 * j + 3)) hR
        refine lL_most k ah ar ac ax am a ao b n (5 * j) xs c t h gu gv f (xs (5 * j + 1)) (xs (5 * j + 2)) (xs (5 * j + 3)) rfl rfl rfl hl9 C hE hZ hN hX hbs hbA hn hi (by omega) (by omega) hI hIm P.1 P.2.1 ?_
        exact tail _ _ _ _ _ _ P.2.2
      refine kw_by (w = 8) (fun c18 => ?_) (fun c18 => ?_)
      · refine kw_tableIn (off := 697) (tgt := 736) C dL_law_39 (by rw [c18]; decide) (by rw [c18]; decide) (by rw [c18]; rfl) (by decide) ?_
        have P := p_ease (t := t) (xs (5 * j + 1)) (xs (5 * j + 2)) hR
        refine lL_ease k ah ar ac ax am a ao b n (5 * j) xs c t h gu gv f (xs (5 * j + 1)) (xs (5 * j + 2)) rfl rfl hl9 C hE hZ hN hX hbs hbA hn hi (by omega) (by omega)   P.1 ?_
        exact tail _ _ _ _ _ _ P.2
      refine kw_by (w = 9) (fun c19 => ?_) (fun c19 => ?_)
      · refine kw_tableIn (off := 745) (tgt := 784) C dL_law_39 (by rw [c19]; decide) (by rw [c19]; decide) (by rw [c19]; rfl) (by decide) ?_
        have P := p_run (t := t) (f := f) (xs (5 * j + 1)) hR
        refine lL_run k ah ar ac ax am a ao b n (5 * j) xs c t h gu gv f (xs (5 * j + 1)) rfl hl9 C hE hZ hN hX hbs hbA hn hi (by omega) (by omega) hI o ho ho5 hIm o hom ho5 P.1 P.2.1 ?_
        exact tail _ _ _ _ _ _ P.2.2
      refine kw_by (w = 10) (fun c20 => ?_) (fun c20 => ?_)
      · refine kw_tableIn (off := 801) (tgt := 840) C dL_law_39 (by rw [c20]; decide) (by rw [c20]; decide) (by rw [c20]; rfl) (by decide) ?_
        have P := p_told (t := t) (f := f) (xs (5 * j + 1)) (xs (5 * j + 2)) hR
        refine lL_told k ah ar ac ax am a ao b n (5 * j) xs c t h gu gv f (xs (5 * j + 1)) (xs (5 * j + 2)) rfl rfl hl9 C hE hZ hN hX hbs hbA hn hi (by omega) (by omega) hI hIm P.1 P.2.1 ?_
        exact tail _ _ _ _ _ _ P.2.2
      refine kw_by (w = 11) (fun c21 => ?_) (fun c21 => ?_)
      · refine kw_tableIn (off := 868) (tgt := 907) C dL_law_39 (by rw [c21]; decide) (by rw [c21]; decide) (by rw [c21]; rfl) (by decide) ?_
        have P := p_balance (t := t) (f := f) (xs (5 * j + 1)) hR
        refine lL_balance k ah ar ac ax am a ao b n (5 * j) xs c t h gu gv f (xs (5 * j + 1)) rfl hl9 C hE hZ hN hX hbs hbA hn hi (by omega) (by omega) hI hIm P.1 P.2.1 ?_
        exact tail _ _ _ _ _ _ P.2.2
      refine kw_by (w = 12) (fun c22 => ?_) (fun c22 => ?_)
      · refine kw_tableIn (off := 923) (tgt := 962) C dL_law_39 (by rw [c22]; decide) (by rw [c22]; decide) (by rw [c22]; rfl) (by decide) ?_
        have P := p_early (t := t) (f := f) (xs (5 * j + 1)) (xs (5 * j + 2)) (xs (5 * j + 3)) hR
        refine lL_early k ah ar ac ax am a ao b n (5 * j) xs c t h gu gv f (xs (5 * j + 1)) (xs (5 * j + 2)) (xs (5 * j + 3)) rfl rfl rfl hl9 C hE hZ hN hX hbs hbA hn hi (by omega) (by omega) hI (early_prem (h := h) ho ho5 (xs (5 * j + 2))).1 (early_prem (h := h) ho ho5 (xs (5 * j + 2))).2.1 (early_prem (h := h) ho ho5 (xs (5 * j + 2))).2.2.1 (early_prem (h := h) ho ho5 (xs (5 * j + 2))).2.2.2 hIm hom9.1 hom9.2 P.1 P.2.1 ?_
        exact tail _ _ _ _ _ _ P.2.2
      refine kw_by (w = 13) (fun c23 => ?_) (fun c23 => ?_)
      · refine kw_tableIn (off := 1003) (tgt := 1042) C dL_law_39 (by rw [c23]; decide) (by rw [c23]; decide) (by rw [c23]; rfl) (by decide) ?_
        have P := p_strong (t := t) (f := f) (xs (5 * j + 1)) (xs (5 * j + 2)) hR
        refine lL_strong k ah ar ac ax am a ao b n (5 * j) xs c t h gu gv f (xs (5 * j + 1)) (xs (5 * j + 2)) rfl rfl hl9 C hE hZ hN hX hbs hbA hn hi (by omega) (by omega) hI o ho ho5 hIm hom9.1 hom9.2 P.1 P.2.1 ?_
        exact tail _ _ _ _ _ _ P.2.2
      refine kw_tableOut (tgt := 1110) C dL_law_39 (by have := kne (n := 0) c10; have := kne (n := 1) c11; have := kne (n := 2) c12; have := kne (n := 3) c13; have := kne (n := 4) c14; have := kne (n := 5) c15; have := kne (n := 6) c16; have := kne (n := 7) c17; have := kne (n := 8) c18; have := kne (n := 9) c19; have := kne (n := 10) c20; have := kne (n := 11) c21; have := kne (n := 12) c22; have := kne (n := 13) c23; omega) (by decide) ?_
      exact kw_widen (by omega) (by omega) (tail _ _ _ _ _ _ hR)
