theorem eR_room {c t : CS} {h : HS} {p0 p1 : Int32} {E : String} (hE : oR_room c t h p0 p1 = .inl E) : E = "java/lang/IllegalArgumentException" ∨ E = "java/lang/IllegalStateException" := by
  unfold oR_room at hE
  (repeat' split at hE) <;> first | exact Or.inl (Sum.inl.inj hE).symm | exact Or.inr (Sum.inl.inj hE).symm | cases hE
theorem nR_room_c {c t : CS} {h : HS} {p0 p1 : Int32} {E : String} (hE : oR_room c t h p0 p1 = .inl E) : scR_room c t h p0 p1 = c := by
  unfold oR_room at hE
  unfold scR_room
  (repeat' split at hE) <;> first | (cases hE; done) | (simp only [*, if_true, if_false, not_true, not_false_eq_true]; done) | simp_all
theorem nR_room_h {c t : CS} {h : HS} {p0 p1 : Int32} {E : String} (hE : oR_room c t h p0 p1 = .inl E) : shR_room c t h p0 p1 = h := by
  unfold oR_room at hE
  unfold shR_room
  (repeat' split at hE) <;> first | (cases hE; done) | (simp only [*, if_true, if_false, not_true, not_false_eq_true]; done) | simp_all
set_option maxRecDepth 100000 in
set_option maxHeartbeats 4000000 in
theorem cL_room (l : Launch) (D : va_G) (k : Nat → ClassId) (ah : Nat → Nat) (ar : Nat → Nat → Nat) (ac ax : Nat → Nat) (a ao : Nat) (c t : CS) (h : HS) (f : Nat → Int64) (p0 p1 : Int32) (hl9 : l.stackTraces = false) (hI : kInv h) : kHi l yL_room (kwh yL_room bL_room 5 (some .int) [(0, 10, 13, 13), (0, 10, 17, 15)]) ({ frames := 7, cells := 1, slots := 6, locals := 105 }) D kcl (kty k) (wR k ah ar ac ax a c t h ++ [(ao, .inl (k 1, 1, .inr (.inl f)))]) (wR k ah ar ac ax a (scR_room c t h p0 p1) t (shR_room c t h p0 p1) ++ [(ao, .inl (k 1, 1, .inr (.inl (kout (oR_room c t h p0 p1) (rR_room c t h p0 p1).toInt64 f))))]) [.ref a, .int p0, .int p1, .ref ao] (kcode (oR_room c t h p0 p1)) := by
  refine k_entry_h (lv0 := [(0, .ref a), (1, .int p0), (2, .int p1), (3, .ref ao)]) rfl (by decide +kernel) (Nat.le_of_ble_eq_true rfl) rfl ?_
  intro p e s m args below meth c0 C hr hlocks hEx hE hZ hN
  refine kw_aload_n C 3 dL_room_0 rfl rfl ?_
  refine kw_iconst (v := 0) C dL_room_1 (by decide) ?_
  refine kw_aload_n C 0 dL_room_2 rfl rfl ?_
  refine kw_iload_n C 1 dL_room_3 rfl rfl ?_
  refine kw_iload_n C 2 dL_room_4 rfl rfl ?_
  refine kw_callXi (w1 := wR k ah ar ac ax a (scR_room c t h p0 p1) t (shR_room c t h p0 p1)) (wr := [(ao, .inl (k 1, 1, .inr (.inl f)))]) (st := [.int 0, .ref ao]) C hE hZ (cR_room l D k ah ar ac ax a c t h p0 p1 hl9 hI) (cwV 2 C.1.2.2.2.2 (kgV kt_204 kt_205 kt_206 kt_1 kt_207) rfl rfl rfl kdR_room ⟨Nat.le_of_ble_eq_true rfl, Nat.le_of_ble_eq_true rfl⟩) 0 2 rfl rfl rfl rfl rfl (Nat.le_of_ble_eq_true rfl) dL_room_5 ⟨Nat.le_of_ble_eq_true rfl, Nat.le_of_ble_eq_true rfl⟩ (ad_wR.trans ad_wR.symm) (fun E hro => ?_) (fun hro => ?_)
  · have hE9 := eR_room hro
    rcases hE9 with rfl | rfl
    · refine ⟨"java/lang/IllegalArgumentException", [], ⟨0, 10, 13, 13⟩, [⟨0, 10, 17, 15⟩], hEx, fun z hz => absurd hz List.not_mem_nil, by decide, by decide, C.1.2.2.2.2 _ kt_202, va_Nw.use rfl hE.1.1, ?_⟩
      intro q
      refine kw_astore (lv' := [(4, .ref q), (0, .ref a), (1, .int p0), (2, .int p1), (3, .ref ao)]) C dL_room_13 (by decide) rfl ?_
      refine kw_iconst (v := 1) C dL_room_15 (by decide) ?_
      refine kw_eq rfl rfl (show (wR k ah ar ac ax a c t h ++ [(ao, .inl (k 1, 1, .inr (.inl f)))]) = (wR k ah ar ac ax a (scR_room c t h p0 p1) t (shR_room c t h p0 p1) ++ [(ao, .inl (k 1, 1, .inr (.inl (kout (oR_room c t h p0 p1) (rR_room c t h p0 p1).toInt64 f))))]) from by rw [nR_room_c hro, nR_room_h hro, hro]; rfl) ?_
      exact kh_iret C hr hlocks (by rw [hro]; rfl) dL_room_16
    · refine ⟨"java/lang/IllegalStateException", [⟨0, 10, 13, 13⟩], ⟨0, 10, 17, 15⟩, [], hEx, fun z hz => Or.inr (by rw [List.mem_singleton.mp hz]; exact ⟨by decide, "java/lang/IllegalArgumentException", C.1.2.2.2.2 _ kt_202, hN⟩), by decide, by decide, C.1.2.2.2.2 _ kt_203, va_Nw.use rfl hE.1.2, ?_⟩
      intro q
      refine kw_astore (lv' := [(4, .ref q), (0, .ref a), (1, .int p0), (2, .int p1), (3, .ref ao)]) C dL_room_17 (by decide) rfl ?_
      refine kw_iconst (v := 2) C dL_room_19 (by decide) ?_
      refine kw_eq rfl rfl (show (wR k ah ar ac ax a c t h ++ [(ao, .inl (k 1, 1, .inr (.inl f)))]) = (wR k ah ar ac ax a (scR_room c t h p0 p1) t (shR_room c t h p0 p1) ++ [(ao, .inl (k 1, 1, .inr (.inl (kout (oR_room c t h p0 p1) (rR_room c t h p0 p1).toInt64 f))))]) from by rw [nR_room_c hro, nR_room_h hro, hro]; rfl) ?_
      exact kh_iret C hr hlocks (by rw [hro]; rfl) dL_room_20
  · skip
    refine kw_i2l C dL_room_8 ?_
    refine kw_last C 38 1 rfl rfl (show kix 0 1 0 from ⟨by unfold vp_in; decide, by decide⟩) dL_room_9 (wR k ah ar ac ax a (scR_room c t h p0 p1) t (shR_room c t h p0 p1) ++ [(ao, .inl (k 1, 1, .inr (.inl (vp_updL f 0 (rR_room c t h p0 p1).toInt64))))]) rfl ?_
    refine kw_goto (tgt := 21) C dL_room_10 (by decide) ?_
    refine kw_iconst (v := 0) C dL_room_21 (by decide) ?_
    refine kw_eq (ws' := (wR k ah ar ac ax a (scR_room c t h p0 p1) t (shR_room c t h p0 p1) ++ [(ao, .inl (k 1, 1, .inr (.inl (kout (oR_room c t h p0 p1) (rR_room c t h p0 p1).toInt64 f))))])) rfl rfl (by rw [hro]; rfl) ?_
    exact kh_iret C hr hlocks (by rw [hro]; rfl) dL_room_22
theorem eR_wall {c t : CS} {h : HS} {p0 p1 p2 : Int32} {E : String} (hE : oR_wall c t h p0 p1 p2 = .inl E) : E = "java/lang/IllegalArgumentException" ∨ E = "java/lang/IllegalStateException" := by
  unfold oR_wall at hE
  (repeat' split at hE) <;> first | exact Or.inl (Sum.inl.inj hE).symm | exact Or.inr (Sum.inl.inj hE).symm | cases hE
theorem nR_wall_h {c t : CS} {h : HS} {p0 p1 p2 : Int32} {E : String} (hE : oR_wall c t h p0 p1 p2 = .inl E) : shR_wall c t h p0 p1 p2 = h := by
  unfold oR_wall at hE
  unfold shR_wall
  (repeat' split at hE) <;> first | (cases hE; done) | (simp only [*, if_true, if_false, not_true, not_false_eq_true]; done) | simp_all
set_option maxRecDepth 100000 in
set_option maxHeartbeats 4000000 in
theorem cL_wall (l : Launch) (D : va_G) (k : Nat → ClassId) (ah : Nat → Nat) (ar : Nat → Nat → Nat) (ac ax : Nat → Nat) (a ao : Nat) (c t : CS) (h : HS) (f : Nat → Int64) (p0 p1 p2 : Int32) (hl9 : l.stackTraces = false) (hI : kInv h) : kHi l yL_wall (kwh yL_wall bL_wall 6 (some .int) [(0, 12, 15, 13), (0, 12, 19, 15)]) ({ frames := 7, cells := 1, slots := 6, locals := 105 }) D kcl (kty k) (wR k ah ar ac ax a c t h ++ [(ao, .inl (k 1, 1, .inr (.inl f)))]) (wR k ah ar ac ax a c t (shR_wall c t h p0 p1 p2) ++ [(ao, .inl (k 1, 1, .inr (.inl (kout (oR_wall c t h p0 p1 p2) (rR_wall c t h p0 p1 p2).toInt64 f))))]) [.ref a, .int p0, .int p1, .int p2, .ref ao] (kcode (oR_wall c t h p0 p1 p2)) := by
  refine k_entry_h (lv0 := [(0, .ref a), (1, .int p0), (2, .int p1), (3, .int p2), (4, .ref ao)]) rfl (by decide +kernel) (Nat.le_of_ble_eq_true rfl) rfl ?_
  intro p e s m args below meth c0 C hr hlocks hEx hE hZ hN
  refine kw_aload C 4 dL_wall_0 rfl ?_
  refine kw_iconst (v := 0) C dL_wall_2 (by decide) ?_
  refine kw_aload_n C 0 dL_wall_3 rfl rfl ?_
  refine kw_iload_n C 1 dL_wall_4 rfl rfl ?_
  refine kw_iload_n C 2 dL_wall_5 rfl rfl ?_
  refine kw_iload_n C 3 dL_wall_6 rfl rfl ?_
  refine kw_callXi (w1 := wR k ah ar ac ax a c t (shR_wall c t h p0 p1 p2)) (wr := [(ao, .inl (k 1, 1, .inr (.inl f)))]) (st := [.int 0, .ref ao]) C hE hZ (cR_wall l D k ah ar ac ax a c t h p0 p1 p2 hl9 hI) (cwV 3 C.1.2.2.2.2 (kgV kt_308 kt_309 kt_310 kt_1 kt_311) rfl rfl rfl kdR_wall ⟨Nat.le_of_ble_eq_true rfl, Nat.le_of_ble_eq_true rfl⟩) 0 2 rfl rfl rfl rfl rfl (Nat.le_of_ble_eq_true rfl) dL_wall_7 ⟨Nat.le_of_ble_eq_true rfl, Nat.le_of_ble_eq_true rfl⟩ (ad_wR.trans ad_wR.symm) (fun E hro => ?_) (fun hro => ?_)
  · have hE9 := eR_wall hro
    rcases hE9 with rfl | rfl
    · refine ⟨"java/lang/IllegalArgumentException", [], ⟨0, 12, 15, 13⟩, [⟨0, 12, 19, 15⟩], hEx, fun z hz => absurd hz List.not_mem_nil, by decide, by decide, C.1.2.2.2.2 _ kt_202, va_Nw.use rfl hE.1.1, ?_⟩
      intro q
      refine kw_astore (lv' := [(5, .ref q), (0, .ref a), (1, .int p0), (2, .int p1), (3, .int p2), (4, .ref ao)]) C dL_wall_15 (by decide) rfl ?_
      refine kw_iconst (v := 1) C dL_wall_17 (by decide) ?_
      refine kw_eq rfl rfl (show (wR k ah ar ac ax a c t h ++ [(ao, .inl (k 1, 1, .inr (.inl f)))]) = (wR k ah ar ac ax a c t (shR_wall c t h p0 p1 p2) ++ [(ao, .inl (k 1, 1, .inr (.inl (kout (oR_wall c t h p0 p1 p2) (rR_wall c t h p0 p1 p2).toInt64 f))))]) from by rw [nR_wall_h hro, hro]; rfl) ?_
      exact kh_iret C hr hlocks (by rw [hro]; rfl) dL_wall_18
    · refine ⟨"java/lang/IllegalStateException", [⟨0, 12, 15, 13⟩], ⟨0, 12, 19, 15⟩, [], hEx, fun z hz => Or.inr (by rw [List.mem_singleton.mp hz]; exact ⟨by decide, "java/lang/IllegalArgumentException", C.1.2.2.2.2 _ kt_202, hN⟩), by decide, by decide, C.1.2.2.2.2 _ kt_203, va_Nw.use rfl hE.1.2, ?_⟩
      intro q
      refine kw_astore (lv' := [(5, .ref q), (0, .ref a), (1, .int p0), (2, .int p1), (3, .int p2), (4, .ref ao)]) C dL_wall_19 (by decide) rfl ?_
      refine kw_iconst (v := 2) C dL_wall_21 (by decide) ?_
      refine kw_eq rfl rfl (show (wR k ah ar ac ax a c t h ++ [(ao, .inl (k 1, 1, .inr (.inl f)))]) = (wR k ah ar ac ax a c t (shR_wall c t h p0 p1 p2) ++ [(ao, .inl (k 1, 1, .inr (.inl (kout (oR_wall c t h p0 p1 p2) (rR_wall c t h p0 p1 p2).toInt64 f))))]) from by rw [nR_wall_h hro, hro]; rfl) ?_
      exact kh_iret C hr hlocks (by rw [hro]; rfl) dL_wall_22
  · skip
    refine kw_i2l C dL_wall_10 ?_
    refine kw_last C 38 1 rfl rfl (show kix 0 1 0 from ⟨by unfold vp_in; decide, by decide⟩) dL_wall_11 (wR k ah ar ac ax a c t (shR_wall c t h p0 p1 p2) ++ [(ao, .inl (k 1, 1, .inr (.inl (vp_updL f 0 (rR_wall c t h p0 p1 p2).toInt64))))]) rfl ?_
    refine kw_goto (tgt := 23) C dL_wall_12 (by decide) ?_
    refine kw_iconst (v := 0) C dL_wall_23 (by decide) ?_
    refine kw_eq (ws' := (wR k ah ar ac ax a c t (shR_wall c t h p0 p1 p2) ++ [(ao, .inl (k 1, 1, .inr (.inl (kout (oR_wall c t h p0 p1 p2) (rR_wall c t h p0 p1 p2).toInt64 f))))])) rfl rfl (by rw [hro]; rfl) ?_
    exact kh_iret C hr hlocks (by rw [hro]; rfl) dL_wall_24
theorem eR_leads {c t : CS} {h : HS} {p0 p1 : Int32} {E : String} (hE : oR_leads c t h p0 p1 = .inl E) : E = "java/lang/IllegalArgumentException" ∨ E = "java/lang/IllegalStateException" := by
  unfold oR_leads at hE
  (repeat' split at hE) <;> first | exact Or.inl (Sum.inl.inj hE).symm | exact Or.inr (Sum.inl.inj hE).symm | cases hE
theorem nR_leads_h {c t : CS} {h : HS} {p0 p1 : Int32} {E : String} (hE : oR_leads c t h p0 p1 = .inl E) : shR_leads c t h p0 p1 = h := by
  unfold oR_leads at hE
  unfold shR_leads
  (repeat' split at hE) <;> first | (cases hE; done) | (simp only [*, if_true, if_false, not_true, not_false_eq_true]; done) | simp_all
set_option maxRecDepth 100000 in
set_option maxHeartbeats 4000000 in
theorem cL_leads (l : Launch) (D : va_G) (k : Nat → ClassId) (ah : Nat → Nat) (ar : Nat → Nat → Nat) (ac ax : Nat → Nat) (a ao : Nat) (c t : CS) (h : HS) (f : Nat → Int64) (p0 p1 : Int32) (hl9 : l.stackTraces = false) (hI : kInv h) : kHi l yL_leads (kwh yL_leads bL_leads 5 (some .int) [(0, 10, 13, 13), (0, 10, 17, 15)]) ({ frames := 7, cells := 1, slots := 6, locals := 106 }) D kcl (kty k) (wR k ah ar ac ax a c t h ++ [(ao, .inl (k 1, 1, .inr (.inl f)))]) (wR k ah ar ac ax a c t (shR_leads c t h p0 p1) ++ [(ao, .inl (k 1, 1, .inr (.inl (kout (oR_leads c t h p0 p1) (rR_leads c t h p0 p1).toInt64 f))))]) [.ref a, .int p0, .int p1, .ref ao] (kcode (oR_leads c t h p0 p1)) := by
  refine k_entry_h (lv0 := [(0, .ref a), (1, .int p0), (2, .int p1), (3, .ref ao)]) rfl (by decide +kernel) (Nat.le_of_ble_eq_true rfl) rfl ?_
  intro p e s m args below meth c0 C hr hlocks hEx hE hZ hN
  refine kw_aload_n C 3 dL_leads_0 rfl rfl ?_
  refine kw_iconst (v := 0) C dL_leads_1 (by decide) ?_
  refine kw_aload_n C 0 dL_leads_2 rfl rfl ?_
  refine kw_iload_n C 1 dL_leads_3 rfl rfl ?_
  refine kw_iload_n C 2 dL_leads_4 rfl rfl ?_
  refine kw_callXi (w1 := wR k ah ar ac ax a c t (shR_leads c t h p0 p1)) (wr := [(ao, .inl (k 1, 1, .inr (.inl f)))]) (st := [.int 0, .ref ao]) C hE hZ (cR_leads l D k ah ar ac ax a c t h p0 p1 hl9 hI) (cwV 2 C.1.2.2.2.2 (kgV kt_335 kt_336 kt_337 kt_1 kt_338) rfl rfl rfl kdR_leads ⟨Nat.le_of_ble_eq_true rfl, Nat.le_of_ble_eq_true rfl⟩) 0 2 rfl rfl rfl rfl rfl (Nat.le_of_ble_eq_true rfl) dL_leads_5 ⟨Nat.le_of_ble_eq_true rfl, Nat.le_of_ble_eq_true rfl⟩ (ad_wR.trans ad_wR.symm) (fun E hro => ?_) (fun hro => ?_)
  · have hE9 := eR_leads hro
    rcases hE9 with rfl | rfl
    · refine ⟨"java/lang/IllegalArgumentException", [], ⟨0, 10, 13, 13⟩, [⟨0, 10, 17, 15⟩], hEx, fun z hz => absurd hz List.not_mem_nil, by decide, by decide, C.1.2.2.2.2 _ kt_202, va_Nw.use rfl hE.1.1, ?_⟩
      intro q
      refine kw_astore (lv' := [(4, .ref q), (0, .ref a), (1, .int p0), (2, .int p1), (3, .ref ao)]) C dL_leads_13 (by decide) rfl ?_
      refine kw_iconst (v := 1) C dL_leads_15 (by decide) ?_
      refine kw_eq rfl rfl (show (wR k ah ar ac ax a c t h ++ [(ao, .inl (k 1, 1, .inr (.inl f)))]) = (wR k ah ar ac ax a c t (shR_leads c t h p0 p1) ++ [(ao, .inl (k 1, 1, .inr (.inl (kout (oR_leads c t h p0 p1) (rR_leads c t h p0 p1).toInt64 f))))]) from by rw [nR_leads_h hro, hro]; rfl) ?_
      exact kh_iret C hr hlocks (by rw [hro]; rfl) dL_leads_16
    · refine ⟨"java/lang/IllegalStateException", [⟨0, 10, 13, 13⟩], ⟨0, 10, 17, 15⟩, [], hEx, fun z hz => Or.inr (by rw [List.mem_singleton.mp hz]; exact ⟨by decide, "java/lang/IllegalArgumentException", C.1.2.2.2.2 _ kt_202, hN⟩), by decide, by decide, C.1.2.2.2.2 _ kt_203, va_Nw.use rfl hE.1.2, ?_⟩
      intro q
      refine kw_astore (lv' := [(4, .ref q), (0, .ref a), (1, .int p0), (2, .int p1), (3, .ref ao)]) C dL_leads_17 (by decide) rfl ?_
      refine kw_iconst (v := 2) C dL_leads_19 (by decide) ?_
      refine kw_eq rfl rfl (show (wR k ah ar ac ax a c t h ++ [(ao, .inl (k 1, 1, .inr (.inl f)))]) = (wR k ah ar ac ax a c t (shR_leads c t h p0 p1) ++ [(ao, .inl (k 1, 1, .inr (.inl (kout (oR_leads c t h p0 p1) (rR_leads c t h p0 p1).toInt64 f))))]) from by rw [nR_leads_h hro, hro]; rfl) ?_
      exact kh_iret C hr hlocks (by rw [hro]; rfl) dL_leads_20
  · skip
    refine kw_i2l C dL_leads_8 ?_
    refine kw_last C 38 1 rfl rfl (show kix 0 1 0 from ⟨by unfold vp_in; decide, by decide⟩) dL_leads_9 (wR k ah ar ac ax a c t (shR_leads c t h p0 p1) ++ [(ao, .inl (k 1, 1, .inr (.inl (vp_updL f 0 (rR_leads c t h p0 p1).toInt64))))]) rfl ?_
    refine kw_goto (tgt := 21) C dL_leads_10 (by decide) ?_
    refine kw_iconst (v := 0) C dL_leads_21 (by decide) ?_
    refine kw_eq (ws' := (wR k ah ar ac ax a c t (shR_leads c t h p0 p1) ++ [(ao, .inl (k 1, 1, .inr (.inl (kout (oR_leads c t h p0 p1) (rR_leads c t h p0 p1).toInt64 f))))])) rfl rfl (by rw [hro]; rfl) ?_
    exact kh_iret C hr hlocks (by rw [hro]; rfl) dL_leads_22
theorem eR_window {c t : CS} {h : HS} {p0 p1 p2 p3 : Int32} {E : String} (hE : oR_window c t h p0 p1 p2 p3 = .inl E) : E = "java/lang/IllegalArgumentException" ∨ E = "java/lang/IllegalStateException" := by
  unfold oR_window at hE
  (repeat' split at hE) <;> first | exact Or.inl (Sum.inl.inj hE).symm | exact Or.inr (Sum.inl.inj hE).symm | cases hE
theorem nR_window_h {c t : CS} {h : HS} {p0 p1 p2 p3 : Int32} {E : String} (hE : oR_window c t h p0 p1 p2 p3 = .inl E) : shR_window c t h p0 p1 p2 p3 = h := by
  unfold oR_window at hE
  unfold shR_window
  (repeat' split at hE) <;> first | (cases hE; done) | (simp only [*, if_true, if_false, not_true, not_false_eq_true]; done) | simp_all
set_option maxRecDepth 100000 in
set_option maxHeartbeats 4000000 in
theorem cL_window (l : Launch) (D : va_G) (k : Nat → ClassId) (ah : Nat → Nat) (ar : Nat → Nat → Nat) (ac ax : Nat → Nat) (a ao : Nat) (c t : CS) (h : HS) (f : Nat → Int64) (p0 p1 p2 p3 : Int32) (hl9 : l.stackTraces = false) (hI : kInv h) : kHi l yL_window (kwh yL_window bL_window 7 (some .int) [(0, 14, 17, 13), (0, 14, 21, 15)]) ({ frames := 7, cells := 1, slots := 6, locals := 106 }) D kcl (kty k) (wR k ah ar ac ax a c t h ++ [(ao, .inl (k 1, 1, .inr (.inl f)))]) (wR k ah ar ac ax a c t (shR_window c t h p0 p1 p2 p3) ++ [(ao, .inl (k 1, 1, .inr (.inl (kout (oR_window c t h p0 p1 p2 p3) (rR_window c t h p0 p1 p2 p3).toInt64 f))))]) [.ref a, .int p0, .int p1, .int p2, .int p3, .ref ao] (kcode (oR_window c t h p0 p1 p2 p3)) := by
  refine k_entry_h (lv0 := [(0, .ref a), (1, .int p0), (2, .int p1), (3, .int p2), (4, .int p3), (5, .ref ao)]) rfl (by decide +kernel) (Nat.le_of_ble_eq_true rfl) rfl ?_
  intro p e s m args below meth c0 C hr hlocks hEx hE hZ hN
  refine kw_aload C 5 dL_window_0 rfl ?_
  refine kw_iconst (v := 0) C dL_window_2 (by decide) ?_
  refine kw_aload_n C 0 dL_window_3 rfl rfl ?_
  refine kw_iload_n C 1 dL_window_4 rfl rfl ?_
  refine kw_iload_n C 2 dL_window_5 rfl rfl ?_
  refine kw_iload_n C 3 dL_window_6 rfl rfl ?_
  refine kw_iload C 4 dL_window_7 rfl ?_
  refine kw_callXi (w1 := wR k ah ar ac ax a c t (shR_window c t h p0 p1 p2 p3)) (wr := [(ao, .inl (k 1, 1, .inr (.inl f)))]) (st := [.int 0, .ref ao]) C hE hZ (cR_window l D k ah ar ac ax a c t h p0 p1 p2 p3 hl9 hI) (cwV 4 C.1.2.2.2.2 (kgV kt_345 kt_346 kt_347 kt_1 kt_348) rfl rfl rfl kdR_window ⟨Nat.le_of_ble_eq_true rfl, Nat.le_of_ble_eq_true rfl⟩) 0 2 rfl rfl rfl rfl rfl (Nat.le_of_ble_eq_true rfl) dL_window_9 ⟨Nat.le_of_ble_eq_true rfl, Nat.le_of_ble_eq_true rfl⟩ (ad_wR.trans ad_wR.symm) (fun E hro => ?_) (fun hro => ?_)
  · have hE9 := eR_window hro
    rcases hE9 with rfl | rfl
    · refine ⟨"java/lang/IllegalArgumentException", [], ⟨0, 14, 17, 13⟩, [⟨0, 14, 21, 15⟩], hEx, fun z hz => absurd hz List.not_mem_nil, by decide, by decide, C.1.2.2.2.2 _ kt_202, va_Nw.use rfl hE.1.1, ?_⟩
      intro q
      refine kw_astore (lv' := [(6, .ref q), (0, .ref a), (1, .int p0), (2, .int p1), (3, .int p2), (4, .int p3), (5, .ref ao)]) C dL_window_17 (by decide) rfl ?_
      refine kw_iconst (v := 1) C dL_window_19 (by decide) ?_
      refine kw_eq rfl rfl (show (wR k ah ar ac ax a c t h ++ [(ao, .inl (k 1, 1, .inr (.inl f)))]) = (wR k ah ar ac ax a c t (shR_window c t h p0 p1 p2 p3) ++ [(ao, .inl (k 1, 1, .inr (.inl (kout (oR_window c t h p0 p1 p2 p3) (rR_window c t h p0 p1 p2 p3).toInt64 f))))]) from by rw [nR_window_h hro, hro]; rfl) ?_
      exact kh_iret C hr hlocks (by rw [hro]; rfl) dL_window_20
    · refine ⟨"java/lang/IllegalStateException", [⟨0, 14, 17, 13⟩], ⟨0, 14, 21, 15⟩, [], hEx, fun z hz => Or.inr (by rw [List.mem_singleton.mp hz]; exact ⟨by decide, "java/lang/IllegalArgumentException", C.1.2.2.2.2 _ kt_202, hN⟩), by decide, by decide, C.1.2.2.2.2 _ kt_203, va_Nw.use rfl hE.1.2, ?_⟩
      intro q
      refine kw_astore (lv' := [(6, .ref q), (0, .ref a), (1, .int p0), (2, .int p1), (3, .int p2), (4, .int p3), (5, .ref ao)]) C dL_window_21 (by decide) rfl ?_
      refine kw_iconst (v := 2) C dL_window_23 (by decide) ?_
      refine kw_eq rfl rfl (show (wR k ah ar ac ax a c t h ++ [(ao, .inl (k 1, 1, .inr (.inl f)))]) = (wR k ah ar ac ax a c t (shR_window c t h p0 p1 p2 p3) ++ [(ao, .inl (k 1, 1, .inr (.inl (kout (oR_window c t h p0 p1 p2 p3) (rR_window c t h p0 p1 p2 p3).toInt64 f))))]) from by rw [nR_window_h hro, hro]; rfl) ?_
      exact kh_iret C hr hlocks (by rw [hro]; rfl) dL_window_24
  · skip
    refine kw_i2l C dL_window_12 ?_
    refine kw_last C 38 1 rfl rfl (show kix 0 1 0 from ⟨by unfold vp_in; decide, by decide⟩) dL_window_13 (wR k ah ar ac ax a c t (shR_window c t h p0 p1 p2 p3) ++ [(ao, .inl (k 1, 1, .inr (.inl (vp_updL f 0 (rR_window c t h p0 p1 p2 p3).toInt64))))]) rfl ?_
    refine kw_goto (tgt := 25) C dL_window_14 (by decide) ?_
    refine kw_iconst (v := 0) C dL_window_25 (by decide) ?_
    refine kw_eq (ws' := (wR k ah ar ac ax a c t (shR_window c t h p0 p1 p2 p3) ++ [(ao, .inl (k 1, 1, .inr (.inl (kout (oR_window c t h p0 p1 p2 p3) (rR_window c t h p0 p1 p2 p3).toInt64 f))))])) rfl rfl (by rw [hro]; rfl) ?_
    exact kh_iret C hr hlocks (by rw [hro]; rfl) dL_window_26
theorem eR_outside {c t : CS} {h : HS} {p0 p1 : Int32} {E : String} (hE : oR_outside c t h p0 p1 = .inl E) : E = "java/lang/IllegalArgumentException" := by
  unfold oR_outside at hE
  (repeat' split at hE) <;> first | exact (Sum.inl.inj hE).symm | cases hE
theorem nR_outside_h {c t : CS} {h : HS} {p0 p1 : Int32} {E : String} (hE : oR_outside c t h p0 p1 = .inl E) : shR_outside c t h p0 p1 = h := by
  unfold oR_outside at hE
  unfold shR_outside
  (repeat' split at hE) <;> first | (cases hE; done) | (simp only [*, if_true, if_false, not_true, not_false_eq_true]; done) | simp_all
set_option maxRecDepth 100000 in
set_option maxHeartbeats 4000000 in
theorem cL_outside (l : Launch) (D : va_G) (k : Nat → ClassId) (ah : Nat → Nat) (ar : Nat → Nat → Nat) (ac ax : Nat → Nat) (a ao : Nat) (c t : CS) (h : HS) (f : Nat → Int64) (p0 p1 : Int32) (hl9 : l.stackTraces = false) : kHi l yL_outside (kwh yL_outside bL_outside 5 (some .int) [(0, 10, 13, 13)]) ({ frames := 7, cells := 1, slots := 6, locals := 105 }) D kcl (kty k) (wR k ah ar ac ax a c t h ++ [(ao, .inl (k 1, 1, .inr (.inl f)))]) (wR k ah ar ac ax a c t (shR_outside c t h p0 p1) ++ [(ao, .inl (k 1, 1, .inr (.inl (kout (oR_outside c t h p0 p1) (rR_outside c t h p0 p1).toInt64 f))))]) [.ref a, .int p0, .int p1, .ref ao] (kcode (oR_outside c t h p0 p1)) := by
  refine k_entry_h (lv0 := [(0, .ref a), (1, .int p0), (2, .int p1), (3, .ref ao)]) rfl (by decide +kernel) (Nat.le_of_ble_eq_true rfl) rfl ?_
  intro p e s m args below meth c0 C hr hlocks hEx hE hZ hN
  refine kw_aload_n C 3 dL_outside_0 rfl rfl ?_
  refine kw_iconst (v := 0) C dL_outside_1 (by decide) ?_
  refine kw_aload_n C 0 dL_outside_2 rfl rfl ?_
  refine kw_iload_n C 1 dL_outside_3 rfl rfl ?_
  refine kw_iload_n C 2 dL_outside_4 rfl rfl ?_
  refine kw_callXi (w1 := wR k ah ar ac ax a c t (shR_outside c t h p0 p1)) (wr := [(ao, .inl (k 1, 1, .inr (.inl f)))]) (st := [.int 0, .ref ao]) C hE hZ (cR_outside l D k ah ar ac ax a c t h p0 p1 hl9) (cwV 2 C.1.2.2.2.2 (kgV kt_362 kt_363 kt_364 kt_1 kt_365) rfl rfl rfl kdR_outside ⟨Nat.le_of_ble_eq_true rfl, Nat.le_of_ble_eq_true rfl⟩) 0 2 rfl rfl rfl rfl rfl (Nat.le_of_ble_eq_true rfl) dL_outside_5 ⟨Nat.le_of_ble_eq_true rfl, Nat.le_of_ble_eq_true rfl⟩ (ad_wR.trans ad_wR.symm) (fun E hro => ?_) (fun hro => ?_)
  · have hE9 := eR_outside hro
    subst hE9
    · refine ⟨"java/lang/IllegalArgumentException", [], ⟨0, 10, 13, 13⟩, [], hEx, fun z hz => absurd hz List.not_mem_nil, by decide, by decide, C.1.2.2.2.2 _ kt_202, va_Nw.use rfl hE.1.1, ?_⟩
      intro q
      refine kw_astore (lv' := [(4, .ref q), (0, .ref a), (1, .int p0), (2, .int p1), (3, .ref ao)]) C dL_outside_13 (by decide) rfl ?_
      refine kw_iconst (v := 1) C dL_outside_15 (by decide) ?_
      refine kw_eq rfl rfl (show (wR k ah ar ac ax a c t h ++ [(ao, .inl (k 1, 1, .inr (.inl f)))]) = (wR k ah ar ac ax a c t (shR_outside c t h p0 p1) ++ [(ao, .inl (k 1, 1, .inr (.inl (kout (oR_outside c t h p0 p1) (rR_outside c t h p0 p1).toInt64 f))))]) from by rw [nR_outside_h hro, hro]; rfl) ?_
      exact kh_iret C hr hlocks (by rw [hro]; rfl) dL_outside_16
  · skip
    refine kw_i2l C dL_outside_8 ?_
    refine kw_last C 38 1 rfl rfl (show kix 0 1 0 from ⟨by unfold vp_in; decide, by decide⟩) dL_outside_9 (wR k ah ar ac ax a c t (shR_outside c t h p0 p1) ++ [(ao, .inl (k 1, 1, .inr (.inl (vp_updL f 0 (rR_outside c t h p0 p1).toInt64))))]) rfl ?_
    refine kw_goto (tgt := 17) C dL_outside_10 (by decide) ?_
    refine kw_iconst (v := 0) C dL_outside_17 (by decide) ?_
    refine kw_eq (ws' := (wR k ah ar ac ax a c t (shR_outside c t h p0 p1) ++ [(ao, .inl (k 1, 1, .inr (.inl (kout (oR_outside c t h p0 p1) (rR_outside c t h p0 p1).toInt64 f))))])) rfl rfl (by rw [hro]; rfl) ?_
    exact kh_iret C hr hlocks (by rw [hro]; rfl) dL_outside_18
theorem eR_sun {c t : CS} {h : HS} {p0 p1 p2 : Int32} {E : String} (hE : oR_sun c t h p0 p1 p2 = .inl E) : E = "java/lang/IllegalArgumentException" := by
  unfold oR_sun at hE
  (repeat' split at hE) <;> first | exact (Sum.inl.inj hE).symm | cases hE
theorem nR_sun_h {c t : CS} {h : HS} {p0 p1 p2 : Int32} {E : String} (hE : oR_sun c t h p0 p1 p2 = .inl E) : shR_sun c t h p0 p1 p2 = h := by
  unfold oR_sun at hE
  unfold shR_sun
  (repeat' split at hE) <;> first | (cases hE; done) | (simp only [*, if_true, if_false, not_true, not_false_eq_true]; done) | simp_all
set_option maxRecDepth 100000 in
set_option maxHeartbeats 4000000 in
theorem cL_sun (l : Launch) (D : va_G) (k : Nat → ClassId) (ah : Nat → Nat) (ar : Nat → Nat → Nat) (ac ax : Nat → Nat) (a ao : Nat) (c t : CS) (h : HS) (f : Nat → Int64) (p0 p1 p2 : Int32) (hl9 : l.stackTraces = false) : kHi l yL_sun (kwh yL_sun bL_sun 6 (some .int) [(0, 12, 15, 13)]) ({ frames := 7, cells := 1, slots := 6, locals := 106 }) D kcl (kty k) (wR k ah ar ac ax a c t h ++ [(ao, .inl (k 1, 1, .inr (.inl f)))]) (wR k ah ar ac ax a c t (shR_sun c t h p0 p1 p2) ++ [(ao, .inl (k 1, 1, .inr (.inl (kout (oR_sun c t h p0 p1 p2) (rR_sun c t h p0 p1 p2).toInt64 f))))]) [.ref a, .int p0, .int p1, .int p2, .ref ao] (kcode (oR_sun c t h p0 p1 p2)) := by
  refine k_entry_h (lv0 := [(0, .ref a), (1, .int p0), (2, .int p1), (3, .int p2), (4, .ref ao)]) rfl (by decide +kernel) (Nat.le_of_ble_eq_true rfl) rfl ?_
  intro p e s m args below meth c0 C hr hlocks hEx hE hZ hN
  refine kw_aload C 4 dL_sun_0 rfl ?_
  refine kw_iconst (v := 0) C dL_sun_2 (by decide) ?_
  refine kw_aload_n C 0 dL_sun_3 rfl rfl ?_
  refine kw_iload_n C 1 dL_sun_4 rfl rfl ?_
  refine kw_iload_n C 2 dL_sun_5 rfl rfl ?_
  refine kw_iload_n C 3 dL_sun_6 rfl rfl ?_
  refine kw_callXi (w1 := wR k ah ar ac ax a c t (shR_sun c t h p0 p1 p2)) (wr := [(ao, .inl (k 1, 1, .inr (.inl f)))]) (st := [.int 0, .ref ao]) C hE hZ (cR_sun l D k ah ar ac ax a c t h p0 p1 p2 hl9) (cwV 3 C.1.2.2.2.2 (kgV kt_373 kt_374 kt_375 kt_1 kt_376) rfl rfl rfl kdR_sun ⟨Nat.le_of_ble_eq_true rfl, Nat.le_of_ble_eq_true rfl⟩) 0 2 rfl rfl rfl rfl rfl (Nat.le_of_ble_eq_true rfl) dL_sun_7 ⟨Nat.le_of_ble_eq_true rfl, Nat.le_of_ble_eq_true rfl⟩ (ad_wR.trans ad_wR.symm) (fun E hro => ?_) (fun hro => ?_)
  · have hE9 := eR_sun hro
    subst hE9
    · refine ⟨"java/lang/IllegalArgumentException", [], ⟨0, 12, 15, 13⟩, [], hEx, fun z hz => absurd hz List.not_mem_nil, by decide, by decide, C.1.2.2.2.2 _ kt_202, va_Nw.use rfl hE.1.1, ?_⟩
      intro q
      refine kw_astore (lv' := [(5, .ref q), (0, .ref a), (1, .int p0), (2, .int p1), (3, .int p2), (4, .ref ao)]) C dL_sun_15 (by decide) rfl ?_
      refine kw_iconst (v := 1) C dL_sun_17 (by decide) ?_
      refine kw_eq rfl rfl (show (wR k ah ar ac ax a c t h ++ [(ao, .inl (k 1, 1, .inr (.inl f)))]) = (wR k ah ar ac ax a c t (shR_sun c t h p0 p1 p2) ++ [(ao, .inl (k 1, 1, .inr (.inl (kout (oR_sun c t h p0 p1 p2) (rR_sun c t h p0 p1 p2).toInt64 f))))]) from by rw [nR_sun_h hro, hro]; rfl) ?_
      exact kh_iret C hr hlocks (by rw [hro]; rfl) dL_sun_18
  · skip
    refine kw_i2l C dL_sun_10 ?_
    refine kw_last C 38 1 rfl rfl (show kix 0 1 0 from ⟨by unfold vp_in; decide, by decide⟩) dL_sun_11 (wR k ah ar ac ax a c t (shR_sun c t h p0 p1 p2) ++ [(ao, .inl (k 1, 1, .inr (.inl (vp_updL f 0 (rR_sun c t h p0 p1 p2).toInt64))))]) rfl ?_
    refine kw_goto (tgt := 19) C dL_sun_12 (by decide) ?_
    refine kw_iconst (v := 0) C dL_sun_19 (by decide) ?_
    refine kw_eq (ws' := (wR k ah ar ac ax a c t (shR_sun c t h p0 p1 p2) ++ [(ao, .inl (k 1, 1, .inr (.inl (kout (oR_sun c t h p0 p1 p2) (rR_sun c t h p0 p1 p2).toInt64 f))))])) rfl rfl (by rw [hro]; rfl) ?_
    exact kh_iret C hr hlocks (by rw [hro]; rfl) dL_sun_20
theorem eR_plan {c t : CS} {h : HS} {p0 p1 p2 p3 : Int32} {E : String} (hE : oR_plan c t h p0 p1 p2 p3 = .inl E) : E = "java/lang/IllegalArgumentException" := by
  unfold oR_plan at hE
  (repeat' split at hE) <;> first | exact (Sum.inl.inj hE).symm | cases hE
theorem nR_plan_h {c t : CS} {h : HS} {p0 p1 p2 p3 : Int32} {E : String} (hE : oR_plan c t h p0 p1 p2 p3 = .inl E) : shR_plan c t h p0 p1 p2 p3 = h := by
  unfold oR_plan at hE
  unfold shR_plan
  (repeat' split at hE) <;> first | (cases hE; done) | (simp only [*, if_true, if_false, not_true, not_false_eq_true]; done) | simp_all
set_option maxRecDepth 100000 in
set_option maxHeartbeats 4000000 in
theorem cL_plan (l : Launch) (D : va_G) (k : Nat → ClassId) (ah : Nat → Nat) (ar : Nat → Nat → Nat) (ac ax : Nat → Nat) (a ao : Nat) (c t : CS) (h : HS) (f : Nat → Int64) (p0 p1 p2 p3 : Int32) (hl9 : l.stackTraces = false) (hI : kInv h) : kHi l yL_plan (kwh yL_plan bL_plan 7 (some .int) [(0, 14, 17, 13)]) ({ frames := 7, cells := 1, slots := 6, locals := 108 }) D kcl (kty k) (wR k ah ar ac ax a c t h ++ [(ao, .inl (k 1, 1, .inr (.inl f)))]) (wR k ah ar ac ax a c t (shR_plan c t h p0 p1 p2 p3) ++ [(ao, .inl (k 1, 1, .inr (.inl (kout (oR_plan c t h p0 p1 p2 p3) (rR_plan c t h p0 p1 p2 p3).toInt64 f))))]) [.ref a, .int p0, .int p1, .int p2, .int p3, .ref ao] (kcode (oR_plan c t h p0 p1 p2 p3)) := by
  refine k_entry_h (lv0 := [(0, .ref a), (1, .int p0), (2, .int p1), (3, .int p2), (4, .int p3), (5, .ref ao)]) rfl (by decide +kernel) (Nat.le_of_ble_eq_true rfl) rfl ?_
  intro p e s m args below meth c0 C hr hlocks hEx hE hZ hN
  refine kw_aload C 5 dL_plan_0 rfl ?_
  refine kw_iconst (v := 0) C dL_plan_2 (by decide) ?_
  refine kw_aload_n C 0 dL_plan_3 rfl rfl ?_
  refine kw_iload_n C 1 dL_plan_4 rfl rfl ?_
  refine kw_iload_n C 2 dL_plan_5 rfl rfl ?_
  refine kw_iload_n C 3 dL_plan_6 rfl rfl ?_
  refine kw_iload C 4 dL_plan_7 rfl ?_
  refine kw_callXi (w1 := wR k ah ar ac ax a c t (shR_plan c t h p0 p1 p2 p3)) (wr := [(ao, .inl (k 1, 1, .inr (.inl f)))]) (st := [.int 0, .ref ao]) C hE hZ (cR_plan l D k ah ar ac ax a c t h p0 p1 p2 p3 hl9 hI) (cwV 4 C.1.2.2.2.2 (kgV kt_381 kt_382 kt_383 kt_1 kt_384) rfl rfl rfl kdR_plan ⟨Nat.le_of_ble_eq_true rfl, Nat.le_of_ble_eq_true rfl⟩) 0 2 rfl rfl rfl rfl rfl (Nat.le_of_ble_eq_true rfl) dL_plan_9 ⟨Nat.le_of_ble_eq_true rfl, Nat.le_of_ble_eq_true rfl⟩ (ad_wR.trans ad_wR.symm) (fun E hro => ?_) (fun hro => ?_)
  · have hE9 := eR_plan hro
    subst hE9
    · refine ⟨"java/lang/IllegalArgumentException", [], ⟨0, 14, 17, 13⟩, [], hEx, fun z hz => absurd hz List.not_mem_nil, by decide, by decide, C.1.2.2.2.2 _ kt_202, va_Nw.use rfl hE.1.1, ?_⟩
      intro q
      refine kw_astore (lv' := [(6, .ref q), (0, .ref a), (1, .int p0), (2, .int p1), (3, .int p2), (4, .int p3), (5, .ref ao)]) C dL_plan_17 (by decide) rfl ?_
      refine kw_iconst (v := 1) C dL_plan_19 (by decide) ?_
      refine kw_eq rfl rfl (show (wR k ah ar ac ax a c t h ++ [(ao, .inl (k 1, 1, .inr (.inl f)))]) = (wR k ah ar ac ax a c t (shR_plan c t h p0 p1 p2 p3) ++ [(ao, .inl (k 1, 1, .inr (.inl (kout (oR_plan c t h p0 p1 p2 p3) (rR_plan c t h p0 p1 p2 p3).toInt64 f))))]) from by rw [nR_plan_h hro, hro]; rfl) ?_
      exact kh_iret C hr hlocks (by rw [hro]; rfl) dL_plan_20
  · skip
    refine kw_i2l C dL_plan_12 ?_
    refine kw_last C 38 1 rfl rfl (show kix 0 1 0 from ⟨by unfold vp_in; decide, by decide⟩) dL_plan_13 (wR k ah ar ac ax a c t (shR_plan c t h p0 p1 p2 p3) ++ [(ao, .inl (k 1, 1, .inr (.inl (vp_updL f 0 (rR_plan c t h p0 p1 p2 p3).toInt64))))]) rfl ?_
    refine kw_goto (tgt := 21) C dL_plan_14 (by decide) ?_
    refine kw_iconst (v := 0) C dL_plan_21 (by decide) ?_
    refine kw_eq (ws' := (wR k ah ar ac ax a c t (shR_plan c t h p0 p1 p2 p3) ++ [(ao, .inl (k 1, 1, .inr (.inl (kout (oR_plan c t h p0 p1 p2 p3) (rR_plan c t h p0 p1 p2 p3).toInt64 f))))])) rfl rfl (by rw [hro]; rfl) ?_
    exact kh_iret C hr hlocks (by rw [hro]; rfl) dL_plan_22
theorem eR_most {c t : CS} {h : HS} {p0 p1 p2 : Int32} {E : String} (hE : oR_most c t h p0 p1 p2 = .inl E) : E = "java/lang/IllegalArgumentException" := by
  unfold oR_most at hE
  (repeat' split at hE) <;> first | exact (Sum.inl.inj hE).symm | cases hE
theorem nR_most_h {c t : CS} {h : HS} {p0 p1 p2 : Int32} {E : String} (hE : oR_most c t h p0 p1 p2 = .inl E) : shR_most c t h p0 p1 p2 = h := by
  unfold oR_most at hE
  unfold shR_most
  (repeat' split at hE) <;> first | (cases hE; done) | (simp only [*, if_true, if_false, not_true, not_false_eq_true]; done) | simp_all
set_option maxRecDepth 100000 in
set_option maxHeartbeats 4000000 in
theorem cL_most (l : Launch) (D : va_G) (k : Nat → ClassId) (ah : Nat → Nat) (ar : Nat → Nat → Nat) (ac ax : Nat → Nat) (a ao : Nat) (c t : CS) (h : HS) (f : Nat → Int64) (p0 p1 p2 : Int32) (hl9 : l.stackTraces = false) (hI : kInv h) : kHi l yL_most (kwh yL_most bL_most 6 (some .int) [(0, 12, 15, 13)]) ({ frames := 7, cells := 1, slots := 6, locals := 106 }) D kcl (kty k) (wR k ah ar ac ax a c t h ++ [(ao, .inl (k 1, 1, .inr (.inl f)))]) (wR k ah ar ac ax a c t (shR_most c t h p0 p1 p2) ++ [(ao, .inl (k 1, 1, .inr (.inl (kout (oR_most c t h p0 p1 p2) (rR_most c t h p0 p1 p2).toInt64 f))))]) [.ref a, .int p0, .int p1, .int p2, .ref ao] (kcode (oR_most c t h p0 p1 p2)) := by
  refine k_entry_h (lv0 := [(0, .ref a), (1, .int p0), (2, .int p1), (3, .int p2), (4, .ref ao)]) rfl (by decide +kernel) (Nat.le_of_ble_eq_true rfl) rfl ?_
  intro p e s m args below meth c0 C hr hlocks hEx hE hZ hN
  refine kw_aload C 4 dL_most_0 rfl ?_
  refine kw_iconst (v := 0) C dL_most_2 (by decide) ?_
  refine kw_aload_n C 0 dL_most_3 rfl rfl ?_
  refine kw_iload_n C 1 dL_most_4 rfl rfl ?_
  refine kw_iload_n C 2 dL_most_5 rfl rfl ?_
  refine kw_iload_n C 3 dL_most_6 rfl rfl ?_
  refine kw_callXi (w1 := wR k ah ar ac ax a c t (shR_most c t h p0 p1 p2)) (wr := [(ao, .inl (k 1, 1, .inr (.inl f)))]) (st := [.int 0, .ref ao]) C hE hZ (cR_most l D k ah ar ac ax a c t h p0 p1 p2 hl9 hI) (cwV 3 C.1.2.2.2.2 (kgV kt_394 kt_395 kt_396 kt_1 kt_397) rfl rfl rfl kdR_most ⟨Nat.le_of_ble_eq_true rfl, Nat.le_of_ble_eq_true rfl⟩) 0 2 rfl rfl rfl rfl rfl (Nat.le_of_ble_eq_true rfl) dL_most_7 ⟨Nat.le_of_ble_eq_true rfl, Nat.le_of_ble_eq_true rfl⟩ (ad_wR.trans ad_wR.symm) (fun E hro => ?_) (fun hro => ?_)
  · have hE9 := eR_most hro
    subst hE9
    · refine ⟨"java/lang/IllegalArgumentException", [], ⟨0, 12, 15, 13⟩, [], hEx, fun z hz => absurd hz List.not_mem_nil, by decide, by decide, C.1.2.2.2.2 _ kt_202, va_Nw.use rfl hE.1.1, ?_⟩
      intro q
      refine kw_astore (lv' := [(5, .ref q), (0, .ref a), (1, .int p0), (2, .int p1), (3, .int p2), (4, .ref ao)]) C dL_most_15 (by decide) rfl ?_
      refine kw_iconst (v := 1) C dL_most_17 (by decide) ?_
      refine kw_eq rfl rfl (show (wR k ah ar ac ax a c t h ++ [(ao, .inl (k 1, 1, .inr (.inl f)))]) = (wR k ah ar ac ax a c t (shR_most c t h p0 p1 p2) ++ [(ao, .inl (k 1, 1, .inr (.inl (kout (oR_most c t h p0 p1 p2) (rR_most c t h p0 p1 p2).toInt64 f))))]) from by rw [nR_most_h hro, hro]; rfl) ?_
      exact kh_iret C hr hlocks (by rw [hro]; rfl) dL_most_18
  · skip
    refine kw_i2l C dL_most_10 ?_
    refine kw_last C 38 1 rfl rfl (show kix 0 1 0 from ⟨by unfold vp_in; decide, by decide⟩) dL_most_11 (wR k ah ar ac ax a c t (shR_most c t h p0 p1 p2) ++ [(ao, .inl (k 1, 1, .inr (.inl (vp_updL f 0 (rR_most c t h p0 p1 p2).toInt64))))]) rfl ?_
    refine kw_goto (tgt := 19) C dL_most_12 (by decide) ?_
    refine kw_iconst (v := 0) C dL_most_19 (by decide) ?_
    refine kw_eq (ws' := (wR k ah ar ac ax a c t (shR_most c t h p0 p1 p2) ++ [(ao, .inl (k 1, 1, .inr (.inl (kout (oR_most c t h p0 p1 p2) (rR_most c t h p0 p1 p2).toInt64 f))))])) rfl rfl (by rw [hro]; rfl) ?_
    exact kh_iret C hr hlocks (by rw [hro]; rfl) dL_most_20
theorem eR_ease {c t : CS} {h : HS} {p0 p1 : Int32} {E : String} (hE : oR_ease c t h p0 p1 = .inl E) : E = "java/lang/IllegalArgumentException" := by
  unfold oR_ease at hE
  (repeat' split at hE) <;> first | exact (Sum.inl.inj hE).symm | cases hE
theorem nR_ease_h {c t : CS} {h : HS} {p0 p1 : Int32} {E : String} (hE : oR_ease c t h p0 p1 = .inl E) : shR_ease c t h p0 p1 = h := by
  unfold oR_ease at hE
  unfold shR_ease
  (repeat' split at hE) <;> first | (cases hE; done) | (simp only [*, if_true, if_false, not_true, not_false_eq_true]; done) | simp_all
set_option maxRecDepth 100000 in
set_option maxHeartbeats 4000000 in
theorem cL_ease (l : Launch) (D : va_G) (k : Nat → ClassId) (ah : Nat → Nat) (ar : Nat → Nat → Nat) (ac ax : Nat → Nat) (a ao : Nat) (c t : CS) (h : HS) (f : Nat → Int64) (p0 p1 : Int32) (hl9 : l.stackTraces = false) : kHi l yL_ease (kwh yL_ease bL_ease 4 (some .int) [(0, 6, 9, 13)]) ({ frames := 7, cells := 1, slots := 6, locals := 104 }) D kcl (kty k) (wR k ah ar ac ax a c t h ++ [(ao, .inl (k 1, 1, .inr (.inl f)))]) (wR k ah ar ac ax a c t (shR_ease c t h p0 p1) ++ [(ao, .inl (k 1, 1, .inr (.inl f)))]) [.ref a, .int p0, .int p1] (kcode (oR_ease c t h p0 p1)) := by
  refine k_entry_h (lv0 := [(0, .ref a), (1, .int p0), (2, .int p1)]) rfl (by decide +kernel) (Nat.le_of_ble_eq_true rfl) rfl ?_
  intro p e s m args below meth c0 C hr hlocks hEx hE hZ hN
  refine kw_aload_n C 0 dL_ease_0 rfl rfl ?_
  refine kw_iload_n C 1 dL_ease_1 rfl rfl ?_
  refine kw_iload_n C 2 dL_ease_2 rfl rfl ?_
  refine kw_callXv (w1 := wR k ah ar ac ax a c t (shR_ease c t h p0 p1)) (wr := [(ao, .inl (k 1, 1, .inr (.inl f)))]) (st := []) C hE hZ (cR_ease l D k ah ar ac ax a c t h p0 p1 hl9) (cwV 2 C.1.2.2.2.2 (kgV kt_403 kt_404 kt_405 kt_1 kt_406) rfl rfl rfl kdR_ease ⟨Nat.le_of_ble_eq_true rfl, Nat.le_of_ble_eq_true rfl⟩) 0 2 rfl rfl rfl rfl rfl (Nat.le_of_ble_eq_true rfl) dL_ease_3 ⟨Nat.le_of_ble_eq_true rfl, Nat.le_of_ble_eq_true rfl⟩ (ad_wR.trans ad_wR.symm) (fun E hro => ?_) (fun hro => ?_)
  · have hE9 := eR_ease hro
    subst hE9
    · refine ⟨"java/lang/IllegalArgumentException", [], ⟨0, 6, 9, 13⟩, [], hEx, fun z hz => absurd hz List.not_mem_nil, by decide, by decide, C.1.2.2.2.2 _ kt_202, va_Nw.use rfl hE.1.1, ?_⟩
      intro q
      refine kw_astore_n (lv' := [(3, .ref q), (0, .ref a), (1, .int p0), (2, .int p1)]) C dL_ease_9 rfl (by decide) rfl ?_
      refine kw_iconst (v := 1) C dL_ease_10 (by decide) ?_
      refine kw_eq rfl rfl (show (wR k ah ar ac ax a c t h ++ [(ao, .inl (k 1, 1, .inr (.inl f)))]) = (wR k ah ar ac ax a c t (shR_ease c t h p0 p1) ++ [(ao, .inl (k 1, 1, .inr (.inl f)))]) from by rw [nR_ease_h hro]) ?_
      exact kh_iret C hr hlocks (by rw [hro]; rfl) dL_ease_11
  · skip
    refine kw_goto (tgt := 12) C dL_ease_6 (by decide) ?_
    refine kw_iconst (v := 0) C dL_ease_12 (by decide) ?_
    exact kh_iret C hr hlocks (by rw [hro]; rfl) dL_ease_13
theorem eR_run {c t : CS} {h : HS} {p0 : Int32} {E : String} (hE : oR_run c t h p0 = .inl E) : E = "java/lang/IllegalArgumentException" ∨ E = "java/lang/IllegalStateException" := by
  unfold oR_run at hE
  (repeat' split at hE) <;> first | exact Or.inl (Sum.inl.inj hE).symm | exact Or.inr (Sum.inl.inj hE).symm | cases hE
theorem nR_run_c {c t : CS} {h : HS} {p0 : Int32} {E : String} (hE : oR_run c t h p0 = .inl E) : scR_run c t h p0 = c := by
  unfold oR_run at hE
  unfold scR_run
  (repeat' split at hE) <;> first | (cases hE; done) | (simp only [*, if_true, if_false, not_true, not_false_eq_true]; done) | simp_all
set_option maxRecDepth 100000 in
set_option maxHeartbeats 4000000 in
theorem cL_run (l : Launch) (D : va_G) (k : Nat → ClassId) (ah : Nat → Nat) (ar : Nat → Nat → Nat) (ac ax : Nat → Nat) (a ao : Nat) (c t : CS) (h : HS) (f : Nat → Int64) (p0 : Int32) (hl9 : l.stackTraces = false) (hI : kInv h) (o : Nat) (ho : c_over c = nI o) (ho5 : o ≤ 100000) : kHi l yL_run (kwh yL_run bL_run 4 (some .int) [(0, 9, 12, 13), (0, 9, 15, 15)]) ({ frames := 7, cells := 1, slots := 6, locals := 118 }) D kcl (kty k) (wR k ah ar ac ax a c t h ++ [(ao, .inl (k 1, 1, .inr (.inl f)))]) (wR k ah ar ac ax a (scR_run c t h p0) t h ++ [(ao, .inl (k 1, 1, .inr (.inl (kout (oR_run c t h p0) (rR_run c t h p0).toInt64 f))))]) [.ref a, .int p0, .ref ao] (kcode (oR_run c t h p0)) := by
  refine k_entry_h (lv0 := [(0, .ref a), (1, .int p0), (2, .ref ao)]) rfl (by decide +kernel) (Nat.le_of_ble_eq_true rfl) rfl ?_
  intro p e s m args below meth c0 C hr hlocks hEx hE hZ hN
  refine kw_aload_n C 2 dL_run_0 rfl rfl ?_
  refine kw_iconst (v := 0) C dL_run_1 (by decide) ?_
  refine kw_aload_n C 0 dL_run_2 rfl rfl ?_
  refine kw_iload_n C 1 dL_run_3 rfl rfl ?_
  refine kw_callXi (w1 := wR k ah ar ac ax a (scR_run c t h p0) t h) (wr := [(ao, .inl (k 1, 1, .inr (.inl f)))]) (st := [.int 0, .ref ao]) C hE hZ (cR_run l D k ah ar ac ax a c t h p0 hl9 hI o ho ho5) (cwV 1 C.1.2.2.2.2 (kgV kt_411 kt_412 kt_413 kt_1 kt_414) rfl rfl rfl kdR_run ⟨Nat.le_of_ble_eq_true rfl, Nat.le_of_ble_eq_true rfl⟩) 0 2 rfl rfl rfl rfl rfl (Nat.le_of_ble_eq_true rfl) dL_run_4 ⟨Nat.le_of_ble_eq_true rfl, Nat.le_of_ble_eq_true rfl⟩ (ad_wR.trans ad_wR.symm) (fun E hro => ?_) (fun hro => ?_)
  · have hE9 := eR_run hro
    rcases hE9 with rfl | rfl
    · refine ⟨"java/lang/IllegalArgumentException", [], ⟨0, 9, 12, 13⟩, [⟨0, 9, 15, 15⟩], hEx, fun z hz => absurd hz List.not_mem_nil, by decide, by decide, C.1.2.2.2.2 _ kt_202, va_Nw.use rfl hE.1.1, ?_⟩
      intro q
      refine kw_astore_n (lv' := [(3, .ref q), (0, .ref a), (1, .int p0), (2, .ref ao)]) C dL_run_12 rfl (by decide) rfl ?_
      refine kw_iconst (v := 1) C dL_run_13 (by decide) ?_
      refine kw_eq rfl rfl (show (wR k ah ar ac ax a c t h ++ [(ao, .inl (k 1, 1, .inr (.inl f)))]) = (wR k ah ar ac ax a (scR_run c t h p0) t h ++ [(ao, .inl (k 1, 1, .inr (.inl (kout (oR_run c t h p0) (rR_run c t h p0).toInt64 f))))]) from by rw [nR_run_c hro, hro]; rfl) ?_
      exact kh_iret C hr hlocks (by rw [hro]; rfl) dL_run_14
    · refine ⟨"java/lang/IllegalStateException", [⟨0, 9, 12, 13⟩], ⟨0, 9, 15, 15⟩, [], hEx, fun z hz => Or.inr (by rw [List.mem_singleton.mp hz]; exact ⟨by decide, "java/lang/IllegalArgumentException", C.1.2.2.2.2 _ kt_202, hN⟩), by decide, by decide, C.1.2.2.2.2 _ kt_203, va_Nw.use rfl hE.1.2, ?_⟩
      intro q
      refine kw_astore_n (lv' := [(3, .ref q), (0, .ref a), (1, .int p0), (2, .ref ao)]) C dL_run_15 rfl (by decide) rfl ?_
      refine kw_iconst (v := 2) C dL_run_16 (by decide) ?_
      refine kw_eq rfl rfl (show (wR k ah ar ac ax a c t h ++ [(ao, .inl (k 1, 1, .inr (.inl f)))]) = (wR k ah ar ac ax a (scR_run c t h p0) t h ++ [(ao, .inl (k 1, 1, .inr (.inl (kout (oR_run c t h p0) (rR_run c t h p0).toInt64 f))))]) from by rw [nR_run_c hro, hro]; rfl) ?_
      exact kh_iret C hr hlocks (by rw [hro]; rfl) dL_run_17
  · skip
    refine kw_i2l C dL_run_7 ?_
    refine kw_last C 38 1 rfl rfl (show kix 0 1 0 from ⟨by unfold vp_in; decide, by decide⟩) dL_run_8 (wR k ah ar ac ax a (scR_run c t h p0) t h ++ [(ao, .inl (k 1, 1, .inr (.inl (vp_updL f 0 (rR_run c t h p0).toInt64))))]) rfl ?_
    refine kw_goto (tgt := 18) C dL_run_9 (by decide) ?_
    refine kw_iconst (v := 0) C dL_run_18 (by decide) ?_
    refine kw_eq (ws' := (wR k ah ar ac ax a (scR_run c t h p0) t h ++ [(ao, .inl (k 1, 1, .inr (.inl (kout (oR_run c t h p0) (rR_run c t h p0).toInt64 f))))])) rfl rfl (by rw [hro]; rfl) ?_
    exact kh_iret C hr hlocks (by rw [hro]; rfl) dL_run_19
theorem eR_told {c t : CS} {h : HS} {p0 p1 : Int32} {E : String} (hE : oR_told c t h p0 p1 = .inl E) : E = "java/lang/IllegalArgumentException" := by
  unfold oR_told at hE
  (repeat' split at hE) <;> first | exact (Sum.inl.inj hE).symm | cases hE
set_option maxRecDepth 100000 in
set_option maxHeartbeats 4000000 in
theorem cL_told (l : Launch) (D : va_G) (k : Nat → ClassId) (ah : Nat → Nat) (ar : Nat → Nat → Nat) (ac ax : Nat → Nat) (a ao : Nat) (c t : CS) (h : HS) (f : Nat → Int64) (p0 p1 : Int32) (hl9 : l.stackTraces = false) (hI : kInv h) : kHi l yL_told (kwh yL_told bL_told 5 (some .int) [(0, 9, 12, 13)]) ({ frames := 7, cells := 1, slots := 6, locals := 104 }) D kcl (kty k) (wR k ah ar ac ax a c t h ++ [(ao, .inl (k 1, 1, .inr (.inl f)))]) (wR k ah ar ac ax a c t h ++ [(ao, .inl (k 1, 1, .inr (.inl (kout (oR_told c t h p0 p1) (rR_told c t h p0 p1) f))))]) [.ref a, .int p0, .int p1, .ref ao] (kcode (oR_told c t h p0 p1)) := by
  refine k_entry_h (lv0 := [(0, .ref a), (1, .int p0), (2, .int p1), (3, .ref ao)]) rfl (by decide +kernel) (Nat.le_of_ble_eq_true rfl) rfl ?_
  intro p e s m args below meth c0 C hr hlocks hEx hE hZ hN
  refine kw_aload_n C 3 dL_told_0 rfl rfl ?_
  refine kw_iconst (v := 0) C dL_told_1 (by decide) ?_
  refine kw_aload_n C 0 dL_told_2 rfl rfl ?_
  refine kw_iload_n C 1 dL_told_3 rfl rfl ?_
  refine kw_iload_n C 2 dL_told_4 rfl rfl ?_
  refine kw_callXl (w1 := wR k ah ar ac ax a c t h) (wr := [(ao, .inl (k 1, 1, .inr (.inl f)))]) (st := [.int 0, .ref ao]) C hE hZ (cR_told l D k ah ar ac ax a c t h p0 p1 hl9 hI) (cwV 2 C.1.2.2.2.2 (kgV kt_488 kt_489 kt_490 kt_1 kt_491) rfl rfl rfl kdR_told ⟨Nat.le_of_ble_eq_true rfl, Nat.le_of_ble_eq_true rfl⟩) 0 2 rfl rfl rfl rfl rfl (Nat.le_of_ble_eq_true rfl) dL_told_5 ⟨Nat.le_of_ble_eq_true rfl, Nat.le_of_ble_eq_true rfl⟩ (ad_wR.trans ad_wR.symm) (fun E hro => ?_) (fun hro => ?_)
  · have hE9 := eR_told hro
    subst hE9
    · refine ⟨"java/lang/IllegalArgumentException", [], ⟨0, 9, 12, 13⟩, [], hEx, fun z hz => absurd hz List.not_mem_nil, by decide, by decide, C.1.2.2.2.2 _ kt_202, va_Nw.use rfl hE.1.1, ?_⟩
      intro q
      refine kw_astore (lv' := [(4, .ref q), (0, .ref a), (1, .int p0), (2, .int p1), (3, .ref ao)]) C dL_told_12 (by decide) rfl ?_
      refine kw_iconst (v := 1) C dL_told_14 (by decide) ?_
      refine kw_eq rfl rfl (show (wR k ah ar ac ax a c t h ++ [(ao, .inl (k 1, 1, .inr (.inl f)))]) = (wR k ah ar ac ax a c t h ++ [(ao, .inl (k 1, 1, .inr (.inl (kout (oR_told c t h p0 p1) (rR_told c t h p0 p1) f))))]) from by rw [hro]; rfl) ?_
      exact kh_iret C hr hlocks (by rw [hro]; rfl) dL_told_15
  · skip
    refine kw_last C 38 1 rfl rfl (show kix 0 1 0 from ⟨by unfold vp_in; decide, by decide⟩) dL_told_8 (wR k ah ar ac ax a c t h ++ [(ao, .inl (k 1, 1, .inr (.inl (vp_updL f 0 (rR_told c t h p0 p1)))))]) rfl ?_
    refine kw_goto (tgt := 16) C dL_told_9 (by decide) ?_
    refine kw_iconst (v := 0) C dL_told_16 (by decide) ?_
    refine kw_eq (ws' := (wR k ah ar ac ax a c t h ++ [(ao, .inl (k 1, 1, .inr (.inl (kout (oR_told c t h p0 p1) (rR_told c t h p0 p1) f))))])) rfl rfl (by rw [hro]; rfl) ?_
    exact kh_iret C hr hlocks (by rw [hro]; rfl) dL_told_17
theorem eR_balance {c t : CS} {h : HS} {p0 : Int32} {E : String} (hE : oR_balance c t h p0 = .inl E) : E = "java/lang/IllegalArgumentException" := by
  unfold oR_balance at hE
  (repeat' split at hE) <;> first | exact (Sum.inl.inj hE).symm | cases hE
set_option maxRecDepth 100000 in
set_option maxHeartbeats 4000000 in
theorem cL_balance (l : Launch) (D : va_G) (k : Nat → ClassId) (ah : Nat → Nat) (ar : Nat → Nat → Nat) (ac ax : Nat → Nat) (a ao : Nat) (c t : CS) (h : HS) (f : Nat → Int64) (p0 : Int32) (hl9 : l.stackTraces = false) (hI : kInv h) : kHi l yL_balance (kwh yL_balance bL_balance 4 (some .int) [(0, 8, 11, 13)]) ({ frames := 7, cells := 1, slots := 6, locals := 103 }) D kcl (kty k) (wR k ah ar ac ax a c t h ++ [(ao, .inl (k 1, 1, .inr (.inl f)))]) (wR k ah ar ac ax a c t h ++ [(ao, .inl (k 1, 1, .inr (.inl (kout (oR_balance c t h p0) (rR_balance c t h p0) f))))]) [.ref a, .int p0, .ref ao] (kcode (oR_balance c t h p0)) := by
  refine k_entry_h (lv0 := [(0, .ref a), (1, .int p0), (2, .ref ao)]) rfl (by decide +kernel) (Nat.le_of_ble_eq_true rfl) rfl ?_
  intro p e s m args below meth c0 C hr hlocks hEx hE hZ hN
  refine kw_aload_n C 2 dL_balance_0 rfl rfl ?_
  refine kw_iconst (v := 0) C dL_balance_1 (by decide) ?_
  refine kw_aload_n C 0 dL_balance_2 rfl rfl ?_
  refine kw_iload_n C 1 dL_balance_3 rfl rfl ?_
  refine kw_callXl (w1 := wR k ah ar ac ax a c t h) (wr := [(ao, .inl (k 1, 1, .inr (.inl f)))]) (st := [.int 0, .ref ao]) C hE hZ (cR_balance l D k ah ar ac ax a c t h p0 hl9 hI) (cwV 1 C.1.2.2.2.2 (kgV kt_497 kt_498 kt_499 kt_1 kt_500) rfl rfl rfl kdR_balance ⟨Nat.le_of_ble_eq_true rfl, Nat.le_of_ble_eq_true rfl⟩) 0 2 rfl rfl rfl rfl rfl (Nat.le_of_ble_eq_true rfl) dL_balance_4 ⟨Nat.le_of_ble_eq_true rfl, Nat.le_of_ble_eq_true rfl⟩ (ad_wR.trans ad_wR.symm) (fun E hro => ?_) (fun hro => ?_)
  · have hE9 := eR_balance hro
    subst hE9
    · refine ⟨"java/lang/IllegalArgumentException", [], ⟨0, 8, 11, 13⟩, [], hEx, fun z hz => absurd hz List.not_mem_nil, by decide, by decide, C.1.2.2.2.2 _ kt_202, va_Nw.use rfl hE.1.1, ?_⟩
      intro q
      refine kw_astore_n (lv' := [(3, .ref q), (0, .ref a), (1, .int p0), (2, .ref ao)]) C dL_balance_11 rfl (by decide) rfl ?_
      refine kw_iconst (v := 1) C dL_balance_12 (by decide) ?_
      refine kw_eq rfl rfl (show (wR k ah ar ac ax a c t h ++ [(ao, .inl (k 1, 1, .inr (.inl f)))]) = (wR k ah ar ac ax a c t h ++ [(ao, .inl (k 1, 1, .inr (.inl (kout (oR_balance c t h p0) (rR_balance c t h p0) f))))]) from by rw [hro]; rfl) ?_
      exact kh_iret C hr hlocks (by rw [hro]; rfl) dL_balance_13
  · skip
    refine kw_last C 38 1 rfl rfl (show kix 0 1 0 from ⟨by unfold vp_in; decide, by decide⟩) dL_balance_7 (wR k ah ar ac ax a c t h ++ [(ao, .inl (k 1, 1, .inr (.inl (vp_updL f 0 (rR_balance c t h p0)))))]) rfl ?_
    refine kw_goto (tgt := 14) C dL_balance_8 (by decide) ?_
    refine kw_iconst (v := 0) C dL_balance_14 (by decide) ?_
    refine kw_eq (ws' := (wR k ah ar ac ax a c t h ++ [(ao, .inl (k 1, 1, .inr (.inl (kout (oR_balance c t h p0) (rR_balance c t h p0) f))))])) rfl rfl (by rw [hro]; rfl) ?_
    exact kh_iret C hr hlocks (by rw [hro]; rfl) dL_balance_15
theorem eR_early {c t : CS} {h : HS} {p0 p1 p2 : Int32} {E : String} (hE : oR_early c t h p0 p1 p2 = .inl E) : E = "java/lang/IllegalArgumentException" := by
  unfold oR_early at hE
  (repeat' split at hE) <;> first | exact (Sum.inl.inj hE).symm | cases hE
theorem nR_early_t {c t : CS} {h : HS} {p0 p1 p2 : Int32} {E : String} (hE : oR_early c t h p0 p1 p2 = .inl E) : stR_early c t h p0 p1 p2 = t := by
  unfold oR_early at hE
  unfold stR_early
  (repeat' split at hE) <;> first | (cases hE; done) | (simp only [*, if_true, if_false, not_true, not_false_eq_true]; done) | simp_all
set_option maxRecDepth 100000 in
set_option maxHeartbeats 4000000 in
theorem cL_early (l : Launch) (D : va_G) (k : Nat → ClassId) (ah : Nat → Nat) (ar : Nat → Nat → Nat) (ac ax : Nat → Nat) (a ao : Nat) (c t : CS) (h : HS) (f : Nat → Int64) (p0 p1 p2 : Int32) (hl9 : l.stackTraces = false) (hI : kInv h) (hb : rC_nextBeginning c h p1 = nI ((c_over c).toNatClampNeg + ((rC_nextBeginning c h p1).toNatClampNeg - (c_over c).toNatClampNeg))) (ho : c_over c = nI (c_over c).toNatClampNeg) (ho5 : (c_over c).toNatClampNeg ≤ 100000) (hK : ((rC_nextBeginning c h p1).toNatClampNeg - (c_over c).toNatClampNeg) ≤ 96) : kHi l yL_early (kwh yL_early bL_early 6 (some .int) [(0, 12, 15, 13)]) ({ frames := 7, cells := 1, slots := 6, locals := 123 }) D kcl (kty k) (wR k ah ar ac ax a c t h ++ [(ao, .inl (k 1, 1, .inr (.inl f)))]) (wR k ah ar ac ax a c (stR_early c t h p0 p1 p2) h ++ [(ao, .inl (k 1, 1, .inr (.inl (kout (oR_early c t h p0 p1 p2) (rR_early c t h p0 p1 p2).toInt64 f))))]) [.ref a, .int p0, .int p1, .int p2, .ref ao] (kcode (oR_early c t h p0 p1 p2)) := by
  refine k_entry_h (lv0 := [(0, .ref a), (1, .int p0), (2, .int p1), (3, .int p2), (4, .ref ao)]) rfl (by decide +kernel) (Nat.le_of_ble_eq_true rfl) rfl ?_
  intro p e s m args below meth c0 C hr hlocks hEx hE hZ hN
  refine kw_aload C 4 dL_early_0 rfl ?_
  refine kw_iconst (v := 0) C dL_early_2 (by decide) ?_
  refine kw_aload_n C 0 dL_early_3 rfl rfl ?_
  refine kw_iload_n C 1 dL_early_4 rfl rfl ?_
  refine kw_iload_n C 2 dL_early_5 rfl rfl ?_
  refine kw_iload_n C 3 dL_early_6 rfl rfl ?_
  refine kw_callXi (w1 := wR k ah ar ac ax a c (stR_early c t h p0 p1 p2) h) (wr := [(ao, .inl (k 1, 1, .inr (.inl f)))]) (st := [.int 0, .ref ao]) C hE hZ (cR_early l D k ah ar ac ax a c t h p0 p1 p2 hl9 hI hb ho ho5 hK) (cwV 3 C.1.2.2.2.2 (kgV kt_509 kt_510 kt_511 kt_1 kt_512) rfl rfl rfl kdR_early ⟨Nat.le_of_ble_eq_true rfl, Nat.le_of_ble_eq_true rfl⟩) 0 2 rfl rfl rfl rfl rfl (Nat.le_of_ble_eq_true rfl) dL_early_7 ⟨Nat.le_of_ble_eq_true rfl, Nat.le_of_ble_eq_true rfl⟩ (ad_wR.trans ad_wR.symm) (fun E hro => ?_) (fun hro => ?_)
  · have hE9 := eR_early hro
    subst hE9
    · refine ⟨"java/lang/IllegalArgumentException", [], ⟨0, 12, 15, 13⟩, [], hEx, fun z hz => absurd hz List.not_mem_nil, by decide, by decide, C.1.2.2.2.2 _ kt_202, va_Nw.use rfl hE.1.1, ?_⟩
      intro q
      refine kw_astore (lv' := [(5, .ref q), (0, .ref a), (1, .int p0), (2, .int p1), (3, .int p2), (4, .ref ao)]) C dL_early_15 (by decide) rfl ?_
      refine kw_iconst (v := 1) C dL_early_17 (by decide) ?_
      refine kw_eq rfl rfl (show (wR k ah ar ac ax a c t h ++ [(ao, .inl (k 1, 1, .inr (.inl f)))]) = (wR k ah ar ac ax a c (stR_early c t h p0 p1 p2) h ++ [(ao, .inl (k 1, 1, .inr (.inl (kout (oR_early c t h p0 p1 p2) (rR_early c t h p0 p1 p2).toInt64 f))))]) from by rw [nR_early_t hro, hro]; rfl) ?_
      exact kh_iret C hr hlocks (by rw [hro]; rfl) dL_early_18
  · skip
    refine kw_i2l C dL_early_10 ?_
    refine kw_last C 38 1 rfl rfl (show kix 0 1 0 from ⟨by unfold vp_in; decide, by decide⟩) dL_early_11 (wR k ah ar ac ax a c (stR_early c t h p0 p1 p2) h ++ [(ao, .inl (k 1, 1, .inr (.inl (vp_updL f 0 (rR_early c t h p0 p1 p2).toInt64))))]) rfl ?_
    refine kw_goto (tgt := 19) C dL_early_12 (by decide) ?_
    refine kw_iconst (v := 0) C dL_early_19 (by decide) ?_
    refine kw_eq (ws' := (wR k ah ar ac ax a c (stR_early c t h p0 p1 p2) h ++ [(ao, .inl (k 1, 1, .inr (.inl (kout (oR_early c t h p0 p1 p2) (rR_early c t h p0 p1 p2).toInt64 f))))])) rfl rfl (by rw [hro]; rfl) ?_
    exact kh_iret C hr hlocks (by rw [hro]; rfl) dL_early_20
theorem eR_strong {c t : CS} {h : HS} {p0 p1 : Int32} {E : String} (hE : oR_strong c t h p0 p1 = .inl E) : E = "java/lang/IllegalArgumentException" := by
  unfold oR_strong at hE
  (repeat' split at hE) <;> first | exact (Sum.inl.inj hE).symm | cases hE
theorem nR_strong_t {c t : CS} {h : HS} {p0 p1 : Int32} {E : String} (hE : oR_strong c t h p0 p1 = .inl E) : stR_strong c t h p0 p1 = t := by
  unfold oR_strong at hE
  unfold stR_strong
  (repeat' split at hE) <;> first | (cases hE; done) | (simp only [*, if_true, if_false, not_true, not_false_eq_true]; done) | simp_all
set_option maxRecDepth 100000 in
set_option maxHeartbeats 4000000 in
theorem cL_strong (l : Launch) (D : va_G) (k : Nat → ClassId) (ah : Nat → Nat) (ar : Nat → Nat → Nat) (ac ax : Nat → Nat) (a ao : Nat) (c t : CS) (h : HS) (f : Nat → Int64) (p0 p1 : Int32) (hl9 : l.stackTraces = false) (hI : kInv h) (o : Nat) (ho : c_over c = nI o) (ho5 : o ≤ 100000) : kHi l yL_strong (kwh yL_strong bL_strong 5 (some .int) [(0, 10, 13, 13)]) ({ frames := 7, cells := 1, slots := 6, locals := 143 }) D kcl (kty k) (wR k ah ar ac ax a c t h ++ [(ao, .inl (k 1, 1, .inr (.inl f)))]) (wR k ah ar ac ax a c (stR_strong c t h p0 p1) h ++ [(ao, .inl (k 1, 1, .inr (.inl (kout (oR_strong c t h p0 p1) (rR_strong c t h p0 p1).toInt64 f))))]) [.ref a, .int p0, .int p1, .ref ao] (kcode (oR_strong c t h p0 p1)) := by
  refine k_entry_h (lv0 := [(0, .ref a), (1, .int p0), (2, .int p1), (3, .ref ao)]) rfl (by decide +kernel) (Nat.le_of_ble_eq_true rfl) rfl ?_
  intro p e s m args below meth c0 C hr hlocks hEx hE hZ hN
  refine kw_aload_n C 3 dL_strong_0 rfl rfl ?_
  refine kw_iconst (v := 0) C dL_strong_1 (by decide) ?_
  refine kw_aload_n C 0 dL_strong_2 rfl rfl ?_
  refine kw_iload_n C 1 dL_strong_3 rfl rfl ?_
  refine kw_iload_n C 2 dL_strong_4 rfl rfl ?_
  refine kw_callXi (w1 := wR k ah ar ac ax a c (stR_strong c t h p0 p1) h) (wr := [(ao, .inl (k 1, 1, .inr (.inl f)))]) (st := [.int 0, .ref ao]) C hE hZ (cR_strong l D k ah ar ac ax a c t h p0 p1 hl9 hI o ho ho5) (cwV 2 C.1.2.2.2.2 (kgV kt_535 kt_536 kt_537 kt_1 kt_538) rfl rfl rfl kdR_strong ⟨Nat.le_of_ble_eq_true rfl, Nat.le_of_ble_eq_true rfl⟩) 0 2 rfl rfl rfl rfl rfl (Nat.le_of_ble_eq_true rfl) dL_strong_5 ⟨Nat.le_of_ble_eq_true rfl, Nat.le_of_ble_eq_true rfl⟩ (ad_wR.trans ad_wR.symm) (fun E hro => ?_) (fun hro => ?_)
  · have hE9 := eR_strong hro
    subst hE9
    · refine ⟨"java/lang/IllegalArgumentException", [], ⟨0, 10, 13, 13⟩, [], hEx, fun z hz => absurd hz List.not_mem_nil, by decide, by decide, C.1.2.2.2.2 _ kt_202, va_Nw.use rfl hE.1.1, ?_⟩
      intro q
      refine kw_astore (lv' := [(4, .ref q), (0, .ref a), (1, .int p0), (2, .int p1), (3, .ref ao)]) C dL_strong_13 (by decide) rfl ?_
      refine kw_iconst (v := 1) C dL_strong_15 (by decide) ?_
      refine kw_eq rfl rfl (show (wR k ah ar ac ax a c t h ++ [(ao, .inl (k 1, 1, .inr (.inl f)))]) = (wR k ah ar ac ax a c (stR_strong c t h p0 p1) h ++ [(ao, .inl (k 1, 1, .inr (.inl (kout (oR_strong c t h p0 p1) (rR_strong c t h p0 p1).toInt64 f))))]) from by rw [nR_strong_t hro, hro]; rfl) ?_
      exact kh_iret C hr hlocks (by rw [hro]; rfl) dL_strong_16
  · skip
    refine kw_i2l C dL_strong_8 ?_
    refine kw_last C 38 1 rfl rfl (show kix 0 1 0 from ⟨by unfold vp_in; decide, by decide⟩) dL_strong_9 (wR k ah ar ac ax a c (stR_strong c t h p0 p1) h ++ [(ao, .inl (k 1, 1, .inr (.inl (vp_updL f 0 (rR_strong c t h p0 p1).toInt64))))]) rfl ?_
    refine kw_goto (tgt := 17) C dL_strong_10 (by decide) ?_
    refine kw_iconst (v := 0) C dL_strong_17 (by decide) ?_
    refine kw_eq (ws' := (wR k ah ar ac ax a c (stR_strong c t h p0 p1) h ++ [(ao, .inl (k 1, 1, .inr (.inl (kout (oR_strong c t h p0 p1) (rR_strong c t h p0 p1).toInt64 f))))])) rfl rfl (by rw [hro]; rfl) ?_
    exact kh_iret C hr hlocks (by rw [hro]; rfl) dL_strong_18
