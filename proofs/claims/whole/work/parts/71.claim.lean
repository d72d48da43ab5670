theorem karr {s : State} {args : Array Value} {ty : FieldType} (ho : ∀ C, ty ≠ .object C) (h : (Cond.arrayClass ty).before args s = true) : ∃ cA : ClassId, ArrOfT s cA ty ∧ va_RA s cA ty := by
  obtain ⟨c, k, comp, h1, h2, h3⟩ := Cond.arrayClass_spec h
  refine ⟨c, fun N z => ⟨(fun k h => by cases h), k, h2, comp, h3⟩, ?_⟩
  cases ty <;> first | exact absurd rfl (ho _) | exact h1
theorem karr2 {s : State} (h : va_AOA .int s) : ∃ cA : ClassId, ArrOfT s cA (.array .int) ∧ va_RA s cA (.array .int) := by
  obtain ⟨comp, c, k, h1, -, h2, h3, h4⟩ := kao_spec h
  exact ⟨c, fun N z => ⟨(fun k h => by cases h), k, h2, comp, h3⟩, h4⟩
theorem kstr_in : ∀ q ∈ kStr, Cond.stringRef "RoomHours" q.1 q.2 ∈ lw_tbl := by decide +kernel
theorem kE_0 {s : State} {args : Array Value} {cR : ClassId} (hts : ∀ w ∈ lw_tbl, w.before args s = true) (hR : s.vm.findClass "RoomHours" = some cR) : kE s := by
  refine ⟨⟨va_Nw.of rfl (hts _ (by decide +kernel)), va_Nw.of rfl (hts _ (by decide +kernel))⟩, ⟨va_Nw.of rfl (hts _ (by decide +kernel)), va_Nw.of rfl (hts _ (by decide +kernel)), va_Nw.of rfl (hts _ (by decide +kernel))⟩, fun q hq => ?_⟩
  have h1 := hts _ (kstr_in q hq)
  obtain ⟨-, -, -, sa, -, -, -, -, -, hev⟩ := Cond.stringRef_spec hR h1
  exact ⟨sa, vk_R.of h1 hev⟩
set_option maxRecDepth 100000 in
set_option maxHeartbeats 4000000 in
theorem whole_start {p : Program} {e : Env} {s : State} {m : MethodId} {below : List Frame} {meth : Method} {c : Code} (l : Launch) {b L : Nat} {xs : Nat → Int32} (hl9 : l.stackTraces = false) (hL : L ≤ 2560) (C0 : lw_At p s m meth c b L xs) : W p l e room_1 s m #[Value.ref b] below meth c s.heap [] 0 0 (lw_Z below #[Value.ref b] s) (entryFrame m ([Value.ref b] : List Value).toArray 8) := by
  obtain ⟨hx, hb, hr, hml, hown, hts, hX, hbl, hlocks, hgv⟩ := id C0
  have hA : ∀ q : Nat, s.heap.size ≤ q → (fun q : Nat => s.heap.size ≤ q) q := fun _ h => h
  have hkT : ∀ w ∈ kT, w.before #[Value.ref b] s = true := fun w h => hts w (List.mem_filter.mp h).1
  obtain ⟨cC, iC, kC0⟩ := u_known (C := "RoomHours$Course") (T := TC) (N := 18) (n := 18) hkT ku_C (hkT _ kt_117)
  obtain ⟨cH, iH, kH0⟩ := u_known (C := "RoomHours$House") (T := TH) (N := 18) (n := 18) hkT ku_H (hkT _ kt_22)
  obtain ⟨cR, iR, kR0⟩ := u_known (C := "RoomHours") (T := TR) (N := 3) (n := 3) hkT ku_R (hkT _ kt_14)
  obtain ⟨cM, iM, kM0⟩ := u_known (C := "RoomHoursModel") (T := TM) (N := 37) (n := 37) hkT ku_M (hkT _ kt_550)
  obtain ⟨dC, dI, hKc⟩ : ∃ (dC : Nat → ClassId) (dI : Nat → Nat → Nat), ∀ (k : Nat) (q : vw_C), kcl[k]? = some q → u_Kn s q.1 q.2.1 q.2.2 (dC k) (dI k) := by
    refine ⟨fun k => if k = 0 then cC else if k = 1 then cH else if k = 2 then cR else cM, fun k => if k = 0 then iC else if k = 1 then iH else if k = 2 then iR else iM, ?_⟩
    intro k q hq
    match k, hq with
    | 0, hq => cases hq; exact kC0
    | 1, hq => cases hq; exact kH0
    | 2, hq => cases hq; exact kR0
    | 3, hq => cases hq; exact kM0
    | k + 4, hq => simp [kcl] at hq
  obtain ⟨k0, ka0⟩ := karr (ty := .int) (fun _ h => by cases h) (hkT _ kt_115)
  obtain ⟨k1, ka1⟩ := karr (ty := .long) (fun _ h => by cases h) (hkT _ kt_188)
  obtain ⟨k2, ka2⟩ := karr2 (hts (.arrayOver (.array .int)) (by decide +kernel))
  obtain ⟨k, e0, e1, e2⟩ : ∃ k : Nat → ClassId, k 0 = k0 ∧ k 1 = k1 ∧ k 2 = k2 := ⟨fun n => if n = 0 then k0 else if n = 1 then k1 else k2, rfl, rfl, rfl⟩
  subst e0
  subst e1
  subst e2
  have hK : va_K (dC, dI) kcl (kty k) s := by
    refine ⟨hKc, fun i q hq => ?_⟩
    match i, hq with
    | 0, hq => cases hq; exact ka0
    | 1, hq => cases hq; exact ka1
    | 2, hq => cases hq; exact ka2
    | i + 3, hq => simp [kty] at hq
  have hE : kE s := kE_0 hts kR0.2.1
  have hgs := flat_of_before _ hgv
  have hZ : kZ (fun q : Nat => s.heap.size ≤ q) s s.heap := ⟨vx_Zqof (hts _ (by decide +kernel)) (hts _ (by decide +kernel)) (hgs _ (by decide +kernel)) (fun q h => Nat.not_le.mpr h), vx_Zqof (hts _ (by decide +kernel)) (hts _ (by decide +kernel)) (hgs _ (by decide +kernel)) (fun q h => Nat.not_le.mpr h)⟩
  have hN : kN9 s := va_Nc.of (args := #[Value.ref b]) (hgs _ (by decide +kernel))
  have hAO : va_AOA .int s := hts (.arrayOver (.array .int)) (by decide +kernel)
  have C : kC p s m #[Value.ref b] c code "RoomHoursLaw" kT (dC, dI) kcl (kty k) (fun q : Nat => s.heap.size ≤ q) 8 := ⟨⟨hx, hb, hml, hown, hkT⟩, hK, hA⟩
  have hP : va_P (dC, dI) kcl [] s.heap := fun k q h => by simp at h
  have hD : va_D (fun q : Nat => s.heap.size ≤ q) [] := ⟨fun i j p q h => by simp at h, fun k q h => by simp at h⟩
  have hl := lv_entry ([.ref b]) (n := 8) (Nat.le_of_ble_eq_true rfl)
  rw [lg_entry_eq]
  generalize (lg_sl ([.ref b]) ++ List.replicate (8 - (lg_sl ([.ref b])).length) Slot.unset).toArray = ls at hl ⊢
  have hl : lv_has ls 8 [(0, .ref b)] := hl
  suffices K : kW p l e room_1 s m #[Value.ref b] below meth c (dC, dI) kcl (fun q : Nat => s.heap.size ≤ q) 8 0 0 (lw_Z below #[Value.ref b] s) 0 [(0, .ref b)] [] [] from K s.heap [] ls hP hD va_S.rf hl
  refine kw_new (ci := 2) (fs := [.null, .null, .null]) C ku_R tR_ok kt_13 kt_14 kt_1 rfl (by decide +kernel) (Nat.le_of_ble_eq_true rfl) (Nat.le_of_ble_eq_true rfl) dL_law_0 (fun a => ?_)
  refine kw_dup C dL_law_3 rfl ?_
  refine kw_callI (st := [.ref a]) (wr := []) C hAO (cR_init l (dC, dI) k a) (cwI 0 C.1.2.2.2.2 (kgI kt_17) rfl rfl rfl (C.1.2.2.2.2 _ kt_1) (C.1.2.2.2.2 _ kt_15) (C.1.2.2.2.2 _ kt_16) rfl (by decide +kernel) ⟨Nat.le_of_ble_eq_true rfl, Nat.le_of_ble_eq_true rfl⟩) [0] [] rfl (by decide) rfl (by decide) (by decide) rfl rfl (Nat.le_of_ble_eq_true rfl) dL_law_4 ⟨Nat.le_of_ble_eq_true rfl, Nat.le_of_ble_eq_true rfl⟩ (fun w1 hw1 => ?_)
  obtain ⟨ah, ar, ac, ax, rfl⟩ := hw1
  refine kw_eq (ws' := wR k ah ar ac ax a c_init c_init h_init) rfl rfl rfl ?_
  refine kw_astore_n (lv' := [(1, .ref a), (0, .ref b)]) C dL_law_7 rfl (by decide) rfl ?_
  refine kw_new (ci := 3) (fs := [.int 0, .int 0, .null, .null, .null, .null, .null, .null, .null, .null, .long 0, .int 0, .null, .null, .null, .int 0, .null, .null, .null, .null, .null, .null, .null, .null, .null, .int 0, .int 0, .int 0, .long 0, .long 0, .long 0, .null, .int 0, .int 0, .int 0, .int 0, .null]) C ku_M tM_ok kt_549 kt_550 kt_5 rfl (by decide +kernel) (Nat.le_of_ble_eq_true rfl) (Nat.le_of_ble_eq_true rfl) dL_law_8 (fun q => ?_)
  refine kw_dup C dL_law_11 rfl ?_
  refine kw_callI (st := [.ref q]) (wr := wR k ah ar ac ax a c_init c_init h_init) C hAO (cM_init l (dC, dI) k q) (cwI 0 C.1.2.2.2.2 (kgI kt_553) rfl rfl rfl (C.1.2.2.2.2 _ kt_5) (C.1.2.2.2.2 _ kt_551) (C.1.2.2.2.2 _ kt_552) rfl (by decide +kernel) ⟨Nat.le_of_ble_eq_true rfl, Nat.le_of_ble_eq_true rfl⟩) [38] [0, 1, 2, 3, 4, 5, 6, 7, 8, 9, 10, 11, 12, 13, 14, 15, 16, 17, 18, 19, 20, 21, 22, 23, 24, 25, 26, 27, 28, 29, 30, 31, 32, 33, 34, 35, 36, 37] rfl (by decide) rfl (by decide) (by decide) rfl rfl (Nat.le_of_ble_eq_true rfl) dL_law_12 ⟨Nat.le_of_ble_eq_true rfl, Nat.le_of_ble_eq_true rfl⟩ (fun w2 hw2 => ?_)
  obtain ⟨am, ham, rfl⟩ := hw2
  subst ham
  refine kw_astore_n (lv' := [(2, .ref (am 0)), (1, .ref a), (0, .ref b)]) C dL_law_15 rfl (by decide) rfl ?_
  refine kw_iconst (v := 1) C dL_law_16 (by decide) ?_
  refine kw_newa (atype := .long) (N' := 1) (a0 := (1, .inr (.inl (fun _ => 0)))) C 1 rfl (fun _ h => by cases h) kt_188 rfl (fun _ => rfl) (by decide) (by decide) (Nat.le_of_ble_eq_true rfl) (Nat.le_of_ble_eq_true rfl) (Nat.le_of_ble_eq_true rfl) dL_law_17 (fun ao => ?_)
  refine kw_astore_n (lv' := [(3, .ref ao), (2, .ref (am 0)), (1, .ref a), (0, .ref b)]) C dL_law_19 rfl (by decide) rfl ?_
  refine kw_iconst (v := 0) C dL_law_20 (by decide) ?_
  refine kw_istore (lv' := [(4, .int 0), (3, .ref ao), (2, .ref (am 0)), (1, .ref a), (0, .ref b)]) C dL_law_21 (by decide) rfl ?_
  refine kw_perm (ws' := ((wR k ah ar ac ax a c_init c_init h_init ++ [(ao, .inl (k 1, 1, .inr (.inl (fun _ => 0))))]) ++ wM k am (gu_at k192) gv_init)) [0, 1, 2, 3, 4, 5, 6, 7, 8, 9, 10, 11, 12, 13, 14, 15, 16, 17, 18, 19, 20, 21, 22, 23, 24, 25, 26, 27, 28, 29, 30, 31, 32, 33, 34, 35, 36, 37, 61, 38, 39, 40, 41, 42, 43, 44, 45, 46, 47, 48, 49, 50, 51, 52, 53, 54, 55, 56, 57, 58, 59, 60] rfl (by decide) ?_
  refine kw_sub (lv' := [(4, .int (nI (5 * 0))), (0, .ref b), (1, .ref a), (2, .ref (am 0)), (3, .ref ao)]) [0, 4, 3, 2, 1] rfl ?_
  refine kw_widen (k := 100 + 0) (n := 2000 + 6 * 0) (Nat.le_of_ble_eq_true rfl) (Nat.le_of_ble_eq_true rfl) ?_
  exact law_loop k ah ar ac ax am a ao b L xs hl9 C hr hlocks hE hZ hN hX hbl hL (L + 1) 0 c_init c_init h_init (gu_at k192) gv_init (fun _ => 0) (by omega) (by omega) Rl_0
-- ===== YOUR PART ENDS =====
set_option maxHeartbeats 4000000 in
theorem lw_walk (l : Launch) (hl9 : l.stackTraces = false) (b : Addr) (xs : List Int32) : MetFree l x (headSpec (Jvm.Cond.code x code maxLocals ret :: tables_1) room_1) (lw_P b xs) (fun _ _ _ _ _ => True) lw_Q := by
  refine MetFree.of_bodyS (code := code) (maxLocals := maxLocals) (ret := ret) (by decide) ?_ ?_
  · intro args s m h hn
    obtain ⟨meth, c, h1, h2, h3, h4, h5, h6, -, -⟩ := Cond.code_spec hn (atoms_spec (ws := Jvm.Cond.code x code maxLocals ret :: tables_1) h _ List.mem_cons_self)
    exact ⟨meth, c, h1, h2, h3, h4, h5, h6⟩
  · intro p e s m args below meth c s₁ B hml0 hP _
    obtain ⟨rfl, hx, hbd, hgv⟩ := hP
    obtain ⟨scr, harrAt, hlist, hof, hsmall⟩ := hx
    obtain ⟨hcb, hkn, -, -⟩ := State.arrayAt?_spec harrAt
    have hown : s.vm.findClass R_law = some m.cls := findClass_of_methodNamed B.named
    have hts0 : ∀ c ∈ (Jvm.Cond.code x code maxLocals ret :: tables_1), c.before #[Value.ref b] s = true := atoms_spec (ws := Jvm.Cond.code x code maxLocals ret :: tables_1) B.pre
    have hts : ∀ w ∈ lw_tbl, w.before #[Value.ref b] s = true := k2_hts_sels lw_privs (fun w hw => hts0 w (List.mem_cons_of_mem _ hw)) lw_privs_ok
    have hml : c.maxLocals = 8 := B.maxLocals_eq (hts0 _ List.mem_cons_self)
    have X₀ : Stand p l e room_1 s m #[Value.ref b] below meth c s₁ [] 0 0 := Stand.of_body B
    have hh0 : s₁.heap = s.heap := by rw [B.state]; rfl
    have hsz : scr.slots.size = xs.length := by rw [← Array.length_toList, hlist, List.length_map]
    have hval : ∀ j : Nat, j < xs.length → scr.slots[j]? = some (.int (xs.getD j 0)) := fun j hj => by
      rw [← Array.getElem?_toList, hlist]
      simp [hj]
    have hbl : b < s.heap.size := (Array.getElem?_eq_some_iff.mp hcb).1
    have hX : va_X b xs.length (fun j => xs.getD j 0) s s.heap := ⟨scr, hcb, hof, hkn, hsz, hval⟩
    have K : W p l e room_1 s m #[Value.ref b] below meth c s₁.heap [] 0 0 (lw_Z below #[Value.ref b] s) (entryFrame m ([Value.ref b] : List Value).toArray 8) := by
      rw [hh0]
      exact whole_start l hl9 hbd ⟨B.exec, B.bytes, B.returns, hml, hown, hts, hX, hbl, B.notSynchronized, hgv⟩
    obtain ⟨t, a1, o, b1, b2, b3⟩ := K s₁ rfl X₀
    exact ⟨t, o, a1, b1, b2, b3⟩
theorem lw_pre_spec {args : Array Value} {s : State} (h : (Jvm.Cond.and given_1 narrow_1).before args s = true) (hr : rest_1_c.before args s = true) : ∃ (b : Addr) (xs : List Int32), lw_P b xs args s := by
  have hs := flat_of_before _ h
  have hq := flat_of_before _ hr
  have hc : (Cond.count 1).before args s = true := hs _ (by decide +kernel)
  have harr : (Cond.arrayOf (.arg 0) .int).before args s = true := hs _ (by decide +kernel)
  have hle : (Cond.le (.length (.arg 0)) (.int 2560)).before args s = true := hs _ (by decide +kernel)
  have hlen : (Cond.isInt (.length (.arg 0))).before args s = true := hq _ (by decide +kernel)
  have hall : (Cond.all (.arg 0) (.isInt (.elem (.arg 0) (.index 0)))).before args s = true := hq _ (by decide +kernel)
  obtain ⟨b, xs, hb, hx⟩ := State.ints_of_pre rfl harr hlen hall
  have hsm : xs.length < 2 ^ 31 := hx.choose_spec.2.2.2
  have hev : (Term.length (.arg 0)).eval args s none [] s = some (.int xs.length.toInt32) := hx.length_eval hb
  have hv := Cond.le_ints hev (show (Term.int 2560).eval args s none [] s = some (.int 2560) from rfl)
  have hd : xs.length.toInt32 ≤ 2560 := by
    simpa [Cond.before, Cond.holds, hv] using hle
  have hN : xs.length ≤ 2560 := (Int32.ofNat_le_ofNat hsm (by decide)).mp (show Int32.ofNat xs.length ≤ Int32.ofNat 2560 from hd)
  exact ⟨b, xs, Cond.one_arg hc (show args[0]? = some (.ref b) from hb), hx, hN, h⟩
theorem lw_comes (l : Launch) (hl9 : l.stackTraces = false) : Comes l x (Jvm.Cond.code x code maxLocals ret :: tables_1) room_1 (fun tb e args s => Calls_1 tb e args s ∧ rest_1 tb e args s ∧ Pre_1 tb e args s)
    (fun _ _ args s o t => lw_Q args s o t) := by
  intro p e ha hc hk s m args below hf hfit hheap happ hpre
  obtain ⟨b, xs, hP⟩ := lw_pre_spec hpre.2.2 hpre.2.1
  obtain ⟨k, o, h1, h2, h3, hQ⟩ := lw_walk l hl9 b xs p e ha hc hk s m args below hf ((Spec.applies_iff_loose hf).mp happ).1 hP trivial
  exact ⟨k, o, h1, h2, h3, hQ⟩
theorem lw_frame {s t : State} {o : Outcome} {args : Array Value} (h : Framed s o t [] 601024 7293034) :
    Framed s o t (fieldLocs frame_1_writes args s ++ arrayLocs frame_1_arrays args s ++ staticLocs frame_1_statics s) 601024 7293034 := h
theorem lw_limb (L : Cond) (hL : ∀ (args : Array Value) (s t : State), L.after args s (.returned (some (.int 1))) t = true) :
    ArmFor flags0 classFile x code maxLocals ret World_1 tables_1 room_1 Calls_1 rest_1 Pre_1
      (fun tb e a s o t => postC L tb e a s o t ∧ Framed s o t (fieldLocs frame_1_writes a s ++ arrayLocs frame_1_arrays a s ++ staticLocs frame_1_statics s) 601024 7293034) := by
  intro l hfl _ _ p e ha hc hk s m args below hf hfit hheap happ hpre
  obtain ⟨k, o, h1, h2, h3, rfl, hF⟩ := lw_comes l (by unfold Launch.stackTraces; rw [hfl]; decide) p e ha hc hk s m args below hf hfit hheap happ hpre
  exact ⟨k, _, h1, h2, h3, hL args s _, lw_frame hF⟩
theorem i_vc : Claimed_1_1 ∧ Claimed_1_2 := ⟨lw_limb limb_1_1 (fun args s t => by simp [limb_1_1, Cond.after, Cond.holds, Cond.value]), lw_limb limb_1_2 (fun args s t => Cond.after_iff.mpr (by
  first | (rw [show limb_1_2 = Cond.eq .result (.int 1) from rfl, Cond.eq_ints (x := 1) (y := 1) rfl rfl]; simp; done) | (simp [limb_1_2, Cond.value, Term.eval]; done)))⟩

