def k25 : Nat := 25
theorem k25_eq : k25 = 25 := rfl
theorem klr1 {i : Nat} (hi : i ≤ k25) (h : 24 < nI i) : i = k25 := by
  have e := k25_eq
  rw [show (24 : Int32) = nI 24 from rfl, nI_ltI (by decide) (by omega)] at h
  omega
theorem klr2 {i : Nat} (hi : i ≤ k25) (h : ¬ 24 < nI i) : i < k25 := by
  have e := k25_eq
  rw [show (24 : Int32) = nI 24 from rfl, nI_ltI (by decide) (by omega)] at h
  omega
theorem klp3 {x : Int32} {o K i : Nat} (hx : x = nI (o + K)) (hN : o + K < 2 ^ 31) (hi : i ≤ K) (h : x ≤ nI (o + i)) : i = K := by
  rw [hx, nI_leI hN (by omega)] at h
  omega
theorem klp4 {x : Int32} {o K i : Nat} (hx : x = nI (o + K)) (hN : o + K < 2 ^ 31) (hi : i ≤ K) (h : ¬ x ≤ nI (o + i)) : i < K := by
  rw [hx, nI_leI hN (by omega)] at h
  omega
theorem ov_tryS (c t : CS) (h : HS) (room w from_ : Int32) : c_over (scC_trySet (stC_copyOf c t h) h room w from_) = c_over c := by
  unfold scC_trySet
  rw [over_mk]
  unfold stC_copyOf
  exact over_mk
noncomputable def bR_early_95 (z : CS) (c : CS) (t : CS) (h : HS) (room : Int32) (hour : Int32) (wanted : Int32) (bg : Int32) (x5 : Int32) (x6 : Int32) (o : Nat) (K : Nat) (i : Nat) : CS := (scC_step z h)
noncomputable def fR_early_95 (c : CS) (t : CS) (h : HS) (room : Int32) (hour : Int32) (wanted : Int32) (bg : Int32) (x5 : Int32) (x6 : Int32) (o : Nat) (K : Nat) (n : Nat) : CS := Nat.rec (motive := fun _ => CS) t (fun i z => bR_early_95 z c t h room hour wanted bg x5 x6 o K i) n
theorem ov_R_early (c t : CS) (h : HS) (room hour wanted bg x5 x6 : Int32) (o K : Nat) (ho : c_over t = nI o) (i : Nat) : c_over (fR_early_95 c t h room hour wanted bg x5 x6 o K i) = nI o + nI i := by
  induction i with
  | zero => exact ho.trans (by rw [nI_add, Nat.add_zero])
  | succ i ih =>
    show c_over (scC_step (fR_early_95 c t h room hour wanted bg x5 x6 o K i) h) = _
    rw [ov_step, ih, ← nI_1, Int32.add_assoc]
set_option maxRecDepth 100000 in
set_option maxHeartbeats 4000000 in
theorem lR_early_95 {l : Launch} {p : Program} {e : Env} {s : State} {m : MethodId} {args : Array Value} {below : List Frame} {meth : Method} {c0 : Code} {D : va_G} {A : Nat → Prop} {Q : State → Prop} (k : Nat → ClassId) (ah : Nat → Nat) (ar : Nat → Nat → Nat) (ac ax : Nat → Nat) (a : Nat) (c t : CS) (h : HS) (room : Int32) (hour : Int32) (wanted : Int32) (bg : Int32) (x5 : Int32) (x6 : Int32) (o : Nat) (K : Nat) (hI : kInv h) (hb : bg = nI (o + K)) (hto : c_over t = nI o) (ho5 : o ≤ 100000) (hK : K ≤ 96) (C : kC p s m args c0 bR_early "RoomHours" kT D kcl (kty k) A 8) (kk : kW p l e ({ frames := 6, cells := 1, slots := 6, locals := 96 }) s m args below meth c0 D kcl A 8 0 0 Q 115 [(7, .int (nI (o + K))), (0, .ref a), (1, .int room), (2, .int hour), (3, .int wanted), (4, .int bg), (5, .int x5), (6, .int x6)] [] (wR k ah ar ac ax a c (fR_early_95 c t h room hour wanted bg x5 x6 o K K) h)) : ∀ (n i : Nat), i ≤ K → K < i + n → kW p l e ({ frames := 6, cells := 1, slots := 6, locals := 96 }) s m args below meth c0 D kcl A 8 0 0 Q 95 [(7, .int (nI (o + i))), (0, .ref a), (1, .int room), (2, .int hour), (3, .int wanted), (4, .int bg), (5, .int x5), (6, .int x6)] [] (wR k ah ar ac ax a c (fR_early_95 c t h room hour wanted bg x5 x6 o K i) h) := by
  intro n
  induction n with
  | zero => exact fun i h1 h2 => absurd h2 (by omega)
  | succ n ih =>
    intro i hi hin
    refine kw_iload C 0 dR_early_95 rfl ?_
    refine kw_iload C 5 dR_early_97 rfl ?_
    refine kw_icmp_ge (tgt := 115) C dR_early_99 (by decide) (fun c_1 => ?_) (fun c_1 => ?_)
    · skip
      have e9 : i = K := klp3 hb (by omega) hi c_1
      subst e9
      refine kw_sub [0, 1, 2, 3, 4, 5, 6, 7] rfl ?_
      exact kk
    · skip
      have hlt : i < K := klp4 hb (by omega) hi c_1
      refine kw_aload_n C 1 dR_early_102 rfl rfl ?_
      refine kw_get (v := .ref (ax 0)) C 0 rfl rfl ku_R 2 (by decide) kt_191 rfl dR_early_103 ?_
      refine kw_callPv (ws' := (wR k ah ar ac ax a c (scC_step (fR_early_95 c t h room hour wanted bg x5 x6 o K i) h) h)) (st := []) C (cC_step l D k ah ar ax (fR_early_95 c t h room hour wanted bg x5 x6 o K i) h hI (know (ov_R_early c t h room hour wanted bg x5 x6 o K hto i) (by omega))) (cwV 0 C.1.2.2.2.2 (kgV kt_418 kt_419 kt_420 kt_4 kt_421) rfl rfl rfl kdC_step ⟨Nat.le_of_ble_eq_true rfl, Nat.le_of_ble_eq_true rfl⟩) [31, 32, 33, 34, 35, 36, 37, 8, 9, 10, 11, 12, 13, 14, 15, 16, 17, 18, 19, 20, 21, 22, 23, 24, 25, 26, 27, 28, 29, 30] [0, 1, 2, 3, 4, 5, 6, 7] [0, 1, 2, 3, 4, 5, 6, 7, 15, 16, 17, 18, 19, 20, 21, 22, 23, 24, 25, 26, 27, 28, 29, 30, 31, 32, 33, 34, 35, 36, 37, 8, 9, 10, 11, 12, 13, 14] chR_T rhR_T ppR_T (by decide) (by decide) (by decide) (by decide) 0 0 rfl rfl rfl rfl rfl (Nat.le_of_ble_eq_true rfl) dR_early_106 ⟨Nat.zero_le _, Nat.zero_le _⟩ ?_
      refine kw_iinc (v := (nI (o + i)) + 1) (lv' := [(7, .int ((nI (o + i)) + 1)), (0, .ref a), (1, .int room), (2, .int hour), (3, .int wanted), (4, .int bg), (5, .int x5), (6, .int x6)]) C 0 dR_early_109 rfl rfl (by decide) rfl ?_
      refine kw_goto (tgt := 95) C dR_early_112 (by decide) ?_
      refine kw_sub [0, 1, 2, 3, 4, 5, 6, 7] rfl ?_
      refine kw_eq (show ([(7, .int ((nI (o + i)) + 1)), (0, .ref a), (1, .int room), (2, .int hour), (3, .int wanted), (4, .int bg), (5, .int x5), (6, .int x6)] : List (Nat × Value)) = [(7, .int (nI (o + (i + 1)))), (0, .ref a), (1, .int room), (2, .int hour), (3, .int wanted), (4, .int bg), (5, .int x5), (6, .int x6)] from by rw [nI_1, Nat.add_assoc]) rfl rfl ?_
      refine kw_eq rfl rfl ((congrArg (fun z90 => wR k ah ar ac ax a c z90 h) ((show (scC_step (fR_early_95 c t h room hour wanted bg x5 x6 o K i) h) = (bR_early_95 (fR_early_95 c t h room hour wanted bg x5 x6 o K i) c t h room hour wanted bg x5 x6 o K i) from by unfold bR_early_95; rfl).trans (show (bR_early_95 (fR_early_95 c t h room hour wanted bg x5 x6 o K i) c t h room hour wanted bg x5 x6 o K i) = (fR_early_95 c t h room hour wanted bg x5 x6 o K (i + 1)) from rfl)))) ?_
      exact ih (i + 1) (by omega) (by omega)
noncomputable def hR_early (rec_ : CS → Int32 × CS) (i : Nat) (z : CS) (c : CS) (h : HS) (room : Int32) (hour : Int32) (wanted : Int32) (bg : Int32) (o : Nat) (K : Nat) : Int32 × CS := if (lg_cmp (rC_warmthOf (fR_early_95 c (scC_trySet (stC_copyOf c z h) h room wanted (bg - ((nI i) * 4))) h room hour wanted bg (nI i) (bg - (nI i) * 4) o K K) h room) wanted.toInt64) < 0 then (if (c_over c) < (bg - (nI i) * 4) then rec_ (fR_early_95 c (scC_trySet (stC_copyOf c z h) h room wanted (bg - ((nI i) * 4))) h room hour wanted bg (nI i) (bg - (nI i) * 4) o K K) else (-1000000, (fR_early_95 c (scC_trySet (stC_copyOf c z h) h room wanted (bg - ((nI i) * 4))) h room hour wanted bg (nI i) (bg - (nI i) * 4) o K K))) else ((nI i), (fR_early_95 c (scC_trySet (stC_copyOf c z h) h room wanted (bg - ((nI i) * 4))) h room hour wanted bg (nI i) (bg - (nI i) * 4) o K K))
noncomputable def gR_early (c : CS) (h : HS) (room : Int32) (hour : Int32) (wanted : Int32) (bg : Int32) (o : Nat) (K : Nat) (n : Nat) : Nat → CS → Int32 × CS := Nat.rec (motive := fun _ => Nat → CS → Int32 × CS) (fun _ z => (-1000000, z)) (fun _ rec_ i z => hR_early (rec_ (i + 1)) i z c h room hour wanted bg o K) n
set_option maxRecDepth 100000 in
set_option maxHeartbeats 4000000 in
theorem lR_early {l : Launch} {p : Program} {e : Env} {s : State} {m : MethodId} {args : Array Value} {below : List Frame} {meth : Method} {c0 : Code} {D : va_G} {w0 w1 : va_W} {ro : String ⊕ Unit} {r : Int32} (k : Nat → ClassId) (ah : Nat → Nat) (ar : Nat → Nat → Nat) (ac ax : Nat → Nat) (a : Nat) (c t : CS) (h : HS) (room : Int32) (hour : Int32) (wanted : Int32) (bg : Int32) (o : Nat) (K : Nat) (hI : kInv h) (hr8 : vp_in room 8) (hb : bg = nI (o + K)) (ho : c_over c = nI o) (ho5 : o ≤ 100000) (hK : K ≤ 96) (C : kC p s m args c0 bR_early "RoomHours" kT D kcl (kty k) (va_A w0 s.heap.size) 8) (hr : meth.sig.returnType = some .int) (hlocks : meth.locks = false) {G : Int32 × CS} (hro : ro = .inr ()) (hG1 : G.1 = r) (hG2 : (wR k ah ar ac ax a c G.2 h) = w1) : ∀ (n i : Nat) (z : CS), i ≤ k25 → k25 < i + n → True → gR_early c h room hour wanted bg o K (k25 - i) i z = G → kW p l e ({ frames := 6, cells := 1, slots := 6, locals := 96 }) s m args below meth c0 D kcl (va_A w0 s.heap.size) 8 0 0 (vx_MQ below (kXi D kcl w0 w1 ro r s.heap.size) (kXC D kcl w0 ro s.heap.size) args s 1 6 (va_A w0 s.heap.size)) 48 [(5, .int (nI i)), (0, .ref a), (1, .int room), (2, .int hour), (3, .int wanted), (4, .int bg)] [] (wR k ah ar ac ax a c z h) := by
  intro n
  induction n with
  | zero => exact fun i z h1 h2 => absurd h2 (by omega)
  | succ n ih =>
    intro i z hi hin hz hg
    refine kw_iload C 0 dR_early_48 rfl ?_
    refine kw_bipush (v := 24) C dR_early_50 (by decide) ?_
    refine kw_icmp_gt (tgt := 153) C dR_early_52 (by decide) (fun c_1 => ?_) (fun c_1 => ?_)
    · skip
      refine kw_ldc (v := -1000000) C kt_389 dR_early_153 ?_
      have e9 : i = k25 := klr1 hi c_1
      have hg2 : (-1000000, z) = G := by rw [e9, Nat.sub_self] at hg; exact hg
      refine kw_eq rfl rfl (((congrArg (fun z90 => wR k ah ar ac ax a c z90 h) (show z = G.2 from by rw [← hg2]))).trans hG2) ?_
      exact kx_iret C hr hlocks hro ((show -1000000 = G.1 from by rw [← hg2]).trans hG1) dR_early_155
    · skip
      have hlt : i < k25 := klr2 hi c_1
      have hg1 : hR_early (gR_early c h room hour wanted bg o K (k25 - (i + 1)) (i + 1)) i z c h room hour wanted bg o K = G := by rw [show k25 - i = (k25 - (i + 1)) + 1 from by omega] at hg; exact hg
      refine kw_iload C 5 dR_early_55 rfl ?_
      refine kw_iload C 0 dR_early_57 rfl ?_
      refine kw_iconst (v := 4) C dR_early_59 (by decide) ?_
      refine kw_imul C dR_early_60 ?_
      refine kw_isub C dR_early_61 ?_
      refine kw_istore (lv' := [(6, .int (bg - ((nI i) * 4))), (5, .int (nI i)), (0, .ref a), (1, .int room), (2, .int hour), (3, .int wanted), (4, .int bg)]) C dR_early_62 (by decide) rfl ?_
      refine kw_aload_n C 2 dR_early_64 rfl rfl ?_
      refine kw_get (v := .ref (ax 0)) C 0 rfl rfl ku_R 2 (by decide) kt_191 rfl dR_early_65 ?_
      refine kw_aload_n C 2 dR_early_68 rfl rfl ?_
      refine kw_get (v := .ref (ac 0)) C 0 rfl rfl ku_R 1 (by decide) kt_190 rfl dR_early_69 ?_
      refine kw_callAv (w1 := (wR k ah ar ac ax a c (stC_copyOf c z h) h)) (st := []) C (cC_copyOf l D k ah ar ac ax a c z h) (cwV 1 C.1.2.2.2.2 (kgV kt_521 kt_522 kt_523 kt_4 kt_524) rfl rfl rfl kdC_copyOf ⟨Nat.le_of_ble_eq_true rfl, Nat.le_of_ble_eq_true rfl⟩) 31 0 rfl rfl rfl rfl rfl (Nat.le_of_ble_eq_true rfl) dR_early_72 ⟨Nat.zero_le _, Nat.zero_le _⟩ (ad_wR.trans ad_wR.symm) ?_
      refine kw_aload_n C 2 dR_early_75 rfl rfl ?_
      refine kw_get (v := .ref (ax 0)) C 0 rfl rfl ku_R 2 (by decide) kt_191 rfl dR_early_76 ?_
      refine kw_iload_n C 3 dR_early_79 rfl rfl ?_
      refine kw_iload_n C 5 dR_early_80 rfl rfl ?_
      refine kw_iload C 0 dR_early_81 rfl ?_
      refine kw_callPv (ws' := (wR k ah ar ac ax a c (scC_trySet (stC_copyOf c z h) h room wanted (bg - ((nI i) * 4))) h)) (st := []) C (cC_trySet l D k ah ar ax (stC_copyOf c z h) h room wanted (bg - ((nI i) * 4))) (cwV 3 C.1.2.2.2.2 (kgV kt_528 kt_529 kt_530 kt_4 kt_531) rfl rfl rfl kdC_trySet ⟨Nat.le_of_ble_eq_true rfl, Nat.le_of_ble_eq_true rfl⟩) [31, 32, 33, 34, 35, 36, 37, 8, 9, 10, 11, 12, 13, 14, 15, 16, 17, 18, 19, 20, 21, 22, 23, 24, 25, 26, 27, 28, 29, 30] [0, 1, 2, 3, 4, 5, 6, 7] [0, 1, 2, 3, 4, 5, 6, 7, 15, 16, 17, 18, 19, 20, 21, 22, 23, 24, 25, 26, 27, 28, 29, 30, 31, 32, 33, 34, 35, 36, 37, 8, 9, 10, 11, 12, 13, 14] chR_T rhR_T ppR_T (by decide) (by decide) (by decide) (by decide) 0 0 rfl rfl rfl rfl rfl (Nat.le_of_ble_eq_true rfl) dR_early_83 ⟨Nat.zero_le _, Nat.zero_le _⟩ ?_
      refine kw_aload_n C 2 dR_early_86 rfl rfl ?_
      refine kw_get (v := .ref (ac 0)) C 0 rfl rfl ku_R 1 (by decide) kt_190 rfl dR_early_87 ?_
      refine kw_get (v := .int (c_over c)) C 1 rfl rfl ku_C 1 (by decide) kt_124 rfl dR_early_90 ?_
      refine kw_istore (lv' := [(7, .int (c_over c)), (6, .int (bg - ((nI i) * 4))), (5, .int (nI i)), (0, .ref a), (1, .int room), (2, .int hour), (3, .int wanted), (4, .int bg)]) C dR_early_93 (by decide) rfl ?_
      refine kw_sub [0, 3, 4, 5, 6, 7, 2, 1] rfl ?_
      refine kw_eq (show ([(7, .int (c_over c)), (0, .ref a), (1, .int room), (2, .int hour), (3, .int wanted), (4, .int bg), (5, .int (nI i)), (6, .int (bg - ((nI i) * 4)))] : List (Nat × Value)) = [(7, .int (nI (o + 0))), (0, .ref a), (1, .int room), (2, .int hour), (3, .int wanted), (4, .int bg), (5, .int (nI i)), (6, .int (bg - ((nI i) * 4)))] from by rw [ho, Nat.add_zero]) rfl rfl ?_
      refine lR_early_95 k ah ar ac ax a c (scC_trySet (stC_copyOf c z h) h room wanted (bg - ((nI i) * 4))) h room hour wanted bg (nI i) (bg - (nI i) * 4) o K hI hb ((ov_tryS c z h _ _ _).trans ho) ho5 hK C ?_ (K + 1) 0 (Nat.zero_le _) (by omega)
      refine kw_aload_n C 1 dR_early_115 rfl rfl ?_
      refine kw_get (v := .ref (ax 0)) C 0 rfl rfl ku_R 2 (by decide) kt_191 rfl dR_early_116 ?_
      refine kw_iload_n C 2 dR_early_119 rfl rfl ?_
      refine kw_callPl (ws' := (wR k ah ar ac ax a c (fR_early_95 c (scC_trySet (stC_copyOf c z h) h room wanted (bg - ((nI i) * 4))) h room hour wanted bg (nI i) (bg - (nI i) * 4) o K K) h)) (st := []) C (cC_warmthOf l D k ah ar ax (fR_early_95 c (scC_trySet (stC_copyOf c z h) h room wanted (bg - ((nI i) * 4))) h room hour wanted bg (nI i) (bg - (nI i) * 4) o K K) h room hr8) (cwV 1 C.1.2.2.2.2 (kgV kt_493 kt_427 kt_428 kt_4 kt_429) rfl rfl rfl kdC_warmthOf ⟨Nat.le_of_ble_eq_true rfl, Nat.le_of_ble_eq_true rfl⟩) [31, 32, 33, 34, 35, 36, 37, 8, 9, 10, 11, 12, 13, 14, 15, 16, 17, 18, 19, 20, 21, 22, 23, 24, 25, 26, 27, 28, 29, 30] [0, 1, 2, 3, 4, 5, 6, 7] [0, 1, 2, 3, 4, 5, 6, 7, 15, 16, 17, 18, 19, 20, 21, 22, 23, 24, 25, 26, 27, 28, 29, 30, 31, 32, 33, 34, 35, 36, 37, 8, 9, 10, 11, 12, 13, 14] chR_T rhR_T ppR_T (by decide) (by decide) (by decide) (by decide) 0 0 rfl rfl rfl rfl rfl (Nat.le_of_ble_eq_true rfl) dR_early_120 ⟨Nat.zero_le _, Nat.zero_le _⟩ ?_
      refine kw_iload_n C 4 dR_early_123 rfl rfl ?_
      refine kw_i2l C dR_early_124 ?_
      refine kw_lcmp C dR_early_125 ?_
      refine kw_if_lt (tgt := 132) C dR_early_126 (by decide) (fun c_2 => ?_) (fun c_2 => ?_)
      · skip
        refine kw_iload C 7 dR_early_132 rfl ?_
        refine kw_aload_n C 1 dR_early_134 rfl rfl ?_
        refine kw_get (v := .ref (ac 0)) C 0 rfl rfl ku_R 1 (by decide) kt_190 rfl dR_early_135 ?_
        refine kw_get (v := .int (c_over c)) C 1 rfl rfl ku_C 1 (by decide) kt_124 rfl dR_early_138 ?_
        refine kw_icmp_gt (tgt := 147) C dR_early_141 (by decide) (fun c_3 => ?_) (fun c_3 => ?_)
        · skip
          refine kw_iinc (v := nI (i + 1)) (lv' := [(5, .int (nI (i + 1))), (7, .int (nI (o + K))), (0, .ref a), (1, .int room), (2, .int hour), (3, .int wanted), (4, .int bg), (6, .int (bg - (nI i) * 4))]) C 6 dR_early_147 rfl (nI_1 i) (by decide) rfl ?_
          refine kw_goto (tgt := 48) C dR_early_150 (by decide) ?_
          have hg2 : gR_early c h room hour wanted bg o K (k25 - (i + 1)) (i + 1) (fR_early_95 c (scC_trySet (stC_copyOf c z h) h room wanted (bg - ((nI i) * 4))) h room hour wanted bg (nI i) (bg - (nI i) * 4) o K K) = G := by rw [← hg1]; unfold hR_early; rw [if_pos c_2, if_pos c_3]
          refine kw_sub [0, 2, 3, 4, 5, 6] rfl ?_
          exact ih (i + 1) (fR_early_95 c (scC_trySet (stC_copyOf c z h) h room wanted (bg - ((nI i) * 4))) h room hour wanted bg (nI i) (bg - (nI i) * 4) o K K) (by omega) (by omega) trivial hg2
        · skip
          refine kw_ldc (v := -1000000) C kt_389 dR_early_144 ?_
          have hg2 : (-1000000, (fR_early_95 c (scC_trySet (stC_copyOf c z h) h room wanted (bg - ((nI i) * 4))) h room hour wanted bg (nI i) (bg - (nI i) * 4) o K K)) = G := by rw [← hg1]; unfold hR_early; rw [if_pos c_2, if_neg c_3]
          refine kw_eq rfl rfl (((congrArg (fun z90 => wR k ah ar ac ax a c z90 h) (show (fR_early_95 c (scC_trySet (stC_copyOf c z h) h room wanted (bg - ((nI i) * 4))) h room hour wanted bg (nI i) (bg - (nI i) * 4) o K K) = G.2 from by rw [← hg2]))).trans hG2) ?_
          exact kx_iret C hr hlocks hro ((show -1000000 = G.1 from by rw [← hg2]).trans hG1) dR_early_146
      · skip
        refine kw_iload C 6 dR_early_129 rfl ?_
        have hg2 : ((nI i), (fR_early_95 c (scC_trySet (stC_copyOf c z h) h room wanted (bg - ((nI i) * 4))) h room hour wanted bg (nI i) (bg - (nI i) * 4) o K K)) = G := by rw [← hg1]; unfold hR_early; rw [if_neg c_2]
        refine kw_eq rfl rfl (((congrArg (fun z90 => wR k ah ar ac ax a c z90 h) (show (fR_early_95 c (scC_trySet (stC_copyOf c z h) h room wanted (bg - ((nI i) * 4))) h room hour wanted bg (nI i) (bg - (nI i) * 4) o K K) = G.2 from by rw [← hg2]))).trans hG2) ?_
        exact kx_iret C hr hlocks hro ((show (nI i) = G.1 from by rw [← hg2]).trans hG1) dR_early_131
noncomputable def oR_early (c : CS) (t : CS) (h : HS) (room : Int32) (hour : Int32) (wanted : Int32) : String ⊕ Unit := if (rH_hasRoom h room) = 0 then .inl "java/lang/IllegalArgumentException" else (if (rR_isHour hour) = 0 then .inl "java/lang/IllegalArgumentException" else (if (rR_isWarmth wanted) = 0 then .inl "java/lang/IllegalArgumentException" else .inr ()))
noncomputable def rR_early (c : CS) (t : CS) (h : HS) (room : Int32) (hour : Int32) (wanted : Int32) : Int32 := if (rH_hasRoom h room) = 0 then 0 else (if (rR_isHour hour) = 0 then 0 else (if (rR_isWarmth wanted) = 0 then 0 else (gR_early c h room hour wanted (rC_nextBeginning c h hour) (c_over c).toNatClampNeg ((rC_nextBeginning c h hour).toNatClampNeg - (c_over c).toNatClampNeg) k25 0 t).1))
noncomputable def stR_early (c : CS) (t : CS) (h : HS) (room : Int32) (hour : Int32) (wanted : Int32) : CS := if (rH_hasRoom h room) = 0 then t else (if (rR_isHour hour) = 0 then t else (if (rR_isWarmth wanted) = 0 then t else (gR_early c h room hour wanted (rC_nextBeginning c h hour) (c_over c).toNatClampNeg ((rC_nextBeginning c h hour).toNatClampNeg - (c_over c).toNatClampNeg) k25 0 t).2))
set_option maxRecDepth 100000 in
set_option maxHeartbeats 4000000 in
theorem cR_early (l : Launch) (D : va_G) (k : Nat → ClassId) (ah : Nat → Nat) (ar : Nat → Nat → Nat) (ac ax : Nat → Nat) (a : Nat) (c t : CS) (h : HS) (room : Int32) (hour : Int32) (wanted : Int32) (hl9 : l.stackTraces = false) (hI : kInv h) (hb : rC_nextBeginning c h hour = nI ((c_over c).toNatClampNeg + ((rC_nextBeginning c h hour).toNatClampNeg - (c_over c).toNatClampNeg))) (ho : c_over c = nI (c_over c).toNatClampNeg) (ho5 : (c_over c).toNatClampNeg ≤ 100000) (hK : ((rC_nextBeginning c h hour).toNatClampNeg - (c_over c).toNatClampNeg) ≤ 96) : kNi l yR_early (kwm yR_early bR_early 8 (some .int)) ({ frames := 6, cells := 1, slots := 6, locals := 96 }) D kcl (kty k) (wR k ah ar ac ax a c t h) (wR k ah ar ac ax a c (stR_early c t h room hour wanted) h) [.ref a, .int room, .int hour, .int wanted] (oR_early c t h room hour wanted) (rR_early c t h room hour wanted) := by
  refine k_enX_i (lv0 := [(0, .ref a), (1, .int room), (2, .int hour), (3, .int wanted)]) rfl (by decide +kernel) (Nat.le_of_ble_eq_true rfl) rfl ?_
  intro p e s m args below meth c0 C hr hlocks hEx hE hZ
  have hk := k25_eq
  refine kw_aload_n C 0 dR_early_0 rfl rfl ?_
  refine kw_get (v := .ref (ah 0)) C 0 rfl rfl ku_R 0 (by decide) kt_189 rfl dR_early_1 ?_
  refine kw_iload_n C 1 dR_early_4 rfl rfl ?_
  refine kw_callPi (ws' := (wR k ah ar ac ax a c t h)) (st := []) C (cH_hasRoom l D k ah ar h room) (cwV 1 C.1.2.2.2.2 (kgV kt_312 kt_313 kt_314 kt_2 kt_315) rfl rfl rfl kdH_hasRoom ⟨Nat.le_of_ble_eq_true rfl, Nat.le_of_ble_eq_true rfl⟩) [8, 9, 10, 11, 12, 13, 14, 15, 16, 17, 18, 19, 20, 21, 22, 23, 24, 25, 26, 27, 28, 29, 30] [0, 1, 2, 3, 4, 5, 6, 7, 31, 32, 33, 34, 35, 36, 37] [0, 1, 2, 3, 4, 5, 6, 7, 15, 16, 17, 18, 19, 20, 21, 22, 23, 24, 25, 26, 27, 28, 29, 30, 31, 32, 33, 34, 35, 36, 37, 8, 9, 10, 11, 12, 13, 14] chR_H rhR_H ppR_H (by decide) (by decide) (by decide) (by decide) 0 1 rfl rfl rfl rfl rfl (Nat.le_of_ble_eq_true rfl) dR_early_5 ⟨Nat.zero_le _, Nat.zero_le _⟩ ?_
  refine kw_if_eq (tgt := 25) C dR_early_8 (by decide) (fun c_1 => ?_) (fun c_1 => ?_)
  · skip
    exact kx_throwIAE hl9 C hlocks hEx hE hZ (by unfold oR_early; rw [if_pos c_1]) 204 "no such room, hour or warmth" (by decide +kernel) dR_early_25 dR_early_28 dR_early_29 dR_early_31 dR_early_34 (Nat.le_of_ble_eq_true rfl) (Nat.le_of_ble_eq_true rfl) (Nat.le_of_ble_eq_true rfl) (Nat.le_of_ble_eq_true rfl)
  · skip
    refine kw_iload_n C 2 dR_early_11 rfl rfl ?_
    refine kw_callSi (st := []) C (cR_isHour l D k hour) (va_cwS 1 C.1.2.2.2.2 (kgO kt_366 kt_367 kt_1 kt_368) rfl rfl rfl kdR_isHour ⟨Nat.le_of_ble_eq_true rfl, Nat.le_of_ble_eq_true rfl⟩) [] rfl rfl rfl rfl (Nat.le_of_ble_eq_true rfl) dR_early_12 ⟨Nat.zero_le _, Nat.zero_le _⟩ rfl (wR k ah ar ac ax a c t h) rfl ?_
    refine kw_if_eq (tgt := 25) C dR_early_15 (by decide) (fun c_2 => ?_) (fun c_2 => ?_)
    · skip
      exact kx_throwIAE hl9 C hlocks hEx hE hZ (by unfold oR_early; rw [if_neg c_1, if_pos c_2]) 204 "no such room, hour or warmth" (by decide +kernel) dR_early_25 dR_early_28 dR_early_29 dR_early_31 dR_early_34 (Nat.le_of_ble_eq_true rfl) (Nat.le_of_ble_eq_true rfl) (Nat.le_of_ble_eq_true rfl) (Nat.le_of_ble_eq_true rfl)
    · skip
      refine kw_iload_n C 3 dR_early_18 rfl rfl ?_
      refine kw_callSi (st := []) C (cR_isWarmth l D k wanted) (va_cwS 1 C.1.2.2.2.2 (kgO kt_211 kt_212 kt_1 kt_213) rfl rfl rfl kdR_isWarmth ⟨Nat.le_of_ble_eq_true rfl, Nat.le_of_ble_eq_true rfl⟩) [] rfl rfl rfl rfl (Nat.le_of_ble_eq_true rfl) dR_early_19 ⟨Nat.zero_le _, Nat.zero_le _⟩ rfl (wR k ah ar ac ax a c t h) rfl ?_
      refine kw_if_ne (tgt := 35) C dR_early_22 (by decide) (fun c_3 => ?_) (fun c_3 => ?_)
      · skip
        refine kw_aload_n C 0 dR_early_35 rfl rfl ?_
        refine kw_get (v := .ref (ac 0)) C 0 rfl rfl ku_R 1 (by decide) kt_190 rfl dR_early_36 ?_
        refine kw_iload_n C 2 dR_early_39 rfl rfl ?_
        refine kw_callPi (ws' := (wR k ah ar ac ax a c t h)) (st := []) C (cC_nextBeginning l D k ah ar ac c h hour) (cwV 1 C.1.2.2.2.2 (kgV kt_514 kt_515 kt_516 kt_4 kt_517) rfl rfl rfl kdC_nextBeginning ⟨Nat.le_of_ble_eq_true rfl, Nat.le_of_ble_eq_true rfl⟩) [1, 2, 3, 4, 5, 6, 7, 8, 9, 10, 11, 12, 13, 14, 15, 16, 17, 18, 19, 20, 21, 22, 23, 24, 25, 26, 27, 28, 29, 30] [0, 31, 32, 33, 34, 35, 36, 37] [0, 8, 9, 10, 11, 12, 13, 14, 15, 16, 17, 18, 19, 20, 21, 22, 23, 24, 25, 26, 27, 28, 29, 30, 31, 32, 33, 34, 35, 36, 37, 1, 2, 3, 4, 5, 6, 7] chR_C rhR_C ppR_C (by decide) (by decide) (by decide) (by decide) 0 0 rfl rfl rfl rfl rfl (Nat.le_of_ble_eq_true rfl) dR_early_40 ⟨Nat.zero_le _, Nat.zero_le _⟩ ?_
        refine kw_istore (lv' := [(4, .int (rC_nextBeginning c h hour)), (0, .ref a), (1, .int room), (2, .int hour), (3, .int wanted)]) C dR_early_43 (by decide) rfl ?_
        refine kw_iconst (v := 0) C dR_early_45 (by decide) ?_
        refine kw_istore (lv' := [(5, .int 0), (4, .int (rC_nextBeginning c h hour)), (0, .ref a), (1, .int room), (2, .int hour), (3, .int wanted)]) C dR_early_46 (by decide) rfl ?_
        refine kw_sub [0, 2, 3, 4, 5, 1] rfl ?_
        exact lR_early k ah ar ac ax a c t h room hour wanted (rC_nextBeginning c h hour) (c_over c).toNatClampNeg ((rC_nextBeginning c h hour).toNatClampNeg - (c_over c).toNatClampNeg) hI (kin_le (khas hI c_1) hI.1.2) hb ho ho5 hK C hr hlocks (G := (gR_early c h room hour wanted (rC_nextBeginning c h hour) (c_over c).toNatClampNeg ((rC_nextBeginning c h hour).toNatClampNeg - (c_over c).toNatClampNeg) k25 0 t)) (by unfold oR_early; rw [if_neg c_1, if_neg c_2, if_neg c_3]) (by unfold rR_early; rw [if_neg c_1, if_neg c_2, if_neg c_3]) ((congrArg (fun z90 => wR k ah ar ac ax a c z90 h) (show (gR_early c h room hour wanted (rC_nextBeginning c h hour) (c_over c).toNatClampNeg ((rC_nextBeginning c h hour).toNatClampNeg - (c_over c).toNatClampNeg) k25 0 t).2 = stR_early c t h room hour wanted from by unfold stR_early; rw [if_neg c_1, if_neg c_2, if_neg c_3]))) (k25 + 1) 0 t (Nat.zero_le _) (by omega) trivial rfl
      · skip
        exact kx_throwIAE hl9 C hlocks hEx hE hZ (by unfold oR_early; rw [if_neg c_1, if_neg c_2, if_pos c_3]) 204 "no such room, hour or warmth" (by decide +kernel) dR_early_25 dR_early_28 dR_early_29 dR_early_31 dR_early_34 (Nat.le_of_ble_eq_true rfl) (Nat.le_of_ble_eq_true rfl) (Nat.le_of_ble_eq_true rfl) (Nat.le_of_ble_eq_true rfl)
