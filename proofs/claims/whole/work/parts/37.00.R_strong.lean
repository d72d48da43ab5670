def k101 : Nat := 101
theorem k101_eq : k101 = 101 := rfl
theorem k1000 (i : Nat) : nI (1000 * i) + 1000 = nI (1000 * (i + 1)) := by
  rw [show (1000 : Int32) = nI 1000 from rfl, nI_add, Nat.mul_succ]
theorem klq1 {i : Nat} (hi : i ≤ k101) (h : 100000 < nI (1000 * i)) : i = k101 := by
  have e := k101_eq
  rw [show (100000 : Int32) = nI 100000 from rfl, nI_ltI (by decide) (by omega)] at h
  omega
theorem klq2 {i : Nat} (hi : i ≤ k101) (h : ¬ 100000 < nI (1000 * i)) : i < k101 := by
  have e := k101_eq
  rw [show (100000 : Int32) = nI 100000 from rfl, nI_ltI (by decide) (by omega)] at h
  omega
theorem krangeN {n hi : Int32} {N : Nat} (hN : hi = nI N) (hN2 : N < 2 ^ 31) (h : ¬ rR_isWithin n 1 hi = 0) : n = nI n.toNatClampNeg ∧ n.toNatClampNeg ≤ N := by
  unfold rR_isWithin at h
  split at h
  · exact absurd rfl h
  · rename_i h1
    split at h
    · exact absurd rfl h
    · rename_i h2
      have h3 : ¬ n < 0 := by
        intro q
        apply h1
        rw [Int32.lt_iff_toInt_lt] at q ⊢
        have : (1 : Int32).toInt = 1 := by decide
        have : (0 : Int32).toInt = 0 := by decide
        omega
      obtain ⟨j, hj, e⟩ := nI_of h3
      rw [e, nI_clamp hj]
      rw [e, hN, nI_ltI hN2 hj] at h2
      exact ⟨rfl, by omega⟩
theorem ov_tryM (c t : CS) (h : HS) (room most : Int32) : c_over (scC_tryMost (stC_copyOf c t h) h room most) = c_over c := by
  unfold scC_tryMost
  rw [over_mk]
  unfold stC_copyOf
  exact over_mk
noncomputable def hR_strong (rec_ : CS → Int32 × CS) (i : Nat) (z : CS) (c : CS) (h : HS) (room : Int32) (steps : Int32) : Int32 × CS := if (rC_staysUp (scC_tryMost (stC_copyOf c z h) h room (nI (1000 * i))) h room steps) = 0 then (if (c_fellShort (scC_staysUp (scC_tryMost (stC_copyOf c z h) h room (nI (1000 * i))) h room steps)) = 0 then (-1000000, (scC_staysUp (scC_tryMost (stC_copyOf c z h) h room (nI (1000 * i))) h room steps)) else rec_ (scC_staysUp (scC_tryMost (stC_copyOf c z h) h room (nI (1000 * i))) h room steps)) else (nI (1000 * i), (scC_staysUp (scC_tryMost (stC_copyOf c z h) h room (nI (1000 * i))) h room steps))
noncomputable def gR_strong (c : CS) (h : HS) (room : Int32) (steps : Int32) (n : Nat) : Nat → CS → Int32 × CS := Nat.rec (motive := fun _ => Nat → CS → Int32 × CS) (fun _ z => (-1000000, z)) (fun _ rec_ i z => hR_strong (rec_ (i + 1)) i z c h room steps) n
set_option maxRecDepth 100000 in
set_option maxHeartbeats 4000000 in
theorem lR_strong {l : Launch} {p : Program} {e : Env} {s : State} {m : MethodId} {args : Array Value} {below : List Frame} {meth : Method} {c0 : Code} {D : va_G} {w0 w1 : va_W} {ro : String ⊕ Unit} {r : Int32} (k : Nat → ClassId) (ah : Nat → Nat) (ar : Nat → Nat → Nat) (ac ax : Nat → Nat) (a : Nat) (c t : CS) (h : HS) (room : Int32) (steps : Int32) (hI : kInv h) (hr8 : vp_in room 8) (hs : steps = nI steps.toNatClampNeg ∧ steps.toNatClampNeg ≤ 192) (o : Nat) (ho : c_over c = nI o) (ho5 : o ≤ 100000) (C : kC p s m args c0 bR_strong "RoomHours" kT D kcl (kty k) (va_A w0 s.heap.size) 4) (hr : meth.sig.returnType = some .int) (hlocks : meth.locks = false) {G : Int32 × CS} (hro : ro = .inr ()) (hG1 : G.1 = r) (hG2 : (wR k ah ar ac ax a c G.2 h) = w1) : ∀ (n i : Nat) (z : CS), i ≤ k101 → k101 < i + n → True → gR_strong c h room steps (k101 - i) i z = G → kW p l e ({ frames := 6, cells := 1, slots := 6, locals := 120 }) s m args below meth c0 D kcl (va_A w0 s.heap.size) 4 0 0 (vx_MQ below (kXi D kcl w0 w1 ro r s.heap.size) (kXC D kcl w0 ro s.heap.size) args s 1 6 (va_A w0 s.heap.size)) 34 [(3, .int (nI (1000 * i))), (0, .ref a), (1, .int room), (2, .int steps)] [] (wR k ah ar ac ax a c z h) := by
  intro n
  induction n with
  | zero => exact fun i z h1 h2 => absurd h2 (by omega)
  | succ n ih =>
    intro i z hi hin hz hg
    refine kw_iload_n C 0 dR_strong_34 rfl rfl ?_
    refine kw_ldc (v := 100000) C kt_416 dR_strong_35 ?_
    refine kw_icmp_gt (tgt := 96) C dR_strong_37 (by decide) (fun c_1 => ?_) (fun c_1 => ?_)
    · skip
      refine kw_ldc (v := -1000000) C kt_389 dR_strong_96 ?_
      have e9 : i = k101 := klq1 hi c_1
      have hg2 : (-1000000, z) = G := by rw [e9, Nat.sub_self] at hg; exact hg
      refine kw_eq rfl rfl (((congrArg (fun z90 => wR k ah ar ac ax a c z90 h) (show z = G.2 from by rw [← hg2]))).trans hG2) ?_
      exact kx_iret C hr hlocks hro ((show -1000000 = G.1 from by rw [← hg2]).trans hG1) dR_strong_98
    · skip
      have hlt : i < k101 := klq2 hi c_1
      have hg1 : hR_strong (gR_strong c h room steps (k101 - (i + 1)) (i + 1)) i z c h room steps = G := by rw [show k101 - i = (k101 - (i + 1)) + 1 from by omega] at hg; exact hg
      refine kw_aload_n C 1 dR_strong_40 rfl rfl ?_
      refine kw_get (v := .ref (ax 0)) C 0 rfl rfl ku_R 2 (by decide) kt_191 rfl dR_strong_41 ?_
      refine kw_aload_n C 1 dR_strong_44 rfl rfl ?_
      refine kw_get (v := .ref (ac 0)) C 0 rfl rfl ku_R 1 (by decide) kt_190 rfl dR_strong_45 ?_
      refine kw_callAv (w1 := (wR k ah ar ac ax a c (stC_copyOf c z h) h)) (st := []) C (cC_copyOf l D k ah ar ac ax a c z h) (cwV 1 C.1.2.2.2.2 (kgV kt_521 kt_522 kt_523 kt_4 kt_524) rfl rfl rfl kdC_copyOf ⟨Nat.le_of_ble_eq_true rfl, Nat.le_of_ble_eq_true rfl⟩) 31 0 rfl rfl rfl rfl rfl (Nat.le_of_ble_eq_true rfl) dR_strong_48 ⟨Nat.zero_le _, Nat.zero_le _⟩ (ad_wR.trans ad_wR.symm) ?_
      refine kw_aload_n C 1 dR_strong_51 rfl rfl ?_
      refine kw_get (v := .ref (ax 0)) C 0 rfl rfl ku_R 2 (by decide) kt_191 rfl dR_strong_52 ?_
      refine kw_iload_n C 2 dR_strong_55 rfl rfl ?_
      refine kw_iload_n C 0 dR_strong_56 rfl rfl ?_
      refine kw_callPv (ws' := (wR k ah ar ac ax a c (scC_tryMost (stC_copyOf c z h) h room (nI (1000 * i))) h)) (st := []) C (cC_tryMost l D k ah ar ax (stC_copyOf c z h) h room (nI (1000 * i))) (cwV 2 C.1.2.2.2.2 (kgV kt_540 kt_541 kt_542 kt_4 kt_543) rfl rfl rfl kdC_tryMost ⟨Nat.le_of_ble_eq_true rfl, Nat.le_of_ble_eq_true rfl⟩) [31, 32, 33, 34, 35, 36, 37, 8, 9, 10, 11, 12, 13, 14, 15, 16, 17, 18, 19, 20, 21, 22, 23, 24, 25, 26, 27, 28, 29, 30] [0, 1, 2, 3, 4, 5, 6, 7] [0, 1, 2, 3, 4, 5, 6, 7, 15, 16, 17, 18, 19, 20, 21, 22, 23, 24, 25, 26, 27, 28, 29, 30, 31, 32, 33, 34, 35, 36, 37, 8, 9, 10, 11, 12, 13, 14] chR_T rhR_T ppR_T (by decide) (by decide) (by decide) (by decide) 0 0 rfl rfl rfl rfl rfl (Nat.le_of_ble_eq_true rfl) dR_strong_57 ⟨Nat.zero_le _, Nat.zero_le _⟩ ?_
      refine kw_aload_n C 1 dR_strong_60 rfl rfl ?_
      refine kw_get (v := .ref (ax 0)) C 0 rfl rfl ku_R 2 (by decide) kt_191 rfl dR_strong_61 ?_
      refine kw_iload_n C 2 dR_strong_64 rfl rfl ?_
      refine kw_iload_n C 3 dR_strong_65 rfl rfl ?_
      refine kw_callPi (ws' := (wR k ah ar ac ax a c (scC_staysUp (scC_tryMost (stC_copyOf c z h) h room (nI (1000 * i))) h room steps) h)) (st := []) C (cC_staysUp l D k ah ar ax (scC_tryMost (stC_copyOf c z h) h room (nI (1000 * i))) h room steps hI hr8 hs o ((ov_tryM c z h _ _).trans ho) ho5) (cwV 2 C.1.2.2.2.2 (kgV kt_544 kt_545 kt_546 kt_4 kt_547) rfl rfl rfl kdC_staysUp ⟨Nat.le_of_ble_eq_true rfl, Nat.le_of_ble_eq_true rfl⟩) [31, 32, 33, 34, 35, 36, 37, 8, 9, 10, 11, 12, 13, 14, 15, 16, 17, 18, 19, 20, 21, 22, 23, 24, 25, 26, 27, 28, 29, 30] [0, 1, 2, 3, 4, 5, 6, 7] [0, 1, 2, 3, 4, 5, 6, 7, 15, 16, 17, 18, 19, 20, 21, 22, 23, 24, 25, 26, 27, 28, 29, 30, 31, 32, 33, 34, 35, 36, 37, 8, 9, 10, 11, 12, 13, 14] chR_T rhR_T ppR_T (by decide) (by decide) (by decide) (by decide) 0 0 rfl rfl rfl rfl rfl (Nat.le_of_ble_eq_true rfl) dR_strong_66 ⟨Nat.zero_le _, Nat.zero_le _⟩ ?_
      refine kw_if_eq (tgt := 74) C dR_strong_69 (by decide) (fun c_2 => ?_) (fun c_2 => ?_)
      · skip
        refine kw_aload_n C 1 dR_strong_74 rfl rfl ?_
        refine kw_get (v := .ref (ax 0)) C 0 rfl rfl ku_R 2 (by decide) kt_191 rfl dR_strong_75 ?_
        refine kw_get (v := .int (c_fellShort (scC_staysUp (scC_tryMost (stC_copyOf c z h) h room (nI (1000 * i))) h room steps))) C 31 rfl rfl ku_C 17 (by decide) kt_150 rfl dR_strong_78 ?_
        refine kw_if_ne (tgt := 87) C dR_strong_81 (by decide) (fun c_3 => ?_) (fun c_3 => ?_)
        · skip
          refine kw_iincW (v := (nI (1000 * i)) + 1000) (lv' := [(3, .int ((nI (1000 * i)) + 1000)), (0, .ref a), (1, .int room), (2, .int steps)]) C 0 dR_strong_87 rfl rfl (by decide) rfl ?_
          refine kw_goto (tgt := 34) C dR_strong_93 (by decide) ?_
          have hg2 : gR_strong c h room steps (k101 - (i + 1)) (i + 1) (scC_staysUp (scC_tryMost (stC_copyOf c z h) h room (nI (1000 * i))) h room steps) = G := by rw [← hg1]; unfold hR_strong; rw [if_pos c_2, if_neg c_3]
          refine kw_sub [0, 1, 2, 3] rfl ?_
          refine kw_eq (show ([(3, .int ((nI (1000 * i)) + 1000)), (0, .ref a), (1, .int room), (2, .int steps)] : List (Nat × Value)) = [(3, .int (nI (1000 * (i + 1)))), (0, .ref a), (1, .int room), (2, .int steps)] from by rw [k1000]) rfl rfl ?_
          exact ih (i + 1) (scC_staysUp (scC_tryMost (stC_copyOf c z h) h room (nI (1000 * i))) h room steps) (by omega) (by omega) trivial hg2
        · skip
          refine kw_ldc (v := -1000000) C kt_389 dR_strong_84 ?_
          have hg2 : (-1000000, (scC_staysUp (scC_tryMost (stC_copyOf c z h) h room (nI (1000 * i))) h room steps)) = G := by rw [← hg1]; unfold hR_strong; rw [if_pos c_2, if_pos c_3]
          refine kw_eq rfl rfl (((congrArg (fun z90 => wR k ah ar ac ax a c z90 h) (show (scC_staysUp (scC_tryMost (stC_copyOf c z h) h room (nI (1000 * i))) h room steps) = G.2 from by rw [← hg2]))).trans hG2) ?_
          exact kx_iret C hr hlocks hro ((show -1000000 = G.1 from by rw [← hg2]).trans hG1) dR_strong_86
      · skip
        refine kw_iload_n C 0 dR_strong_72 rfl rfl ?_
        have hg2 : (nI (1000 * i), (scC_staysUp (scC_tryMost (stC_copyOf c z h) h room (nI (1000 * i))) h room steps)) = G := by rw [← hg1]; unfold hR_strong; rw [if_neg c_2]
        refine kw_eq rfl rfl (((congrArg (fun z90 => wR k ah ar ac ax a c z90 h) (show (scC_staysUp (scC_tryMost (stC_copyOf c z h) h room (nI (1000 * i))) h room steps) = G.2 from by rw [← hg2]))).trans hG2) ?_
        exact kx_iret C hr hlocks hro ((show nI (1000 * i) = G.1 from by rw [← hg2]).trans hG1) dR_strong_73
noncomputable def oR_strong (c : CS) (t : CS) (h : HS) (room : Int32) (steps : Int32) : String ⊕ Unit := if (rH_hasRoom h room) = 0 then .inl "java/lang/IllegalArgumentException" else (if (rR_isWithin steps 1 192) = 0 then .inl "java/lang/IllegalArgumentException" else .inr ())
noncomputable def rR_strong (c : CS) (t : CS) (h : HS) (room : Int32) (steps : Int32) : Int32 := if (rH_hasRoom h room) = 0 then 0 else (if (rR_isWithin steps 1 192) = 0 then 0 else (gR_strong c h room steps k101 0 t).1)
noncomputable def stR_strong (c : CS) (t : CS) (h : HS) (room : Int32) (steps : Int32) : CS := if (rH_hasRoom h room) = 0 then t else (if (rR_isWithin steps 1 192) = 0 then t else (gR_strong c h room steps k101 0 t).2)
set_option maxRecDepth 100000 in
set_option maxHeartbeats 4000000 in
theorem cR_strong (l : Launch) (D : va_G) (k : Nat → ClassId) (ah : Nat → Nat) (ar : Nat → Nat → Nat) (ac ax : Nat → Nat) (a : Nat) (c t : CS) (h : HS) (room : Int32) (steps : Int32) (hl9 : l.stackTraces = false) (hI : kInv h) (o : Nat) (ho : c_over c = nI o) (ho5 : o ≤ 100000) : kNi l yR_strong (kwm yR_strong bR_strong 4 (some .int)) ({ frames := 6, cells := 1, slots := 6, locals := 120 }) D kcl (kty k) (wR k ah ar ac ax a c t h) (wR k ah ar ac ax a c (stR_strong c t h room steps) h) [.ref a, .int room, .int steps] (oR_strong c t h room steps) (rR_strong c t h room steps) := by
  refine k_enX_i (lv0 := [(0, .ref a), (1, .int room), (2, .int steps)]) rfl (by decide +kernel) (Nat.le_of_ble_eq_true rfl) rfl ?_
  intro p e s m args below meth c0 C hr hlocks hEx hE hZ
  have hk := k101_eq
  refine kw_aload_n C 0 dR_strong_0 rfl rfl ?_
  refine kw_get (v := .ref (ah 0)) C 0 rfl rfl ku_R 0 (by decide) kt_189 rfl dR_strong_1 ?_
  refine kw_iload_n C 1 dR_strong_4 rfl rfl ?_
  refine kw_callPi (ws' := (wR k ah ar ac ax a c t h)) (st := []) C (cH_hasRoom l D k ah ar h room) (cwV 1 C.1.2.2.2.2 (kgV kt_312 kt_313 kt_314 kt_2 kt_315) rfl rfl rfl kdH_hasRoom ⟨Nat.le_of_ble_eq_true rfl, Nat.le_of_ble_eq_true rfl⟩) [8, 9, 10, 11, 12, 13, 14, 15, 16, 17, 18, 19, 20, 21, 22, 23, 24, 25, 26, 27, 28, 29, 30] [0, 1, 2, 3, 4, 5, 6, 7, 31, 32, 33, 34, 35, 36, 37] [0, 1, 2, 3, 4, 5, 6, 7, 15, 16, 17, 18, 19, 20, 21, 22, 23, 24, 25, 26, 27, 28, 29, 30, 31, 32, 33, 34, 35, 36, 37, 8, 9, 10, 11, 12, 13, 14] chR_H rhR_H ppR_H (by decide) (by decide) (by decide) (by decide) 0 1 rfl rfl rfl rfl rfl (Nat.le_of_ble_eq_true rfl) dR_strong_5 ⟨Nat.zero_le _, Nat.zero_le _⟩ ?_
  refine kw_if_eq (tgt := 22) C dR_strong_8 (by decide) (fun c_1 => ?_) (fun c_1 => ?_)
  · skip
    exact kx_throwIAE hl9 C hlocks hEx hE hZ (by unfold oR_strong; rw [if_pos c_1]) 218 "no such room or number of steps" (by decide +kernel) dR_strong_22 dR_strong_25 dR_strong_26 dR_strong_28 dR_strong_31 (Nat.le_of_ble_eq_true rfl) (Nat.le_of_ble_eq_true rfl) (Nat.le_of_ble_eq_true rfl) (Nat.le_of_ble_eq_true rfl)
  · skip
    refine kw_iload_n C 2 dR_strong_11 rfl rfl ?_
    refine kw_iconst (v := 1) C dR_strong_12 (by decide) ?_
    refine kw_sipush (v := 192) C dR_strong_13 (by decide) ?_
    refine kw_callSi (st := []) C (cR_isWithin l D k steps 1 192) (va_cwS 3 C.1.2.2.2.2 (kgO kt_208 kt_209 kt_1 kt_210) rfl rfl rfl kdR_isWithin ⟨Nat.le_of_ble_eq_true rfl, Nat.le_of_ble_eq_true rfl⟩) [] rfl rfl rfl rfl (Nat.le_of_ble_eq_true rfl) dR_strong_16 ⟨Nat.zero_le _, Nat.zero_le _⟩ rfl (wR k ah ar ac ax a c t h) rfl ?_
    refine kw_if_ne (tgt := 32) C dR_strong_19 (by decide) (fun c_2 => ?_) (fun c_2 => ?_)
    · skip
      refine kw_iconst (v := 0) C dR_strong_32 (by decide) ?_
      refine kw_istore_n (lv' := [(3, .int 0), (0, .ref a), (1, .int room), (2, .int steps)]) C dR_strong_33 rfl (by decide) rfl ?_
      refine kw_sub [0, 1, 2, 3] rfl ?_
      exact lR_strong k ah ar ac ax a c t h room steps hI (kin_le (khas hI c_1) hI.1.2) (krangeN rfl (by decide) c_2) o ho ho5 C hr hlocks (G := (gR_strong c h room steps k101 0 t)) (by unfold oR_strong; rw [if_neg c_1, if_neg c_2]) (by unfold rR_strong; rw [if_neg c_1, if_neg c_2]) ((congrArg (fun z90 => wR k ah ar ac ax a c z90 h) (show (gR_strong c h room steps k101 0 t).2 = stR_strong c t h room steps from by unfold stR_strong; rw [if_neg c_1, if_neg c_2]))) (k101 + 1) 0 t (Nat.zero_le _) (by omega) trivial rfl
    · skip
      exact kx_throwIAE hl9 C hlocks hEx hE hZ (by unfold oR_strong; rw [if_neg c_1, if_pos c_2]) 218 "no such room or number of steps" (by decide +kernel) dR_strong_22 dR_strong_25 dR_strong_26 dR_strong_28 dR_strong_31 (Nat.le_of_ble_eq_true rfl) (Nat.le_of_ble_eq_true rfl) (Nat.le_of_ble_eq_true rfl) (Nat.le_of_ble_eq_true rfl)
