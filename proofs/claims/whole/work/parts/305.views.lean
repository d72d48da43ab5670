section KP5
variable {p : Program} {l : Launch} {e : Env} {R : Room} {s : State} {m : MethodId} {args : Array Value} {below : List Frame} {meth : Method} {c : Code} {cells slots : Nat} {Q : State → Prop}
variable {cc : ByteArray} {own : String} {Ts : List Cond} {D : va_G} {cl : List vw_C} {tys : List (ClassId × FieldType)} {A : Nat → Prop} {nL : Nat}
variable {pc : Nat} {lv : List (Nat × Value)} {st : List Value} {ws : va_W}
theorem kw_callPi (C : kC p s m args c cc own Ts D cl tys A nL) {y : MethodName} {wm : List Cond} {rm : Room} {Cn : String} {b : Nat} {index maxL n : Nat} {bytes : ByteArray} {ret : Option FieldType} {As st0 : List Value} {w0 w1 wr ws' : va_W} {r : Int32} (hM : kMi l y wm rm D cl tys w0 w1 (.ref b :: As) r) (cw : CallW R s args own Cn index y bytes maxL ret wm rm 0 0 n) (isC isR perm : List Nat) (hC : isC.map (fun i => ws[i]?) = w0.map some) (hR : isR.map (fun i => ws[i]?) = wr.map some) (hp : perm.map (fun i => (wr ++ w1)[i]?) = ws'.map some) (hnd : va_nd isC = true) (hnR : va_nd isR = true) (hdis : ∀ i ∈ isR, i ∉ isC) (hnp : va_nd perm = true) (q0 ci : Nat) {fs : List Value} {qc : vw_C} (hb0 : w0[q0]? = some (b, .inr (ci, fs))) (hb1 : cl[ci]? = some qc) (hb2 : qc.1 = Cn) (hn : As.length = n) (hst : st0 = As.reverse ++ .ref b :: st) (hroom : (st.map fun v => v.category).sum ≤ 8) (d : decode cc pc = .ok (.invokevirtual index, 3)) (hcs : cells ≤ R.cells ∧ slots ≤ R.slots) (kk : kW p l e R s m args below meth c D cl A nL cells slots Q (pc + 3) lv (.int r :: st) ws') : kW p l e R s m args below meth c D cl A nL cells slots Q pc lv st0 ws := fun H locs ls hP hD hS hl => by
  have hPc := hP.sub isC (kfm _ _ _ hC)
  have hDc := hD.sub isC hnd hC
  have hKc := C.2.1
  have hFc := va_free hD hS C.2.2 isC hC
  refine va_calli (va_runV (As := As) (rest := st) C.1 (hM H.size) cw ⟨kblind, by rw [← hb2]; exact va_recv hKc hPc hb1 hb0, fun U hU hW => ⟨rfl, by rw [hU], by rw [hU]; exact hPc, va_K.moved hW.alike hKc, hDc.weaken (fun _ _ _ _ => trivial)⟩⟩ rfl hn hl.1 hst (lv_room hroom) d hcs) hS (fun q _ h => hFc q h) hFc (fun x u t H1 locs1 ht hvm hw hB hz1 hk1 hS1 => ?_)
  obtain ⟨hP1, hD1⟩ := hB
  rw [ht] at hP1
  obtain ⟨hP2, hD2⟩ := va_join hP hD isC isR hC hR hnR hdis hk1 hFc hP1 hD1
  subst hw
  exact kk H1 locs1 ls (hP2.sub perm (kfm _ _ _ hp)) (hD2.sub perm hnp hp) hS1 hl
theorem kw_callPl (C : kC p s m args c cc own Ts D cl tys A nL) {y : MethodName} {wm : List Cond} {rm : Room} {Cn : String} {b : Nat} {index maxL n : Nat} {bytes : ByteArray} {ret : Option FieldType} {As st0 : List Value} {w0 w1 wr ws' : va_W} {r : Int64} (hM : kMl l y wm rm D cl tys w0 w1 (.ref b :: As) r) (cw : CallW R s args own Cn index y bytes maxL ret wm rm 0 0 n) (isC isR perm : List Nat) (hC : isC.map (fun i => ws[i]?) = w0.map some) (hR : isR.map (fun i => ws[i]?) = wr.map some) (hp : perm.map (fun i => (wr ++ w1)[i]?) = ws'.map some) (hnd : va_nd isC = true) (hnR : va_nd isR = true) (hdis : ∀ i ∈ isR, i ∉ isC) (hnp : va_nd perm = true) (q0 ci : Nat) {fs : List Value} {qc : vw_C} (hb0 : w0[q0]? = some (b, .inr (ci, fs))) (hb1 : cl[ci]? = some qc) (hb2 : qc.1 = Cn) (hn : As.length = n) (hst : st0 = As.reverse ++ .ref b :: st) (hroom : (st.map fun v => v.category).sum ≤ 8) (d : decode cc pc = .ok (.invokevirtual index, 3)) (hcs : cells ≤ R.cells ∧ slots ≤ R.slots) (kk : kW p l e R s m args below meth c D cl A nL cells slots Q (pc + 3) lv (.long r :: st) ws') : kW p l e R s m args below meth c D cl A nL cells slots Q pc lv st0 ws := fun H locs ls hP hD hS hl => by
  have hPc := hP.sub isC (kfm _ _ _ hC)
  have hDc := hD.sub isC hnd hC
  have hKc := C.2.1
  have hFc := va_free hD hS C.2.2 isC hC
  refine va_calll (va_runV (As := As) (rest := st) C.1 (hM H.size) cw ⟨kblind, by rw [← hb2]; exact va_recv hKc hPc hb1 hb0, fun U hU hW => ⟨rfl, by rw [hU], by rw [hU]; exact hPc, va_K.moved hW.alike hKc, hDc.weaken (fun _ _ _ _ => trivial)⟩⟩ rfl hn hl.1 hst (lv_room hroom) d hcs) hS (fun q _ h => hFc q h) hFc (fun x u t H1 locs1 ht hvm hw hB hz1 hk1 hS1 => ?_)
  obtain ⟨hP1, hD1⟩ := hB
  rw [ht] at hP1
  obtain ⟨hP2, hD2⟩ := va_join hP hD isC isR hC hR hnR hdis hk1 hFc hP1 hD1
  subst hw
  exact kk H1 locs1 ls (hP2.sub perm (kfm _ _ _ hp)) (hD2.sub perm hnp hp) hS1 hl
theorem kw_callPv (C : kC p s m args c cc own Ts D cl tys A nL) {y : MethodName} {wm : List Cond} {rm : Room} {Cn : String} {b : Nat} {index maxL n : Nat} {bytes : ByteArray} {ret : Option FieldType} {As st0 : List Value} {w0 w1 wr ws' : va_W} (hM : kMv l y wm rm D cl tys w0 w1 (.ref b :: As)) (cw : CallW R s args own Cn index y bytes maxL ret wm rm 0 0 n) (isC isR perm : List Nat) (hC : isC.map (fun i => ws[i]?) = w0.map some) (hR : isR.map (fun i => ws[i]?) = wr.map some) (hp : perm.map (fun i => (wr ++ w1)[i]?) = ws'.map some) (hnd : va_nd isC = true) (hnR : va_nd isR = true) (hdis : ∀ i ∈ isR, i ∉ isC) (hnp : va_nd perm = true) (q0 ci : Nat) {fs : List Value} {qc : vw_C} (hb0 : w0[q0]? = some (b, .inr (ci, fs))) (hb1 : cl[ci]? = some qc) (hb2 : qc.1 = Cn) (hn : As.length = n) (hst : st0 = As.reverse ++ .ref b :: st) (hroom : (st.map fun v => v.category).sum ≤ 8) (d : decode cc pc = .ok (.invokevirtual index, 3)) (hcs : cells ≤ R.cells ∧ slots ≤ R.slots) (kk : kW p l e R s m args below meth c D cl A nL cells slots Q (pc + 3) lv st ws') : kW p l e R s m args below meth c D cl A nL cells slots Q pc lv st0 ws := fun H locs ls hP hD hS hl => by
  have hPc := hP.sub isC (kfm _ _ _ hC)
  have hDc := hD.sub isC hnd hC
  have hKc := C.2.1
  have hFc := va_free hD hS C.2.2 isC hC
  refine va_callv (va_runV (As := As) (rest := st) C.1 (hM H.size) cw ⟨kblind, by rw [← hb2]; exact va_recv hKc hPc hb1 hb0, fun U hU hW => ⟨rfl, by rw [hU], by rw [hU]; exact hPc, va_K.moved hW.alike hKc, hDc.weaken (fun _ _ _ _ => trivial)⟩⟩ rfl hn hl.1 hst (lv_room hroom) d hcs) hS (fun q _ h => hFc q h) hFc (fun u t H1 locs1 ht hvm hw hB hz1 hk1 hS1 => ?_)
  obtain ⟨hP1, hD1⟩ := hB
  rw [ht] at hP1
  obtain ⟨hP2, hD2⟩ := va_join hP hD isC isR hC hR hnR hdis hk1 hFc hP1 hD1
  exact kk H1 locs1 ls (hP2.sub perm (kfm _ _ _ hp)) (hD2.sub perm hnp hp) hS1 hl
end KP5
abbrev wRr_H (k : Nat → ClassId) (ah : Nat → Nat) (ar : Nat → Nat → Nat) (ac ax : Nat → Nat) (a : Nat) (c t : CS) (h : HS) : va_W := [(a, .inr (2, [.ref (ah 0), .ref (ac 0), .ref (ax 0)])), (ac 0, .inr (0, [.ref (ah 0), .int (c_over c), .ref (ac 1), .ref (ac 2), .ref (ac 3), .ref (ac 4), .ref (ac 5), .ref (ac 6), .long (c_begun c), .long (c_fromSun c), .long (c_fromPersons c), .long (c_goneOut c), .int (c_setRoom c), .int (c_setTried c), .int (c_setFrom c), .int (c_mostRoom c), .int (c_mostTried c), .int (c_fellShort c)])), (ac 1, .inl (k 1, 8, .inr (.inl (c_heat c)))), (ac 2, .inl (k 1, 8, .inr (.inl (c_warmth c)))), (ac 3, .inl (k 1, 8, .inr (.inl (c_given c)))), (ac 4, .inl (k 1, 8, .inr (.inl (c_taken c)))), (ac 5, .inl (k 1, 8, .inr (.inl (c_greatest c)))), (ac 6, .inl (k 0, 8, .inl (c_uneasy c))), (ax 0, .inr (0, [.ref (ah 0), .int (c_over t), .ref (ax 1), .ref (ax 2), .ref (ax 3), .ref (ax 4), .ref (ax 5), .ref (ax 6), .long (c_begun t), .long (c_fromSun t), .long (c_fromPersons t), .long (c_goneOut t), .int (c_setRoom t), .int (c_setTried t), .int (c_setFrom t), .int (c_mostRoom t), .int (c_mostTried t), .int (c_fellShort t)])), (ax 1, .inl (k 1, 8, .inr (.inl (c_heat t)))), (ax 2, .inl (k 1, 8, .inr (.inl (c_warmth t)))), (ax 3, .inl (k 1, 8, .inr (.inl (c_given t)))), (ax 4, .inl (k 1, 8, .inr (.inl (c_taken t)))), (ax 5, .inl (k 1, 8, .inr (.inl (c_greatest t)))), (ax 6, .inl (k 0, 8, .inl (c_uneasy t)))]
set_option maxRecDepth 100000 in
set_option maxHeartbeats 4000000 in
theorem chR_H {k : Nat → ClassId} {ah : Nat → Nat} {ar : Nat → Nat → Nat} {ac ax : Nat → Nat} {a : Nat} {c t : CS} {h : HS} : ([8, 9, 10, 11, 12, 13, 14, 15, 16, 17, 18, 19, 20, 21, 22, 23, 24, 25, 26, 27, 28, 29, 30] : List Nat).map (fun i => (wR k ah ar ac ax a c t h)[i]?) = (wH k ah ar h).map some := rfl
set_option maxRecDepth 100000 in
set_option maxHeartbeats 4000000 in
theorem rhR_H {k : Nat → ClassId} {ah : Nat → Nat} {ar : Nat → Nat → Nat} {ac ax : Nat → Nat} {a : Nat} {c t : CS} {h : HS} : ([0, 1, 2, 3, 4, 5, 6, 7, 31, 32, 33, 34, 35, 36, 37] : List Nat).map (fun i => (wR k ah ar ac ax a c t h)[i]?) = (wRr_H k ah ar ac ax a c t h).map some := rfl
set_option maxRecDepth 100000 in
set_option maxHeartbeats 4000000 in
theorem ppR_H {k : Nat → ClassId} {ah : Nat → Nat} {ar : Nat → Nat → Nat} {ac ax : Nat → Nat} {a : Nat} {c t : CS} {h : HS} {h9 : HS} : ([0, 1, 2, 3, 4, 5, 6, 7, 15, 16, 17, 18, 19, 20, 21, 22, 23, 24, 25, 26, 27, 28, 29, 30, 31, 32, 33, 34, 35, 36, 37, 8, 9, 10, 11, 12, 13, 14] : List Nat).map (fun i => (wRr_H k ah ar ac ax a c t h ++ wH k ah ar h9)[i]?) = (wR k ah ar ac ax a c t h9).map some := rfl
abbrev wRr_C (k : Nat → ClassId) (ah : Nat → Nat) (ar : Nat → Nat → Nat) (ac ax : Nat → Nat) (a : Nat) (c t : CS) (h : HS) : va_W := [(a, .inr (2, [.ref (ah 0), .ref (ac 0), .ref (ax 0)])), (ax 0, .inr (0, [.ref (ah 0), .int (c_over t), .ref (ax 1), .ref (ax 2), .ref (ax 3), .ref (ax 4), .ref (ax 5), .ref (ax 6), .long (c_begun t), .long (c_fromSun t), .long (c_fromPersons t), .long (c_goneOut t), .int (c_setRoom t), .int (c_setTried t), .int (c_setFrom t), .int (c_mostRoom t), .int (c_mostTried t), .int (c_fellShort t)])), (ax 1, .inl (k 1, 8, .inr (.inl (c_heat t)))), (ax 2, .inl (k 1, 8, .inr (.inl (c_warmth t)))), (ax 3, .inl (k 1, 8, .inr (.inl (c_given t)))), (ax 4, .inl (k 1, 8, .inr (.inl (c_taken t)))), (ax 5, .inl (k 1, 8, .inr (.inl (c_greatest t)))), (ax 6, .inl (k 0, 8, .inl (c_uneasy t)))]
set_option maxRecDepth 100000 in
set_option maxHeartbeats 4000000 in
theorem chR_C {k : Nat → ClassId} {ah : Nat → Nat} {ar : Nat → Nat → Nat} {ac ax : Nat → Nat} {a : Nat} {c t : CS} {h : HS} : ([1, 2, 3, 4, 5, 6, 7, 8, 9, 10, 11, 12, 13, 14, 15, 16, 17, 18, 19, 20, 21, 22, 23, 24, 25, 26, 27, 28, 29, 30] : List Nat).map (fun i => (wR k ah ar ac ax a c t h)[i]?) = (wC k ah ar ac c h).map some := rfl
set_option maxRecDepth 100000 in
set_option maxHeartbeats 4000000 in
theorem rhR_C {k : Nat → ClassId} {ah : Nat → Nat} {ar : Nat → Nat → Nat} {ac ax : Nat → Nat} {a : Nat} {c t : CS} {h : HS} : ([0, 31, 32, 33, 34, 35, 36, 37] : List Nat).map (fun i => (wR k ah ar ac ax a c t h)[i]?) = (wRr_C k ah ar ac ax a c t h).map some := rfl
set_option maxRecDepth 100000 in
set_option maxHeartbeats 4000000 in
theorem ppR_C {k : Nat → ClassId} {ah : Nat → Nat} {ar : Nat → Nat → Nat} {ac ax : Nat → Nat} {a : Nat} {c t : CS} {h : HS} {h9 : HS} {c9 : CS} : ([0, 8, 9, 10, 11, 12, 13, 14, 15, 16, 17, 18, 19, 20, 21, 22, 23, 24, 25, 26, 27, 28, 29, 30, 31, 32, 33, 34, 35, 36, 37, 1, 2, 3, 4, 5, 6, 7] : List Nat).map (fun i => (wRr_C k ah ar ac ax a c t h ++ wC k ah ar ac c9 h9)[i]?) = (wR k ah ar ac ax a c9 t h9).map some := rfl
abbrev wRr_T (k : Nat → ClassId) (ah : Nat → Nat) (ar : Nat → Nat → Nat) (ac ax : Nat → Nat) (a : Nat) (c t : CS) (h : HS) : va_W := [(a, .inr (2, [.ref (ah 0), .ref (ac 0), .ref (ax 0)])), (ac 0, .inr (0, [.ref (ah 0), .int (c_over c), .ref (ac 1), .ref (ac 2), .ref (ac 3), .ref (ac 4), .ref (ac 5), .ref (ac 6), .long (c_begun c), .long (c_fromSun c), .long (c_fromPersons c), .long (c_goneOut c), .int (c_setRoom c), .int (c_setTried c), .int (c_setFrom c), .int (c_mostRoom c), .int (c_mostTried c), .int (c_fellShort c)])), (ac 1, .inl (k 1, 8, .inr (.inl (c_heat c)))), (ac 2, .inl (k 1, 8, .inr (.inl (c_warmth c)))), (ac 3, .inl (k 1, 8, .inr (.inl (c_given c)))), (ac 4, .inl (k 1, 8, .inr (.inl (c_taken c)))), (ac 5, .inl (k 1, 8, .inr (.inl (c_greatest c)))), (ac 6, .inl (k 0, 8, .inl (c_uneasy c)))]
set_option maxRecDepth 100000 in
set_option maxHeartbeats 4000000 in
theorem chR_T {k : Nat → ClassId} {ah : Nat → Nat} {ar : Nat → Nat → Nat} {ac ax : Nat → Nat} {a : Nat} {c t : CS} {h : HS} : ([31, 32, 33, 34, 35, 36, 37, 8, 9, 10, 11, 12, 13, 14, 15, 16, 17, 18, 19, 20, 21, 22, 23, 24, 25, 26, 27, 28, 29, 30] : List Nat).map (fun i => (wR k ah ar ac ax a c t h)[i]?) = (wC k ah ar ax t h).map some := rfl
set_option maxRecDepth 100000 in
set_option maxHeartbeats 4000000 in
theorem rhR_T {k : Nat → ClassId} {ah : Nat → Nat} {ar : Nat → Nat → Nat} {ac ax : Nat → Nat} {a : Nat} {c t : CS} {h : HS} : ([0, 1, 2, 3, 4, 5, 6, 7] : List Nat).map (fun i => (wR k ah ar ac ax a c t h)[i]?) = (wRr_T k ah ar ac ax a c t h).map some := rfl
set_option maxRecDepth 100000 in
set_option maxHeartbeats 4000000 in
theorem ppR_T {k : Nat → ClassId} {ah : Nat → Nat} {ar : Nat → Nat → Nat} {ac ax : Nat → Nat} {a : Nat} {c t : CS} {h : HS} {h9 : HS} {t9 : CS} : ([0, 1, 2, 3, 4, 5, 6, 7, 15, 16, 17, 18, 19, 20, 21, 22, 23, 24, 25, 26, 27, 28, 29, 30, 31, 32, 33, 34, 35, 36, 37, 8, 9, 10, 11, 12, 13, 14] : List Nat).map (fun i => (wRr_T k ah ar ac ax a c t h ++ wC k ah ar ax t9 h9)[i]?) = (wR k ah ar ac ax a c t9 h9).map some := rfl
