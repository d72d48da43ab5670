theorem kapL {w0 wr : va_W} {k : Nat} {q : Nat × va_E} (h : w0[k]? = some q) : (w0 ++ wr)[k]? = some q := by
  have hk := (List.getElem?_eq_some_iff.mp h).1
  rw [List.getElem?_append_left hk, h]
theorem kapR {wr w0 : va_W} {k : Nat} {q : Nat × va_E} (h : w0[k]? = some q) : (wr ++ w0)[wr.length + k]? = some q := by
  rw [List.getElem?_append_right (Nat.le_add_right _ _), Nat.add_sub_cancel_left, h]
theorem kPL {D : va_G} {cl : List vw_C} {w0 wr : va_W} {H : Heap} (h : va_P D cl (w0 ++ wr) H) : va_P D cl w0 H := fun k q hk => h k q (kapL hk)
theorem kPR {D : va_G} {cl : List vw_C} {w0 wr : va_W} {H : Heap} (h : va_P D cl (wr ++ w0) H) : va_P D cl w0 H := fun k q hk => h _ q (kapR hk)
theorem kDL {A : Nat → Prop} {w0 wr : va_W} (h : va_D A (w0 ++ wr)) : va_D A w0 := ⟨fun i j p q hp hq e => h.1 i j p q (kapL hp) (kapL hq) e, fun k q hk => h.2 k q (kapL hk)⟩
theorem kDR {A : Nat → Prop} {w0 wr : va_W} (h : va_D A (wr ++ w0)) : va_D A w0 := ⟨fun i j p q hp hq e => Nat.add_left_cancel (h.1 _ _ p q (kapR hp) (kapR hq) e), fun k q hk => h.2 _ q (kapR hk)⟩
theorem kfreeL {A : Nat → Prop} {w0 wr : va_W} {H0 H : Heap} {locs : List Loc} (hD : va_D A (w0 ++ wr)) (hS : va_S A H0 H locs) (hA : ∀ q : Nat, H0.size ≤ q → A q) : ∀ q, va_A w0 H.size q → A q := fun q h => h.elim (fun ⟨k, e, h⟩ => hD.2 k _ (kapL h)) (fun h => hA q (Nat.le_trans hS.1 h))
theorem kfreeR {A : Nat → Prop} {w0 wr : va_W} {H0 H : Heap} {locs : List Loc} (hD : va_D A (wr ++ w0)) (hS : va_S A H0 H locs) (hA : ∀ q : Nat, H0.size ≤ q → A q) : ∀ q, va_A w0 H.size q → A q := fun q h => h.elim (fun ⟨k, e, h⟩ => hD.2 _ _ (kapR h)) (fun h => hA q (Nat.le_trans hS.1 h))
theorem kadr {w0 w1 : va_W} (had : w1.map (fun q => q.1) = w0.map (fun q => q.1)) : w1.length = w0.length := by simpa using congrArg List.length had
theorem kDad {A : Nat → Prop} {ws ws' : va_W} (hD : va_D A ws) (had : ws'.map (fun q => q.1) = ws.map (fun q => q.1)) : va_D A ws' := kD_of hD (fun k q hk => kaddr had hk)
theorem kjoinL {A : Nat → Prop} {D : va_G} {cl : List vw_C} {w0 w1 wr : va_W} {H H1 : Heap} (hP : va_P D cl (w0 ++ wr) H) (hD : va_D A (w0 ++ wr)) (had : w1.map (fun q => q.1) = w0.map (fun q => q.1)) (hk : ∀ q : Nat, q < H.size → ¬ va_A w0 H.size q → H1[q]? = H[q]?) (hP1 : va_P D cl w1 H1) : va_P D cl (w1 ++ wr) H1 ∧ va_D A (w1 ++ wr) := by
  refine ⟨fun k q hkq => ?_, kDad hD (by rw [List.map_append, List.map_append, had])⟩
  rcases Nat.lt_or_ge k w1.length with h | h
  · rw [List.getElem?_append_left h] at hkq
    exact hP1 k q hkq
  · rw [List.getElem?_append_right h] at hkq
    have hq : (w0 ++ wr)[w0.length + (k - w1.length)]? = some q := kapR hkq
    have hat := hP _ q hq
    refine hat.kept (hk q.1 hat.lt (fun hA => ?_))
    rcases hA with ⟨j, e9, hj⟩ | hA
    · have e := hD.1 j _ (q.1, e9) q (kapL hj) hq rfl
      have := (List.getElem?_eq_some_iff.mp hj).1
      omega
    · exact absurd hat.lt (Nat.not_lt.mpr hA)
theorem kjoinR {A : Nat → Prop} {D : va_G} {cl : List vw_C} {w0 w1 wr : va_W} {H H1 : Heap} (hP : va_P D cl (wr ++ w0) H) (hD : va_D A (wr ++ w0)) (had : w1.map (fun q => q.1) = w0.map (fun q => q.1)) (hk : ∀ q : Nat, q < H.size → ¬ va_A w0 H.size q → H1[q]? = H[q]?) (hP1 : va_P D cl w1 H1) : va_P D cl (wr ++ w1) H1 ∧ va_D A (wr ++ w1) := by
  refine ⟨fun k q hkq => ?_, kDad hD (by rw [List.map_append, List.map_append, had])⟩
  rcases Nat.lt_or_ge k wr.length with h | h
  · rw [List.getElem?_append_left h] at hkq
    have hq : (wr ++ w0)[k]? = some q := kapL hkq
    have hat := hP _ q hq
    refine hat.kept (hk q.1 hat.lt (fun hA => ?_))
    rcases hA with ⟨j, e9, hj⟩ | hA
    · have e := hD.1 _ k (q.1, e9) q (kapR hj) hq rfl
      omega
    · exact absurd hat.lt (Nat.not_lt.mpr hA)
  · rw [List.getElem?_append_right h] at hkq
    exact hP1 _ q hkq
def kN9 (U : State) : Prop := va_Nc "java/lang/IllegalStateException" "java/lang/IllegalArgumentException" U
def kpH (D : va_G) (cl : List vw_C) (ws : va_W) (tys : List (ClassId × FieldType)) (sz : Nat) (av : List Value) : Array Value → State → Prop :=
  va_Pc av (fun U => U.heap.size = sz ∧ va_P D cl ws U.heap ∧ va_K D cl tys U ∧ va_D (fun _ => True) ws ∧ kE U ∧ kZ (va_A ws sz) U U.heap ∧ kN9 U)
theorem kblH {D : va_G} {cl : List vw_C} {ws : va_W} {tys : List (ClassId × FieldType)} {sz : Nat} {av : List Value} : FrameBlind (kpH D cl ws tys sz av) := fun a U g mk q => by
  obtain ⟨q0, q1, qP, qK, qD, qE, qZ, qN⟩ := q
  exact ⟨q0, q1, qP, va_K.moved (u := U) (U := U.calling g mk a) (Vm.Alike.refl U.vm) qK, qD, kE.same (u := U) (U := U.calling g mk a) rfl qE, kZ.moved (u := U) (U := U.calling g mk a) (Vm.Alike.refl U.vm) qZ, va_Nc.moved (u := U) (U := U.calling g mk a) (Vm.Alike.refl U.vm) qN⟩
abbrev kwh (y : MethodName) (b : ByteArray) (n : Nat) (r : Option FieldType) (hh : List (Nat × Nat × Nat × Nat)) : List Cond := Cond.codeWith y b n r hh :: kT
def kHi (l : Launch) (y : MethodName) (wm : List Cond) (rm : Room) (D : va_G) (cl : List vw_C) (tys : List (ClassId × FieldType)) (w0 w1 : va_W) (av : List Value) (r : Int32) : Prop := ∀ sz : Nat, Met l y wm rm (kpH D cl w0 tys sz av) (kQi D cl w0 w1 r sz) 1 6 (va_A w0 sz)
theorem kofWH {l : Launch} {y : MethodName} {ws ws' : List Cond} {rm : Room} {Pc : Array Value → State → Prop} {Qc : Array Value → State → Outcome → State → Prop} {mc ms : Nat} {free : Addr → Prop} {cc : ByteArray} {maxL : Nat} {ret : Option FieldType} {hh : List (Nat × Nat × Nat × Nat)}
    (hy : plainName y.cls = true) (hw : ws = Cond.codeWith y cc maxL ret hh :: ws')
    (body : ∀ p e s m args below meth c s₁, BodyLoose p l y (headSpec ws rm) cc maxL ret e s m args below meth c s₁ → c.maxLocals = maxL → Pc args s →
      W p l e (headSpec ws rm).room s m args below meth c s.heap [] 0 0 (MQ below Qc args s mc ms free) (entryFrame m args maxL)) : Met l y ws rm Pc Qc mc ms free := by
  refine MetFree.of_bodyS (code := cc) (maxLocals := maxL) (ret := ret) hy ?_ ?_
  · intro args s m h hn
    obtain ⟨m9, meth, c, hn9, h1, h2, h3, h4, -, h5, h6, -⟩ := Cond.codeWith_spec (atoms_spec (ws := ws) h _ (by rw [hw]; exact List.mem_cons_self))
    cases hn.symm.trans hn9
    exact ⟨meth, c, h1, h2, h3, h4, h5, h6⟩
  · intro p e s m args below meth c s₁ B hml hP _
    have hh0 : s₁.heap = s.heap := by rw [B.state]; rfl
    obtain ⟨t, a1, o, b1, b2, b3⟩ := body p e s m args below meth c s₁ B hml hP s₁ hh0 (Stand.of_body B)
    exact ⟨t, o, a1, b1, b2, b3⟩
theorem k_entry_h {l : Launch} {y : MethodName} {own : String} {rm : Room} {D : va_G} {cl : List vw_C} {tys : List (ClassId × FieldType)} {w0 w1 : va_W} {av : List Value} {r : Int32} {cc : ByteArray} {maxL : Nat} {ret : Option FieldType} {hh : List (Nat × Nat × Nat × Nat)} {lv0 : List (Nat × Value)} (ho : y.cls = own) (hy : plainName own = true) (hlen : (lg_sl av).length ≤ maxL) (hlv : lv_args 0 av = lv0)
    (body : ∀ (p : Program) (e : Env) (s : State) (m : MethodId) (args : Array Value) (below : List Frame) (meth : Method) (c : Code), kC p s m args c cc own kT D cl tys (va_A w0 s.heap.size) maxL → meth.sig.returnType = ret → meth.locks = false → c.exceptionTable.toList = tableOf hh → kE s → kZ (va_A w0 s.heap.size) s s.heap → kN9 s → kW p l e rm s m args below meth c D cl (va_A w0 s.heap.size) maxL 0 0 (MQ below (kQi D cl w0 w1 r s.heap.size) args s 1 6 (va_A w0 s.heap.size)) 0 lv0 [] w0) : kHi l y (kwh y cc maxL ret hh) rm D cl tys w0 w1 av r := fun sz => by
  subst ho
  refine kofWH (cc := cc) (maxL := maxL) (ret := ret) (hh := hh) hy rfl ?_
  intro p e s m args below meth c s1 B hml hv
  obtain ⟨rfl, hsz, hP, hK, hD0, hE, hZ, hN⟩ := hv
  subst hsz
  have hl := lv_entry av (n := maxL) hlen
  rw [lg_entry_eq]
  rw [hlv] at hl
  have hts := atoms_spec (ws := kwh y cc maxL ret hh) B.pre
  exact body p e s m _ below meth c ⟨⟨B.exec, B.bytes, hml, findClass_of_methodNamed B.named, fun w h => hts w (List.mem_cons_of_mem _ h)⟩, hK, fun q h => Or.inr h⟩ B.returns B.notSynchronized (vx_table (x := y) B (hts _ List.mem_cons_self)) hE hZ hN s.heap [] _ hP hD0.self va_S.rf hl
def kcode : String ⊕ Unit → Int32
  | .inl E => if E = "java/lang/IllegalArgumentException" then 1 else 2
  | .inr _ => 0
def kout (ro : String ⊕ Unit) (r : Int64) (f : Nat → Int64) : Nat → Int64 := match ro with
  | .inl _ => f
  | .inr _ => vp_updL f 0 r
section KP6
variable {p : Program} {l : Launch} {e : Env} {R : Room} {s : State} {m : MethodId} {args : Array Value} {below : List Frame} {meth : Method} {c : Code} {cells slots : Nat} {Q : State → Prop}
variable {cc : ByteArray} {own : String} {Ts : List Cond} {D : va_G} {cl : List vw_C} {tys : List (ClassId × FieldType)} {A : Nat → Prop} {nL : Nat}
variable {pc : Nat} {lv : List (Nat × Value)} {st : List Value} {ws : va_W}
theorem kh_iret {w0 w1 : va_W} (C : kC p s m args c cc own Ts D cl tys (va_A w0 s.heap.size) nL) (hr : meth.sig.returnType = some .int) (hlocks : meth.locks = false) {v r : Int32} (hv : v = r) (d : decode cc pc = .ok (.ireturn, 1)) : kW p l e R s m args below meth c D cl (va_A w0 s.heap.size) nL 1 6 (MQ below (kQi D cl w0 w1 r s.heap.size) args s 1 6 (va_A w0 s.heap.size)) pc lv [.int v] w1 := fun H locs ls hP hD hS hl => W.iret (v := v) C.1.1 C.1.2.1 hr (fun t ht hW => ⟨⟨v, (), rfl, hv, by rw [ht]; exact hP, hD⟩, hS.F ht⟩) hS.2.2 d hlocks
/-- a call on the first of two worlds, of a method that throws; hnd: the place of the handler for what is thrown -/
theorem kw_callXi (C : kC p s m args c cc own Ts D cl tys A nL) (hE : kE s) (hZ : kZ A s s.heap) {y : MethodName} {wm : List Cond} {rm : Room} {Cn : String} {b : Nat} {index maxL n : Nat} {bytes : ByteArray} {ret : Option FieldType} {As st0 : List Value} {w0 w1 wr : va_W} {ro : String ⊕ Unit} {r : Int32} (hM : kNi l y wm rm D cl tys w0 w1 (.ref b :: As) ro r) (cw : CallW R s args own Cn index y bytes maxL ret wm rm 1 6 n) (q0 ci : Nat) {fs : List Value} {qc : vw_C} (hb0 : w0[q0]? = some (b, .inr (ci, fs))) (hb1 : cl[ci]? = some qc) (hb2 : qc.1 = Cn) (hn : As.length = n) (hst : st0 = As.reverse ++ .ref b :: st) (hroom : (st.map fun v => v.category).sum ≤ 8) (d : decode cc pc = .ok (.invokevirtual index, 3)) (hcs : cells + 1 ≤ R.cells ∧ slots + 6 ≤ R.slots) (had : w1.map (fun q => q.1) = w0.map (fun q => q.1))
    (kx : ∀ (E : String), ro = .inl E → ∃ (name : String) (pre : List ExceptionTableEntry) (x : ExceptionTableEntry) (suf : List ExceptionTableEntry), c.exceptionTable.toList = pre ++ x :: suf ∧ (∀ z ∈ pre, covers z pc = false ∨ (z.catchType ≠ 0 ∧ ∃ nm : String, (Cond.classLink own z.catchType nm).before args s = true ∧ va_Nc E nm s)) ∧ covers x pc = true ∧ x.catchType ≠ 0 ∧ (Cond.classLink own x.catchType name).before args s = true ∧ (Cond.castable E name).before args s = true ∧ ∀ q : Nat, kW p l e R s m args below meth c D cl A nL (cells + 1) (slots + 6) Q x.handlerPc lv [.ref q] (w0 ++ wr))
    (kk : ro = .inr () → kW p l e R s m args below meth c D cl A nL (cells + 1) (slots + 6) Q (pc + 3) lv (.int r :: st) (w1 ++ wr)) : kW p l e R s m args below meth c D cl A nL cells slots Q pc lv st0 (w0 ++ wr) := fun H locs ls hP hD hS hl => by
  have hPc := kPL hP
  have hDc := kDL hD
  have hKc := C.2.1
  have hFc := kfreeL hD hS C.2.2
  have hZ1 : kZ (va_A w0 H.size) s H := (hZ.kept (H1 := H) hS.2.1).narrow hFc
  refine vx_calli (vx_runV (As := As) (rest := st) C.1 (hM H.size) cw ⟨kblX, by rw [← hb2]; exact va_recv hKc hPc hb1 hb0, fun U hU hW => ⟨rfl, by rw [hU], by rw [hU]; exact hPc, va_K.moved hW.alike hKc, hDc.weaken (fun _ _ _ _ => trivial), kE.warm hW hE, by rw [hU]; exact kZ.moved hW.alike hZ1⟩⟩ rfl hn hl.1 hst (lv_room hroom) d hcs) hS (fun q _ h => hFc q h) hFc (fun q _ h => hFc q h) (fun E ce q9 u t H1 locs1 ht hvm hpx hB hz1 hk1 hS1 hce hcv hcl => ?_) (fun x u t H1 locs1 ht hvm hw hB hz1 hk1 hS1 => ?_)
  · obtain ⟨hro, hP1, hD1⟩ := hB
    rw [ht] at hP1
    obtain ⟨hP2, hD2⟩ := kjoinL hP hD rfl hk1 hP1
    obtain ⟨name, pre, x, suf, g1, g2, g3, g4, g5, g6, g7⟩ := kx E hro
    exact vx_catch C.1.2.2.2.1 pre x suf g1 g2 g3 g4 g5 g6 hce hcv hcl (g7 q9 H1 locs1 ls hP2 hD2 hS1 hl)
  · obtain ⟨hP1, hD1⟩ := hB
    rw [ht] at hP1
    obtain ⟨hP2, hD2⟩ := kjoinL hP hD had hk1 hP1
    obtain ⟨hro, hx⟩ := hw
    subst hx
    exact kk hro H1 locs1 ls hP2 hD2 hS1 hl
theorem kw_callRi (C : kC p s m args c cc own Ts D cl tys A nL) {y : MethodName} {wm : List Cond} {rm : Room} {Cn : String} {b : Nat} {index maxL n : Nat} {bytes : ByteArray} {ret : Option FieldType} {As st0 : List Value} {w0 w1 wr : va_W} {r : Int32} (hM : kMi l y wm rm D cl tys w0 w1 (.ref b :: As) r) (cw : CallW R s args own Cn index y bytes maxL ret wm rm 0 0 n) (q0 ci : Nat) {fs : List Value} {qc : vw_C} (hb0 : w0[q0]? = some (b, .inr (ci, fs))) (hb1 : cl[ci]? = some qc) (hb2 : qc.1 = Cn) (hn : As.length = n) (hst : st0 = As.reverse ++ .ref b :: st) (hroom : (st.map fun v => v.category).sum ≤ 8) (d : decode cc pc = .ok (.invokevirtual index, 3)) (hcs : cells ≤ R.cells ∧ slots ≤ R.slots) (had : w1.map (fun q => q.1) = w0.map (fun q => q.1)) (kk : kW p l e R s m args below meth c D cl A nL cells slots Q (pc + 3) lv (.int r :: st) (wr ++ w1)) : kW p l e R s m args below meth c D cl A nL cells slots Q pc lv st0 (wr ++ w0) := fun H locs ls hP hD hS hl => by
  have hPc := kPR hP
  have hDc := kDR hD
  have hKc := C.2.1
  have hFc := kfreeR hD hS C.2.2
  refine va_calli (va_runV (As := As) (rest := st) C.1 (hM H.size) cw ⟨kblind, by rw [← hb2]; exact va_recv hKc hPc hb1 hb0, fun U hU hW => ⟨rfl, by rw [hU], by rw [hU]; exact hPc, va_K.moved hW.alike hKc, hDc.weaken (fun _ _ _ _ => trivial)⟩⟩ rfl hn hl.1 hst (lv_room hroom) d hcs) hS (fun q _ h => hFc q h) hFc (fun x u t H1 locs1 ht hvm hw hB hz1 hk1 hS1 => ?_)
  obtain ⟨hP1, hD1⟩ := hB
  rw [ht] at hP1
  obtain ⟨hP2, hD2⟩ := kjoinR hP hD had hk1 hP1
  subst hw
  exact kk H1 locs1 ls hP2 hD2 hS1 hl
/-- a call on the first of two worlds, of a method that throws; hnd: the place of the handler for what is thrown -/
theorem kw_callXl (C : kC p s m args c cc own Ts D cl tys A nL) (hE : kE s) (hZ : kZ A s s.heap) {y : MethodName} {wm : List Cond} {rm : Room} {Cn : String} {b : Nat} {index maxL n : Nat} {bytes : ByteArray} {ret : Option FieldType} {As st0 : List Value} {w0 w1 wr : va_W} {ro : String ⊕ Unit} {r : Int64} (hM : kNl l y wm rm D cl tys w0 w1 (.ref b :: As) ro r) (cw : CallW R s args own Cn index y bytes maxL ret wm rm 1 6 n) (q0 ci : Nat) {fs : List Value} {qc : vw_C} (hb0 : w0[q0]? = some (b, .inr (ci, fs))) (hb1 : cl[ci]? = some qc) (hb2 : qc.1 = Cn) (hn : As.length = n) (hst : st0 = As.reverse ++ .ref b :: st) (hroom : (st.map fun v => v.category).sum ≤ 8) (d : decode cc pc = .ok (.invokevirtual index, 3)) (hcs : cells + 1 ≤ R.cells ∧ slots + 6 ≤ R.slots) (had : w1.map (fun q => q.1) = w0.map (fun q => q.1))
    (kx : ∀ (E : String), ro = .inl E → ∃ (name : String) (pre : List ExceptionTableEntry) (x : ExceptionTableEntry) (suf : List ExceptionTableEntry), c.exceptionTable.toList = pre ++ x :: suf ∧ (∀ z ∈ pre, covers z pc = false ∨ (z.catchType ≠ 0 ∧ ∃ nm : String, (Cond.classLink own z.catchType nm).before args s = true ∧ va_Nc E nm s)) ∧ covers x pc = true ∧ x.catchType ≠ 0 ∧ (Cond.classLink own x.catchType name).before args s = true ∧ (Cond.castable E name).before args s = true ∧ ∀ q : Nat, kW p l e R s m args below meth c D cl A nL (cells + 1) (slots + 6) Q x.handlerPc lv [.ref q] (w0 ++ wr))
    (kk : ro = .inr () → kW p l e R s m args below meth c D cl A nL (cells + 1) (slots + 6) Q (pc + 3) lv (.long r :: st) (w1 ++ wr)) : kW p l e R s m args below meth c D cl A nL cells slots Q pc lv st0 (w0 ++ wr) := fun H locs ls hP hD hS hl => by
  have hPc := kPL hP
  have hDc := kDL hD
  have hKc := C.2.1
  have hFc := kfreeL hD hS C.2.2
  have hZ1 : kZ (va_A w0 H.size) s H := (hZ.kept (H1 := H) hS.2.1).narrow hFc
  refine vx_calll (vx_runV (As := As) (rest := st) C.1 (hM H.size) cw ⟨kblX, by rw [← hb2]; exact va_recv hKc hPc hb1 hb0, fun U hU hW => ⟨rfl, by rw [hU], by rw [hU]; exact hPc, va_K.moved hW.alike hKc, hDc.weaken (fun _ _ _ _ => trivial), kE.warm hW hE, by rw [hU]; exact kZ.moved hW.alike hZ1⟩⟩ rfl hn hl.1 hst (lv_room hroom) d hcs) hS (fun q _ h => hFc q h) hFc (fun q _ h => hFc q h) (fun E ce q9 u t H1 locs1 ht hvm hpx hB hz1 hk1 hS1 hce hcv hcl => ?_) (fun x u t H1 locs1 ht hvm hw hB hz1 hk1 hS1 => ?_)
  · obtain ⟨hro, hP1, hD1⟩ := hB
    rw [ht] at hP1
    obtain ⟨hP2, hD2⟩ := kjoinL hP hD rfl hk1 hP1
    obtain ⟨name, pre, x, suf, g1, g2, g3, g4, g5, g6, g7⟩ := kx E hro
    exact vx_catch C.1.2.2.2.1 pre x suf g1 g2 g3 g4 g5 g6 hce hcv hcl (g7 q9 H1 locs1 ls hP2 hD2 hS1 hl)
  · obtain ⟨hP1, hD1⟩ := hB
    rw [ht] at hP1
    obtain ⟨hP2, hD2⟩ := kjoinL hP hD had hk1 hP1
    obtain ⟨hro, hx⟩ := hw
    subst hx
    exact kk hro H1 locs1 ls hP2 hD2 hS1 hl
theorem kw_callRl (C : kC p s m args c cc own Ts D cl tys A nL) {y : MethodName} {wm : List Cond} {rm : Room} {Cn : String} {b : Nat} {index maxL n : Nat} {bytes : ByteArray} {ret : Option FieldType} {As st0 : List Value} {w0 w1 wr : va_W} {r : Int64} (hM : kMl l y wm rm D cl tys w0 w1 (.ref b :: As) r) (cw : CallW R s args own Cn index y bytes maxL ret wm rm 0 0 n) (q0 ci : Nat) {fs : List Value} {qc : vw_C} (hb0 : w0[q0]? = some (b, .inr (ci, fs))) (hb1 : cl[ci]? = some qc) (hb2 : qc.1 = Cn) (hn : As.length = n) (hst : st0 = As.reverse ++ .ref b :: st) (hroom : (st.map fun v => v.category).sum ≤ 8) (d : decode cc pc = .ok (.invokevirtual index, 3)) (hcs : cells ≤ R.cells ∧ slots ≤ R.slots) (had : w1.map (fun q => q.1) = w0.map (fun q => q.1)) (kk : kW p l e R s m args below meth c D cl A nL cells slots Q (pc + 3) lv (.long r :: st) (wr ++ w1)) : kW p l e R s m args below meth c D cl A nL cells slots Q pc lv st0 (wr ++ w0) := fun H locs ls hP hD hS hl => by
  have hPc := kPR hP
  have hDc := kDR hD
  have hKc := C.2.1
  have hFc := kfreeR hD hS C.2.2
  refine va_calll (va_runV (As := As) (rest := st) C.1 (hM H.size) cw ⟨kblind, by rw [← hb2]; exact va_recv hKc hPc hb1 hb0, fun U hU hW => ⟨rfl, by rw [hU], by rw [hU]; exact hPc, va_K.moved hW.alike hKc, hDc.weaken (fun _ _ _ _ => trivial)⟩⟩ rfl hn hl.1 hst (lv_room hroom) d hcs) hS (fun q _ h => hFc q h) hFc (fun x u t H1 locs1 ht hvm hw hB hz1 hk1 hS1 => ?_)
  obtain ⟨hP1, hD1⟩ := hB
  rw [ht] at hP1
  obtain ⟨hP2, hD2⟩ := kjoinR hP hD had hk1 hP1
  subst hw
  exact kk H1 locs1 ls hP2 hD2 hS1 hl
/-- a call on the first of two worlds, of a method that throws; hnd: the place of the handler for what is thrown -/
theorem kw_callXv (C : kC p s m args c cc own Ts D cl tys A nL) (hE : kE s) (hZ : kZ A s s.heap) {y : MethodName} {wm : List Cond} {rm : Room} {Cn : String} {b : Nat} {index maxL n : Nat} {bytes : ByteArray} {ret : Option FieldType} {As st0 : List Value} {w0 w1 wr : va_W} {ro : String ⊕ Unit} (hM : kNv l y wm rm D cl tys w0 w1 (.ref b :: As) ro) (cw : CallW R s args own Cn index y bytes maxL ret wm rm 1 6 n) (q0 ci : Nat) {fs : List Value} {qc : vw_C} (hb0 : w0[q0]? = some (b, .inr (ci, fs))) (hb1 : cl[ci]? = some qc) (hb2 : qc.1 = Cn) (hn : As.length = n) (hst : st0 = As.reverse ++ .ref b :: st) (hroom : (st.map fun v => v.category).sum ≤ 8) (d : decode cc pc = .ok (.invokevirtual index, 3)) (hcs : cells + 1 ≤ R.cells ∧ slots + 6 ≤ R.slots) (had : w1.map (fun q => q.1) = w0.map (fun q => q.1))
    (kx : ∀ (E : String), ro = .inl E → ∃ (name : String) (pre : List ExceptionTableEntry) (x : ExceptionTableEntry) (suf : List ExceptionTableEntry), c.exceptionTable.toList = pre ++ x :: suf ∧ (∀ z ∈ pre, covers z pc = false ∨ (z.catchType ≠ 0 ∧ ∃ nm : String, (Cond.classLink own z.catchType nm).before args s = true ∧ va_Nc E nm s)) ∧ covers x pc = true ∧ x.catchType ≠ 0 ∧ (Cond.classLink own x.catchType name).before args s = true ∧ (Cond.castable E name).before args s = true ∧ ∀ q : Nat, kW p l e R s m args below meth c D cl A nL (cells + 1) (slots + 6) Q x.handlerPc lv [.ref q] (w0 ++ wr))
    (kk : ro = .inr () → kW p l e R s m args below meth c D cl A nL (cells + 1) (slots + 6) Q (pc + 3) lv st (w1 ++ wr)) : kW p l e R s m args below meth c D cl A nL cells slots Q pc lv st0 (w0 ++ wr) := fun H locs ls hP hD hS hl => by
  have hPc := kPL hP
  have hDc := kDL hD
  have hKc := C.2.1
  have hFc := kfreeL hD hS C.2.2
  have hZ1 : kZ (va_A w0 H.size) s H := (hZ.kept (H1 := H) hS.2.1).narrow hFc
  refine vx_callv (vx_runV (As := As) (rest := st) C.1 (hM H.size) cw ⟨kblX, by rw [← hb2]; exact va_recv hKc hPc hb1 hb0, fun U hU hW => ⟨rfl, by rw [hU], by rw [hU]; exact hPc, va_K.moved hW.alike hKc, hDc.weaken (fun _ _ _ _ => trivial), kE.warm hW hE, by rw [hU]; exact kZ.moved hW.alike hZ1⟩⟩ rfl hn hl.1 hst (lv_room hroom) d hcs) hS (fun q _ h => hFc q h) hFc (fun q _ h => hFc q h) (fun E ce q9 u t H1 locs1 ht hvm hpx hB hz1 hk1 hS1 hce hcv hcl => ?_) (fun u t H1 locs1 ht hvm hw hB hz1 hk1 hS1 => ?_)
  · obtain ⟨hro, hP1, hD1⟩ := hB
    rw [ht] at hP1
    obtain ⟨hP2, hD2⟩ := kjoinL hP hD rfl hk1 hP1
    obtain ⟨name, pre, x, suf, g1, g2, g3, g4, g5, g6, g7⟩ := kx E hro
    exact vx_catch C.1.2.2.2.1 pre x suf g1 g2 g3 g4 g5 g6 hce hcv hcl (g7 q9 H1 locs1 ls hP2 hD2 hS1 hl)
  · obtain ⟨hP1, hD1⟩ := hB
    rw [ht] at hP1
    obtain ⟨hP2, hD2⟩ := kjoinL hP hD had hk1 hP1
    have hro := hw
    exact kk hro H1 locs1 ls hP2 hD2 hS1 hl
theorem kw_callRv (C : kC p s m args c cc own Ts D cl tys A nL) {y : MethodName} {wm : List Cond} {rm : Room} {Cn : String} {b : Nat} {index maxL n : Nat} {bytes : ByteArray} {ret : Option FieldType} {As st0 : List Value} {w0 w1 wr : va_W} (hM : kMv l y wm rm D cl tys w0 w1 (.ref b :: As)) (cw : CallW R s args own Cn index y bytes maxL ret wm rm 0 0 n) (q0 ci : Nat) {fs : List Value} {qc : vw_C} (hb0 : w0[q0]? = some (b, .inr (ci, fs))) (hb1 : cl[ci]? = some qc) (hb2 : qc.1 = Cn) (hn : As.length = n) (hst : st0 = As.reverse ++ .ref b :: st) (hroom : (st.map fun v => v.category).sum ≤ 8) (d : decode cc pc = .ok (.invokevirtual index, 3)) (hcs : cells ≤ R.cells ∧ slots ≤ R.slots) (had : w1.map (fun q => q.1) = w0.map (fun q => q.1)) (kk : kW p l e R s m args below meth c D cl A nL cells slots Q (pc + 3) lv st (wr ++ w1)) : kW p l e R s m args below meth c D cl A nL cells slots Q pc lv st0 (wr ++ w0) := fun H locs ls hP hD hS hl => by
  have hPc := kPR hP
  have hDc := kDR hD
  have hKc := C.2.1
  have hFc := kfreeR hD hS C.2.2
  refine va_callv (va_runV (As := As) (rest := st) C.1 (hM H.size) cw ⟨kblind, by rw [← hb2]; exact va_recv hKc hPc hb1 hb0, fun U hU hW => ⟨rfl, by rw [hU], by rw [hU]; exact hPc, va_K.moved hW.alike hKc, hDc.weaken (fun _ _ _ _ => trivial)⟩⟩ rfl hn hl.1 hst (lv_room hroom) d hcs) hS (fun q _ h => hFc q h) hFc (fun u t H1 locs1 ht hvm hw hB hz1 hk1 hS1 => ?_)
  obtain ⟨hP1, hD1⟩ := hB
  rw [ht] at hP1
  obtain ⟨hP2, hD2⟩ := kjoinR hP hD had hk1 hP1
  exact kk H1 locs1 ls hP2 hD2 hS1 hl
/-- the law calls a helper on the first of two worlds -/
theorem kw_callH (C : kC p s m args c cc own Ts D cl tys A nL) (hE : kE s) (hZ : kZ A s s.heap) (hN : kN9 s) {y : MethodName} {wm : List Cond} {rm : Room} {index maxL n : Nat} {bytes : ByteArray} {ret : Option FieldType} {hh : List (Nat × Nat × Nat × Nat)} {As st0 : List Value} {w0 w1 wr : va_W} {r : Int32} (hM : kHi l y wm rm D cl tys w0 w1 As r) (cw : vx_CSW R s args own index y bytes maxL ret hh wm rm 1 6 n) (hn : As.length = n) (hst : st0 = As.reverse ++ st) (hroom : (st.map fun v => v.category).sum ≤ 8) (d : decode cc pc = .ok (.invokestatic index, 3)) (hcs : cells + 1 ≤ R.cells ∧ slots + 6 ≤ R.slots) (had : w1.map (fun q => q.1) = w0.map (fun q => q.1)) (kk : kW p l e R s m args below meth c D cl A nL (cells + 1) (slots + 6) Q (pc + 3) lv (.int r :: st) (w1 ++ wr)) : kW p l e R s m args below meth c D cl A nL cells slots Q pc lv st0 (w0 ++ wr) := fun H locs ls hP hD hS hl => by
  have hPc := kPL hP
  have hDc := kDL hD
  have hKc := C.2.1
  have hFc := kfreeL hD hS C.2.2
  have hZ1 : kZ (va_A w0 H.size) s H := (hZ.kept (H1 := H) hS.2.1).narrow hFc
  refine va_calli (vx_runSW (As := As) (rest := st) C.1 (hM H.size) cw ⟨kblH, fun U hU hW => ⟨rfl, by rw [hU], by rw [hU]; exact hPc, va_K.moved hW.alike hKc, hDc.weaken (fun _ _ _ _ => trivial), kE.warm hW hE, by rw [hU]; exact kZ.moved hW.alike hZ1, va_Nc.moved hW.alike hN⟩⟩ rfl hn hl.1 hst (lv_room hroom) d hcs) hS (fun q _ h => hFc q h) hFc (fun x u t H1 locs1 ht hvm hw hB hz1 hk1 hS1 => ?_)
  obtain ⟨hP1, hD1⟩ := hB
  rw [ht] at hP1
  obtain ⟨hP2, hD2⟩ := kjoinL hP hD had hk1 hP1
  subst hw
  exact kk H1 locs1 ls hP2 hD2 hS1 hl
theorem kw_sld (C : kC p s m args c cc own Ts D cl tys A nL) {b n : Nat} {xs : Nat → Int32} (hX : va_X b n xs s s.heap) (hb : b < s.heap.size) (hbA : ¬ A b) {i : Int32} {j : Nat} (hi : kix i n j) (d : decode cc pc = .ok (.iaload, 1)) (kk : kW p l e R s m args below meth c D cl A nL cells slots Q (pc + 1) lv (.int (xs j) :: st) ws) : kW p l e R s m args below meth c D cl A nL cells slots Q pc lv (.int i :: .ref b :: st) ws := fun H locs ls hP hD hS hl => va_sld C.1.1 C.1.2.1 hX hb hbA hS hi.1 d (by rw [hi.2]; exact kk H locs ls hP hD hS hl)
theorem kw_slen (C : kC p s m args c cc own Ts D cl tys A nL) {b n : Nat} {xs : Nat → Int32} (hX : va_X b n xs s s.heap) (hb : b < s.heap.size) (hbA : ¬ A b) (d : decode cc pc = .ok (.arraylength, 1)) (kk : kW p l e R s m args below meth c D cl A nL cells slots Q (pc + 1) lv (.int (nI n) :: st) ws) : kW p l e R s m args below meth c D cl A nL cells slots Q pc lv (.ref b :: st) ws := fun H locs ls hP hD hS hl => va_slen C.1.1 C.1.2.1 hX hb hbA hS d (kk H locs ls hP hD hS hl)
theorem kgH {own : String} {index n : Nat} {y : MethodName} {b : ByteArray} {r : Option FieldType} {hh : List (Nat × Nat × Nat × Nat)} (h1 : Cond.methodLink own index y ∈ kT) (h2 : Cond.static y ∈ kT) (h4 : Cond.initialized y.cls ∈ kT) (h5 : Cond.codeWith y b n r hh ∈ kT) : GoodIn kT (va_wsS own index y (kwh y b n r hh)) := by
  intro w hw
  simp only [va_wsS, List.cons_append, List.nil_append, List.mem_cons] at hw
  rcases hw with rfl | rfl | rfl | rfl | hw
  · exact kT_good _ h1
  · exact kT_good _ h2
  · exact kT_good _ h4
  · exact kT_good _ h5
  · exact kT_good _ hw
end KP6
