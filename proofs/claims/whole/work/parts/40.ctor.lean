theorem va_AOA.moved {t : FieldType} {u U : State} (hvm : u.vm.Alike U.vm) (h : va_AOA t u) : va_AOA t U := kao_moved hvm h
def kpC (D : va_G) (cl : List vw_C) (ws : va_W) (tys : List (ClassId × FieldType)) (sz : Nat) (av : List Value) : Array Value → State → Prop :=
  va_Pc av (fun U => U.heap.size = sz ∧ va_P D cl ws U.heap ∧ va_K D cl tys U ∧ va_D (fun _ => True) ws ∧ va_AOA .int U)
theorem kblC {D : va_G} {cl : List vw_C} {ws : va_W} {tys : List (ClassId × FieldType)} {sz : Nat} {av : List Value} : FrameBlind (kpC D cl ws tys sz av) := fun a U g mk q => by
  obtain ⟨q0, q1, qP, qK, qD, qA⟩ := q
  exact ⟨q0, q1, qP, va_K.moved (u := U) (U := U.calling g mk a) (Vm.Alike.refl U.vm) qK, qD, va_AOA.moved (u := U) (U := U.calling g mk a) (Vm.Alike.refl U.vm) qA⟩
def kQc (D : va_G) (cl : List vw_C) (w0 : va_W) (B : va_W → Prop) (sz : Nat) : Array Value → State → Outcome → State → Prop := va_Qv B (fun (w1 : va_W) t => va_P D cl w1 t.heap ∧ va_D (va_A w0 sz) w1) (va_A w0 sz)
def kMc (l : Launch) (y : MethodName) (wm : List Cond) (rm : Room) (D : va_G) (cl : List vw_C) (tys : List (ClassId × FieldType)) (w0 : va_W) (B : va_W → Prop) (av : List Value) (mc ms : Nat) : Prop := ∀ sz : Nat, Met l y wm rm (kpC D cl w0 tys sz av) (kQc D cl w0 B sz) mc ms (va_A w0 sz)
theorem k_entry_c {l : Launch} {y : MethodName} {own : String} {rm : Room} {D : va_G} {cl : List vw_C} {tys : List (ClassId × FieldType)} {w0 : va_W} {B : va_W → Prop} {av : List Value} {mc ms : Nat} {cc : ByteArray} {maxL : Nat} {ret : Option FieldType} {lv0 : List (Nat × Value)} (ho : y.cls = own) (hyn : y.name = "<init>") (hy : plainFor y = true) (hlen : (lg_sl av).length ≤ maxL) (hlv : lv_args 0 av = lv0)
    (body : ∀ (p : Program) (e : Env) (s : State) (m : MethodId) (args : Array Value) (below : List Frame) (meth : Method) (c : Code), kC p s m args c cc own kT D cl tys (va_A w0 s.heap.size) maxL → meth.sig.returnType = ret → meth.locks = false → meth.name = "<init>" → va_AOA .int s → kW p l e rm s m args below meth c D cl (va_A w0 s.heap.size) maxL 0 0 (MQ below (kQc D cl w0 B s.heap.size) args s mc ms (va_A w0 s.heap.size)) 0 lv0 [] w0) : kMc l y (kwm y cc maxL ret) rm D cl tys w0 B av mc ms := fun sz => by
  subst ho
  refine va_MetF (cc := cc) (maxL := maxL) (ret := ret) hy rfl ?_
  intro p e s m args below meth c s1 B9 hml hv
  obtain ⟨rfl, hsz, hP, hK, hD0, hA⟩ := hv
  subst hsz
  have hl := lv_entry av (n := maxL) hlen
  rw [lg_entry_eq]
  rw [hlv] at hl
  have hts := atoms_spec (ws := kwm y cc maxL ret) B9.pre
  exact body p e s m _ below meth c ⟨⟨B9.exec, B9.bytes, hml, findClass_of_methodNamed B9.named, fun w h => hts w (List.mem_cons_of_mem _ h)⟩, hK, fun q h => Or.inr h⟩ B9.returns B9.notSynchronized ((name_of_methodNamed B9.named B9.method).1.trans hyn) hA s.heap [] _ hP hD0.self va_S.rf hl
section KP5
variable {p : Program} {l : Launch} {e : Env} {R : Room} {s : State} {m : MethodId} {args : Array Value} {below : List Frame} {meth : Method} {c : Code} {cells slots : Nat} {Q : State → Prop}
variable {cc : ByteArray} {own : String} {Ts : List Cond} {D : va_G} {cl : List vw_C} {tys : List (ClassId × FieldType)} {A : Nat → Prop} {nL : Nat}
variable {pc : Nat} {lv : List (Nat × Value)} {st : List Value} {ws : va_W}
theorem kw_vretC {w0 : va_W} {B : va_W → Prop} (C : kC p s m args c cc own Ts D cl tys (va_A w0 s.heap.size) nL) (hr : meth.sig.returnType = none) (hlocks : meth.locks = false) (hB : B ws) (d : decode cc pc = .ok (.return_, 1)) : kW p l e R s m args below meth c D cl (va_A w0 s.heap.size) nL cells slots (MQ below (kQc D cl w0 B s.heap.size) args s cells slots (va_A w0 s.heap.size)) pc lv [] ws := fun H locs ls hP hD hS hl => W.vret C.1.1 C.1.2.1 hr (fun t ht hW => ⟨⟨ws, rfl, hB, by rw [ht]; exact hP, hD⟩, hS.F ht⟩) hS.2.2 d hlocks
theorem kw_perm (is : List Nat) {ws' : va_W} (h : is.map (fun i => ws[i]?) = ws'.map some) (hnd : va_nd is = true) (kk : kW p l e R s m args below meth c D cl A nL cells slots Q pc lv st ws') : kW p l e R s m args below meth c D cl A nL cells slots Q pc lv st ws := fun H locs ls hP hD hS hl => kk H locs ls (hP.sub is (kfm _ _ _ h)) (hD.sub is hnd h) hS hl
theorem kw_widen {k n : Nat} (h1 : cells ≤ k) (h2 : slots ≤ n) (kk : kW p l e R s m args below meth c D cl A nL k n Q pc lv st ws) : kW p l e R s m args below meth c D cl A nL cells slots Q pc lv st ws := fun H locs ls hP hD hS hl => W.widen h1 h2 (kk H locs ls hP hD hS hl)
theorem kw_mna (C : kC p s m args c cc own Ts D cl tys A nL) (hover : va_AOA .int s) {index : Nat} {k0 k2 : ClassId} (h0 : tys[0]? = some (k0, .int)) (h2 : tys[2]? = some (k2, .array .int)) (hcl : Cond.classLink own index ("[" ++ (FieldType.array .int).toString) ∈ Ts) (harr : Cond.arrayClass .int ∈ Ts) {n k : Int32} {N' K' : Nat} (hn : ¬ n < 0) (hk : ¬ k < 0) (hN : n.toNatClampNeg = N') (hM : k.toNatClampNeg = K') (hb1 : N' * 4 ≤ 536870912) (hb2 : K' * 4 ≤ 536870912) (hb3 : K' ≤ 536870912) (hcells : cells + (1 + N') ≤ R.cells) (hslots : slots + (N' + N' * K') ≤ R.slots) (d : decode cc pc = .ok (.multianewarray index 2, 4))
    (kk : ∀ (q : Nat) (r : Nat → Nat), kW p l e R s m args below meth c D cl A nL (cells + 1 + N') (slots + N' + N' * K') Q (pc + 4) lv (.ref q :: st) ((ws ++ [(q, .inl (k2, N', .inr (.inr (.inr (.inr (fun i => if i < N' then some (r i) else none))))))]) ++ (List.range N').map (fun i => (r i, .inl (k0, K', .inl (fun _ => 0)))))) : kW p l e R s m args below meth c D cl A nL cells slots Q pc lv (.int k :: .int n :: st) ws := fun H locs ls hP hD hS hl => by
  have hcy : s.vm.findClass (FieldType.array .int).toString = some k0 := va_nm_int (C.2.1.2 0 _ h0).2
  refine va_mna (X := ws) (L := []) (f := fun _ => .inr (0, [])) (ty := .int) (cy := k0) (z := (K', .inl (fun _ => 0))) C.1.1 C.1.2.1 C.1.2.2.2.1 (C.1.2.2.2.2 _ hcl) hover (C.1.2.2.2.2 _ harr) hcy C.2.1 (by simpa [va_pl] using hP) (by simpa [va_pl] using hD) hS C.2.2 hn hk hN hM hb1 hb2 hb3 rfl rfl hcells hslots ?_ d ?_
  · intro cA
    unfold Jvm.Free.Multi.innerC
    exact (arrV_new _ _ _).trans rfl
  · intro q r cA H1 hinj hnl hK1 hP1 hD1 hS1
    have e1 : cA = k2 := kcls C.2.1 2 h2 (fun _ h => by cases h) (hK1.2 tys.length (cA, .array .int) (by simp)).2
    subst e1
    have e2 : va_pl ([] ++ (List.range N').map r) (vr_up (fun _ => (.inr (0, []) : va_E)) ((List.range N').map r) (.inl (k0, K', .inl (fun _ => 0)))) = (List.range N').map (fun i => (r i, .inl (k0, K', .inl (fun _ => 0)))) := by
      rw [← vr_rows (fun _ _ h => by cases h)]
      simp [va_pl]
    rw [e2] at hP1 hD1
    exact kk q r H1 locs ls hP1 hD1 hS1 hl
theorem kw_callI (C : kC p s m args c cc own Ts D cl tys A nL) (hover : va_AOA .int s) {y : MethodName} {wm : List Cond} {rm : Room} {b : Nat} {index maxL n mc ms : Nat} {bytes : ByteArray} {As st0 : List Value} {w0 wr : va_W} {B : va_W → Prop} (hM : kMc l y wm rm D cl tys w0 B (.ref b :: As) mc ms) (cw : CallB R s args own index y bytes maxL none wm rm mc ms n ∧ y.name = "<init>" ∧ (Cond.instanceMethod y).before args s = true) (isC isR : List Nat) (hC : isC.map (fun i => ws[i]?) = w0.map some) (hnd : va_nd isC = true) (hR : isR.map (fun i => ws[i]?) = wr.map some) (hndR : va_nd isR = true) (hap : ∀ i, i ∈ isR → ¬ i ∈ isC) (hn : As.length = n) (hst : st0 = As.reverse ++ .ref b :: st) (hroom : (st.map fun v => v.category).sum ≤ 8) (d : decode cc pc = .ok (.invokespecial index, 3)) (hcs : cells + mc ≤ R.cells ∧ slots + ms ≤ R.slots) (kk : ∀ w1 : va_W, B w1 → kW p l e R s m args below meth c D cl A nL (cells + mc) (slots + ms) Q (pc + 3) lv st (wr ++ w1)) : kW p l e R s m args below meth c D cl A nL cells slots Q pc lv st0 ws := fun H locs ls hP hD hS hl => by
  have hPc := hP.sub isC (kfm _ _ _ hC)
  have hDc := hD.sub isC hnd hC
  have hKc := C.2.1
  have hFc := va_free hD hS C.2.2 isC hC
  refine va_callv (va_runI (As := As) (rest := st) C.1 (hM H.size) cw ⟨kblC, fun U hU hW => ⟨rfl, by rw [hU], by rw [hU]; exact hPc, va_K.moved hW.alike hKc, hDc.weaken (fun _ _ _ _ => trivial), va_AOA.moved hW.alike hover⟩⟩ rfl hn hl.1 hst (lv_room hroom) d hcs) hS (fun q _ h => hFc q h) hFc (fun w1 t H1 locs1 ht hvm hw hB hz1 hk1 hS1 => ?_)
  obtain ⟨hP1, hD1⟩ := hB
  rw [ht] at hP1
  obtain ⟨hP2, hD2⟩ := va_join hP hD isC isR hC hR hndR hap hk1 hFc hP1 hD1
  exact kk w1 hw H1 locs1 ls hP2 hD2 hS1 hl
theorem kgI {n : Nat} {y : MethodName} {b : ByteArray} {r : Option FieldType} (h5 : Cond.code y b n r ∈ kT) : GoodIn kT (kwm y b n r) := by
  intro w hw
  rcases List.mem_cons.mp hw with rfl | hw
  · exact kT_good _ h5
  · exact kT_good _ hw
end KP5
