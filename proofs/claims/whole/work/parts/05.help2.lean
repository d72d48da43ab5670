section KP2
variable {p : Program} {l : Launch} {e : Env} {R : Room} {s : State} {m : MethodId} {args : Array Value} {below : List Frame} {meth : Method} {c : Code} {cells slots : Nat} {Q : State → Prop}
variable {cc : ByteArray} {own : String} {Ts : List Cond} {D : va_G} {cl : List vw_C} {tys : List (ClassId × FieldType)} {A : Nat → Prop} {nL : Nat}
variable {pc : Nat} {lv : List (Nat × Value)} {st : List Value} {ws : va_W}
def kix (i : Int32) (n j : Nat) : Prop := vp_in i n ∧ i.toNatClampNeg = j
theorem kix_nI {n j : Nat} (h : j < n) (hn : n < 2 ^ 31) : kix (nI j) n j := ⟨vp_in_nI h hn, nI_clamp (Nat.lt_trans h hn)⟩
theorem kix_of {i : Int32} {n : Nat} (h : vp_in i n) : kix i n i.toNatClampNeg := ⟨h, rfl⟩
theorem kw_get (C : kC p s m args c cc own Ts D cl tys A nL) {Cn : String} {T : u_T} {N ci index a : Nat} (q0 : Nat) {fs : List Value} (he : ws[q0]? = some (a, .inr (ci, fs))) (hc : cl[ci]? = some (Cn, T, N)) (hin : ∀ w ∈ u_ws Cn T N, w ∈ Ts) (k : Nat) (hk : k < N) (hlink : Cond.fieldLink own index (T k).1 (T k).2.1 (T k).2.2.1 ∈ Ts) {v : Value} (hv : fs[k]? = some v) (d : decode cc pc = .ok (.getfield index, 3)) (kk : kW p l e R s m args below meth c D cl A nL cells slots Q (pc + 3) lv (v :: st) ws) : kW p l e R s m args below meth c D cl A nL cells slots Q pc lv (.ref a :: st) ws := fun H locs ls hP hD hS hl => va_get C.1.1 C.1.2.1 C.1.2.2.2.2 hin C.1.2.2.2.1 C.2.1 hP q0 he hc k hk (C.1.2.2.2.2 _ hlink) (fun _ h9 => h9) hv d (kk H locs ls hP hD hS hl)
theorem kw_put (C : kC p s m args c cc own Ts D cl tys A nL) {Cn : String} {T : u_T} {N ci index a : Nat} (q0 : Nat) {fs : List Value} (he : ws[q0]? = some (a, .inr (ci, fs))) (hc : cl[ci]? = some (Cn, T, N)) (hin : ∀ w ∈ u_ws Cn T N, w ∈ Ts) {ty0 : Nat → FieldType} (hty : ∀ k, k < N → parseFieldDescriptor (T k).2.2.1 = some (ty0 k)) (hnm : ∀ a, a < N → ∀ b, b < N → a ≠ b → (T a).2.1 ≠ (T b).2.1) (k : Nat) (hk : k < N) (hlink : Cond.fieldLink own index (T k).1 (T k).2.1 (T k).2.2.1 ∈ Ts) (hfin : (T k).2.2.2 = false) {ty : FieldType} {v : Value} (hd : parseFieldDescriptor (T k).2.2.1 = some ty) (hn : narrow ty v = v) (hfit : fits ty v = true) (hlen : k < fs.length) (d : decode cc pc = .ok (.putfield index, 3)) (ws' : va_W) (hw : ws.set q0 (a, .inr (ci, fs.set k v)) = ws') (kk : kW p l e R s m args below meth c D cl A nL cells slots Q (pc + 3) lv st ws') : kW p l e R s m args below meth c D cl A nL cells slots Q pc lv (v :: .ref a :: st) ws := fun H locs ls hP hD hS hl => va_put C.1.1 C.1.2.1 C.1.2.2.2.2 hin ty0 hty hnm C.1.2.2.2.1 C.2.1 hP hD hS q0 he hc k hk (C.1.2.2.2.2 _ hlink) (fun _ h9 => h9) hfin hd hn hfit hlen d (fun H1 locs1 hP1 hD1 hS1 => kk H1 locs1 ls (hw ▸ hP1) (hw ▸ hD1) hS1 hl)
theorem kw_iald (C : kC p s m args c cc own Ts D cl tys A nL) (q0 t0 : Nat) {a : Nat} {cA : ClassId} {n : Nat} {f : Nat → Int32} (ha : ws[q0]? = some (a, .inl (cA, n, .inl f))) (ht : tys[t0]? = some (cA, .int)) {i : Int32} {j : Nat} (hi : kix i n j) (d : decode cc pc = .ok (.iaload, 1)) (kk : kW p l e R s m args below meth c D cl A nL cells slots Q (pc + 1) lv (.int (f j) :: st) ws) : kW p l e R s m args below meth c D cl A nL cells slots Q pc lv (.int i :: .ref a :: st) ws := fun H locs ls hP hD hS hl => va_iald C.1.1 C.1.2.1 C.2.1 hP q0 t0 ha ht hi.1 d (by rw [hi.2]; exact kk H locs ls hP hD hS hl)
theorem kw_iast (C : kC p s m args c cc own Ts D cl tys A nL) (q0 t0 : Nat) {a : Nat} {cA : ClassId} {n : Nat} {f : Nat → Int32} (ha : ws[q0]? = some (a, .inl (cA, n, .inl f))) (ht : tys[t0]? = some (cA, .int)) {i : Int32} {x : Int32} {j : Nat} (hi : kix i n j) (d : decode cc pc = .ok (.iastore, 1)) (ws' : va_W) (hw : ws.set q0 (a, .inl (cA, n, .inl (upd f j x))) = ws') (kk : kW p l e R s m args below meth c D cl A nL cells slots Q (pc + 1) lv st ws') : kW p l e R s m args below meth c D cl A nL cells slots Q pc lv (.int x :: .int i :: .ref a :: st) ws := fun H locs ls hP hD hS hl => va_iast C.1.1 C.1.2.1 C.2.1 hP hD hS q0 t0 ha ht hi.1 d (fun H1 locs1 hP1 hD1 hS1 => kk H1 locs1 ls (by rw [hi.2] at hP1; exact hw ▸ hP1) (by rw [hi.2] at hD1; exact hw ▸ hD1) hS1 hl)
theorem kw_lald (C : kC p s m args c cc own Ts D cl tys A nL) (q0 t0 : Nat) {a : Nat} {cA : ClassId} {n : Nat} {f : Nat → Int64} (ha : ws[q0]? = some (a, .inl (cA, n, .inr (.inl f)))) (ht : tys[t0]? = some (cA, .long)) {i : Int32} {j : Nat} (hi : kix i n j) (d : decode cc pc = .ok (.laload, 1)) (kk : kW p l e R s m args below meth c D cl A nL cells slots Q (pc + 1) lv (.long (f j) :: st) ws) : kW p l e R s m args below meth c D cl A nL cells slots Q pc lv (.int i :: .ref a :: st) ws := fun H locs ls hP hD hS hl => va_lald C.1.1 C.1.2.1 C.2.1 hP q0 t0 ha ht hi.1 d (by rw [hi.2]; exact kk H locs ls hP hD hS hl)
theorem kw_last (C : kC p s m args c cc own Ts D cl tys A nL) (q0 t0 : Nat) {a : Nat} {cA : ClassId} {n : Nat} {f : Nat → Int64} (ha : ws[q0]? = some (a, .inl (cA, n, .inr (.inl f)))) (ht : tys[t0]? = some (cA, .long)) {i : Int32} {x : Int64} {j : Nat} (hi : kix i n j) (d : decode cc pc = .ok (.lastore, 1)) (ws' : va_W) (hw : ws.set q0 (a, .inl (cA, n, .inr (.inl (vp_updL f j x)))) = ws') (kk : kW p l e R s m args below meth c D cl A nL cells slots Q (pc + 1) lv st ws') : kW p l e R s m args below meth c D cl A nL cells slots Q pc lv (.long x :: .int i :: .ref a :: st) ws := fun H locs ls hP hD hS hl => va_last C.1.1 C.1.2.1 C.2.1 hP hD hS q0 t0 ha ht hi.1 d (fun H1 locs1 hP1 hD1 hS1 => kk H1 locs1 ls (by rw [hi.2] at hP1; exact hw ▸ hP1) (by rw [hi.2] at hD1; exact hw ▸ hD1) hS1 hl)
theorem kw_aldA (C : kC p s m args c cc own Ts D cl tys A nL) (q0 t0 : Nat) {a : Nat} {cA : ClassId} {t : FieldType} {n : Nat} {f : Nat → Option Nat} (ha : ws[q0]? = some (a, .inl (cA, n, .inr (.inr (.inr (.inr f)))))) (ht : tys[t0]? = some (cA, .array t)) {i : Int32} {j : Nat} (hi : kix i n j) {b : Nat} (hb : f j = some b) (d : decode cc pc = .ok (.aaload, 1)) (kk : kW p l e R s m args below meth c D cl A nL cells slots Q (pc + 1) lv (.ref b :: st) ws) : kW p l e R s m args below meth c D cl A nL cells slots Q pc lv (.int i :: .ref a :: st) ws := fun H locs ls hP hD hS hl => by
  have hlt : i.toNatClampNeg < n := Nat.not_le.mp fun q => hi.1 (Or.inr q)
  exact W.aald (v := .ref b) (ty := .array t) C.1.1 C.1.2.1 (hP q0 _ ha) ((C.2.1.2 t0 _ ht).1 n (fun j => va_rf (f j))) rfl (fun q => by cases q) (by show ¬ (i < 0 ∨ (arrV _ _ _).slots.size ≤ _); rw [arrV_size]; exact hi.1) (by show (arrV _ _ _).slots[_]? = _; rw [arrV_read _ _ hlt, hi.2, hb]; rfl) rfl rfl d (kk H locs ls hP hD hS hl)
theorem kw_alen (C : kC p s m args c cc own Ts D cl tys A nL) (q0 t0 : Nat) {a : Nat} {cA : ClassId} {x : vp_A} (ha : ws[q0]? = some (a, .inl (cA, x))) {ty : FieldType} (ht : tys[t0]? = some (cA, ty)) {v : Int32} (hv : Int32.ofNat x.1 = v) (d : decode cc pc = .ok (.arraylength, 1)) (kk : kW p l e R s m args below meth c D cl A nL cells slots Q (pc + 1) lv (.int v :: st) ws) : kW p l e R s m args below meth c D cl A nL cells slots Q pc lv (.ref a :: st) ws := fun H locs ls hP hD hS hl => va_alen C.1.1 C.1.2.1 C.2.1 hP q0 t0 ha ht hv d (kk H locs ls hP hD hS hl)
theorem kw_mmax_long (C : kC p s m args c cc own Ts D cl tys A nL) {index : Nat} {x y : Int64} (hlink : Cond.methodLink own index Lib.MathLoose.max_long.x ∈ Ts) (hstat : Cond.static Lib.MathLoose.max_long.x ∈ Ts) (hini : Cond.initialized "java/lang/Math" ∈ Ts) (hcode : Cond.code Lib.MathLoose.max_long.x Lib.MathLoose.max_long.code 4 (some .long) ∈ Ts) (hframes : 1 ≤ R.frames) (hlocals : (st.map fun v => v.category).sum + 15 ≤ R.locals) (hcs : cells ≤ R.cells) (hss : slots ≤ R.slots) (d : decode cc pc = .ok (.invokestatic index, 3)) (kk : kW p l e R s m args below meth c D cl A nL cells slots Q (pc + 3) lv (.long (if y < x then x else y) :: st) ws) : kW p l e R s m args below meth c D cl A nL cells slots Q pc lv (.long y :: .long x :: st) ws := fun H locs ls hP hD hS hl => va_mmax_long C.1.1 C.1.2.1 (C.1.2.2.1.trans hl.1.symm) C.1.2.2.2.1 (C.1.2.2.2.2 _ hlink) (C.1.2.2.2.2 _ hstat) (C.1.2.2.2.2 _ hini) (C.1.2.2.2.2 _ hcode) hframes hlocals hcs hss d (kk H locs ls hP hD hS hl)
theorem kw_mmin_long (C : kC p s m args c cc own Ts D cl tys A nL) {index : Nat} {x y : Int64} (hlink : Cond.methodLink own index Lib.MathLoose.min_long.x ∈ Ts) (hstat : Cond.static Lib.MathLoose.min_long.x ∈ Ts) (hini : Cond.initialized "java/lang/Math" ∈ Ts) (hcode : Cond.code Lib.MathLoose.min_long.x Lib.MathLoose.min_long.code 4 (some .long) ∈ Ts) (hframes : 1 ≤ R.frames) (hlocals : (st.map fun v => v.category).sum + 15 ≤ R.locals) (hcs : cells ≤ R.cells) (hss : slots ≤ R.slots) (d : decode cc pc = .ok (.invokestatic index, 3)) (kk : kW p l e R s m args below meth c D cl A nL cells slots Q (pc + 3) lv (.long (if y < x then y else x) :: st) ws) : kW p l e R s m args below meth c D cl A nL cells slots Q pc lv (.long y :: .long x :: st) ws := fun H locs ls hP hD hS hl => va_mmin_long C.1.1 C.1.2.1 (C.1.2.2.1.trans hl.1.symm) C.1.2.2.2.1 (C.1.2.2.2.2 _ hlink) (C.1.2.2.2.2 _ hstat) (C.1.2.2.2.2 _ hini) (C.1.2.2.2.2 _ hcode) hframes hlocals hcs hss d (kk H locs ls hP hD hS hl)
theorem knd : ∀ {is : List Nat}, va_nd is = true → is.Nodup
  | [], _ => List.nodup_nil
  | a :: l, h => by
    have h2 : va_nd l = true := by simp only [va_nd, Bool.and_eq_true] at h; exact h.2
    refine List.nodup_cons.mpr ⟨fun hm => ?_, knd h2⟩
    obtain ⟨j, hj⟩ := List.getElem?_of_mem hm
    have := va_nd_inj (a :: l) h 0 (j + 1) a rfl (by simpa using hj)
    omega
def kput (ws : va_W) : List Nat → va_W → va_W
  | i :: is, x :: xs => kput (ws.set i x) is xs
  | [], _ => ws
  | _ :: _, [] => ws
theorem kput_at : ∀ (is : List Nat) (ws xs : va_W) (k : Nat), is.length = xs.length → (∀ i ∈ is, i < ws.length) → is.Nodup → (∃ j : Nat, is[j]? = some k ∧ (kput ws is xs)[k]? = xs[j]?) ∨ (k ∉ is ∧ (kput ws is xs)[k]? = ws[k]?)
  | [], ws, xs, k, _, _, _ => Or.inr ⟨List.not_mem_nil, by cases xs <;> rfl⟩
  | i :: is, ws, [], k, h, _, _ => by simp at h
  | i :: is, ws, x :: xs, k, h, hb, hn => by
    have hn' := List.nodup_cons.mp hn
    have h1 := kput_at is (ws.set i x) xs k (by simpa using h) (fun a ha => by rw [List.length_set]; exact hb a (List.mem_cons_of_mem _ ha)) hn'.2
    rcases h1 with ⟨j, h2, h3⟩ | ⟨h2, h3⟩
    · exact Or.inl ⟨j + 1, by simpa using h2, by simpa [kput] using h3⟩
    · by_cases e : i = k
      · subst e
        exact Or.inl ⟨0, rfl, by simp [kput, h3, List.getElem?_set, hb i List.mem_cons_self]⟩
      · refine Or.inr ⟨fun hm => ?_, ?_⟩
        · rcases List.mem_cons.mp hm with h4 | h4
          · exact e h4.symm
          · exact h2 h4
        · simp [kput, h3, List.getElem?_set, e]
theorem kfm {α β : Type} (f : α → Option β) : ∀ (is : List α) (w : List β), is.map f = w.map some → is.filterMap f = w
  | [], [], _ => rfl
  | [], _ :: _, h => by simp at h
  | _ :: _, [], h => by simp at h
  | i :: is, x :: xs, h => by
    simp only [List.map_cons, List.cons.injEq] at h
    rw [List.filterMap_cons, h.1, kfm f is xs h.2]
theorem kat_map {ws w0 : va_W} {isC : List Nat} (hC : isC.map (fun i => ws[i]?) = w0.map some) {j : Nat} {q : Nat × va_E} (h : w0[j]? = some q) : ∃ i : Nat, isC[j]? = some i ∧ ws[i]? = some q := by
  have h1 : (isC.map (fun i => ws[i]?))[j]? = some (some q) := by rw [hC, List.getElem?_map, h]; rfl
  rw [List.getElem?_map] at h1
  cases e : isC[j]? with
  | none => rw [e] at h1; cases h1
  | some i => rw [e] at h1; exact ⟨i, rfl, by simpa using h1⟩
theorem kat_map2 {ws w0 : va_W} {isC : List Nat} (hC : isC.map (fun i => ws[i]?) = w0.map some) {j i : Nat} (h : isC[j]? = some i) : ∃ q : Nat × va_E, w0[j]? = some q ∧ ws[i]? = some q := by
  have h1 : (w0.map some)[j]? = some (ws[i]?) := by rw [← hC, List.getElem?_map, h]; rfl
  rw [List.getElem?_map] at h1
  cases e : w0[j]? with
  | none => rw [e] at h1; cases h1
  | some q => rw [e] at h1; exact ⟨q, rfl, (Option.some.inj h1).symm⟩
theorem klt {ws w0 : va_W} {isC : List Nat} (hC : isC.map (fun i => ws[i]?) = w0.map some) : ∀ i ∈ isC, i < ws.length := fun i hi => by
  obtain ⟨j, hj⟩ := List.getElem?_of_mem hi
  obtain ⟨q, _, h⟩ := kat_map2 hC hj
  exact (List.getElem?_eq_some_iff.mp h).1
theorem kD_of {A : Nat → Prop} {ws ws' : va_W} (hD : va_D A ws) (h : ∀ (k : Nat) (q : Nat × va_E), ws'[k]? = some q → ∃ q0 : Nat × va_E, ws[k]? = some q0 ∧ q0.1 = q.1) : va_D A ws' := by
  refine ⟨fun i j p q hp hq e => ?_, fun k q hk => ?_⟩
  · obtain ⟨p0, h1, h2⟩ := h i p hp
    obtain ⟨q0, h3, h4⟩ := h j q hq
    exact hD.1 i j p0 q0 h1 h3 (by rw [h2, h4, e])
  · obtain ⟨q0, h1, h2⟩ := h k q hk
    rw [← h2]
    exact hD.2 k q0 h1
theorem kjoin {A : Nat → Prop} {D : va_G} {cl : List vw_C} {ws w0 w1 : va_W} {H H1 : Heap} (hP : va_P D cl ws H) (hD : va_D A ws) (isC : List Nat) (hC : isC.map (fun i => ws[i]?) = w0.map some) (hn : isC.Nodup) (had : w1.map (fun q => q.1) = w0.map (fun q => q.1))
    (hk : ∀ q : Nat, q < H.size → ¬ va_A w0 H.size q → H1[q]? = H[q]?) (hP1 : va_P D cl w1 H1) : va_P D cl (kput ws isC w1) H1 ∧ va_D A (kput ws isC w1) := by
  have hlen1 : w1.length = w0.length := by simpa using congrArg List.length had
  have hlen0 : isC.length = w0.length := by simpa using congrArg List.length hC
  have hcase := fun k => kput_at isC ws w1 k (hlen0.trans hlen1.symm) (klt hC) hn
  refine ⟨fun k q hkq => ?_, kD_of hD (fun k q hkq => ?_)⟩
  · rcases hcase k with ⟨j, h1, h2⟩ | ⟨h1, h2⟩
    · exact hP1 j q (h2 ▸ hkq)
    · have hq : ws[k]? = some q := h2 ▸ hkq
      have hat := hP k q hq
      refine hat.kept (hk q.1 hat.lt (fun hA => ?_))
      rcases hA with ⟨j, e9, hj⟩ | hA
      · obtain ⟨i, hi, hwi⟩ := kat_map hC hj
        have := hD.1 i k (q.1, e9) q hwi hq rfl
        subst this
        exact h1 (List.mem_of_getElem? hi)
      · exact absurd hat.lt (Nat.not_lt.mpr hA)
  · rcases hcase k with ⟨j, h1, h2⟩ | ⟨h1, h2⟩
    · obtain ⟨q0, h3, h4⟩ := kat_map2 hC h1
      refine ⟨q0, h4, ?_⟩
      have h5 : w1[j]? = some q := h2 ▸ hkq
      have h6 : (w1.map (fun q => q.1))[j]? = some q.1 := by rw [List.getElem?_map, h5]; rfl
      rw [had, List.getElem?_map, h3] at h6
      exact Option.some.inj h6
    · exact ⟨q, h2 ▸ hkq, rfl⟩
theorem kaddr {ws w1 : va_W} (had : w1.map (fun q => q.1) = ws.map (fun q => q.1)) {k : Nat} {q : Nat × va_E} (h : w1[k]? = some q) : ∃ q0 : Nat × va_E, ws[k]? = some q0 ∧ q0.1 = q.1 := by
  have h6 : (w1.map (fun q => q.1))[k]? = some q.1 := by rw [List.getElem?_map, h]; rfl
  rw [had, List.getElem?_map] at h6
  cases e : ws[k]? with
  | none => rw [e] at h6; cases h6
  | some q0 => rw [e] at h6; exact ⟨q0, rfl, Option.some.inj h6⟩
def kpre (D : va_G) (cl : List vw_C) (ws : va_W) (tys : List (ClassId × FieldType)) (sz : Nat) (av : List Value) : Array Value → State → Prop :=
  va_Pc av (fun U => U.heap.size = sz ∧ va_P D cl ws U.heap ∧ va_K D cl tys U ∧ va_D (fun _ => True) ws)
theorem kblind {D : va_G} {cl : List vw_C} {ws : va_W} {tys : List (ClassId × FieldType)} {sz : Nat} {av : List Value} : FrameBlind (kpre D cl ws tys sz av) := fun a U g mk q => by
  obtain ⟨q0, q1, qP, qK, qD⟩ := q
  exact ⟨q0, q1, qP, va_K.moved (u := U) (U := U.calling g mk a) (Vm.Alike.refl U.vm) qK, qD⟩
abbrev kB (D : va_G) (cl : List vw_C) (w0 w1 : va_W) (sz : Nat) : Unit → State → Prop := fun _ t => va_P D cl w1 t.heap ∧ va_D (va_A w0 sz) w1
def kQi (D : va_G) (cl : List vw_C) (w0 w1 : va_W) (r : Int32) (sz : Nat) : Array Value → State → Outcome → State → Prop := va_Qi (fun x (_ : Unit) => x = r) (kB D cl w0 w1 sz) (va_A w0 sz)
def kQl (D : va_G) (cl : List vw_C) (w0 w1 : va_W) (r : Int64) (sz : Nat) : Array Value → State → Outcome → State → Prop := va_Ql (fun x (_ : Unit) => x = r) (kB D cl w0 w1 sz) (va_A w0 sz)
def kQv (D : va_G) (cl : List vw_C) (w0 w1 : va_W) (sz : Nat) : Array Value → State → Outcome → State → Prop := va_Qv (fun (_ : Unit) => True) (kB D cl w0 w1 sz) (va_A w0 sz)
def kMi (l : Launch) (y : MethodName) (wm : List Cond) (rm : Room) (D : va_G) (cl : List vw_C) (tys : List (ClassId × FieldType)) (w0 w1 : va_W) (av : List Value) (r : Int32) : Prop := ∀ sz : Nat, Met l y wm rm (kpre D cl w0 tys sz av) (kQi D cl w0 w1 r sz) 0 0 (va_A w0 sz)
def kMl (l : Launch) (y : MethodName) (wm : List Cond) (rm : Room) (D : va_G) (cl : List vw_C) (tys : List (ClassId × FieldType)) (w0 w1 : va_W) (av : List Value) (r : Int64) : Prop := ∀ sz : Nat, Met l y wm rm (kpre D cl w0 tys sz av) (kQl D cl w0 w1 r sz) 0 0 (va_A w0 sz)
def kMv (l : Launch) (y : MethodName) (wm : List Cond) (rm : Room) (D : va_G) (cl : List vw_C) (tys : List (ClassId × FieldType)) (w0 w1 : va_W) (av : List Value) : Prop := ∀ sz : Nat, Met l y wm rm (kpre D cl w0 tys sz av) (kQv D cl w0 w1 sz) 0 0 (va_A w0 sz)
abbrev kwm (y : MethodName) (b : ByteArray) (n : Nat) (r : Option FieldType) : List Cond := Cond.code y b n r :: kT
theorem kgV {own C : String} {index n : Nat} {y : MethodName} {b : ByteArray} {r : Option FieldType} (h1 : Cond.methodLink own index y ∈ kT) (h2 : Cond.instanceMethod y ∈ kT) (h3 : Cond.selects C y y ∈ kT) (h4 : Cond.initialized C ∈ kT) (h5 : Cond.code y b n r ∈ kT) : GoodIn kT (wsV own index C y (kwm y b n r)) := by
  intro w hw
  simp only [wsV, List.cons_append, List.nil_append, List.mem_cons] at hw
  rcases hw with rfl | rfl | rfl | rfl | rfl | hw
  · exact kT_good _ h1
  · exact kT_good _ h2
  · exact kT_good _ h3
  · exact kT_good _ h4
  · exact kT_good _ h5
  · exact kT_good _ hw
theorem kgS {own : String} {index n : Nat} {y : MethodName} {b : ByteArray} {r : Option FieldType} (h1 : Cond.methodLink own index y ∈ kT) (h2 : Cond.static y ∈ kT) (h4 : Cond.initialized own ∈ kT) (h5 : Cond.code y b n r ∈ kT) : GoodIn kT (wsS own index y (kwm y b n r)) := by
  intro w hw
  simp only [wsS, List.cons_append, List.nil_append, List.mem_cons] at hw
  rcases hw with rfl | rfl | rfl | rfl | hw
  · exact kT_good _ h1
  · exact kT_good _ h2
  · exact kT_good _ h4
  · exact kT_good _ h5
  · exact kT_good _ hw
theorem kgO {own : String} {index n : Nat} {y : MethodName} {b : ByteArray} {r : Option FieldType} (h1 : Cond.methodLink own index y ∈ kT) (h2 : Cond.static y ∈ kT) (h4 : Cond.initialized y.cls ∈ kT) (h5 : Cond.code y b n r ∈ kT) : GoodIn kT (va_wsS own index y (kwm y b n r)) := by
  intro w hw
  simp only [va_wsS, List.cons_append, List.nil_append, List.mem_cons] at hw
  rcases hw with rfl | rfl | rfl | rfl | hw
  · exact kT_good _ h1
  · exact kT_good _ h2
  · exact kT_good _ h4
  · exact kT_good _ h5
  · exact kT_good _ hw
theorem k_entry_i {l : Launch} {y : MethodName} {own : String} {rm : Room} {D : va_G} {cl : List vw_C} {tys : List (ClassId × FieldType)} {w0 w1 : va_W} {av : List Value} {r : Int32} {cc : ByteArray} {maxL : Nat} {ret : Option FieldType} {lv0 : List (Nat × Value)} (ho : y.cls = own) (hy : plainFor y = true) (hlen : (lg_sl av).length ≤ maxL) (hlv : lv_args 0 av = lv0)
    (body : ∀ (p : Program) (e : Env) (s : State) (m : MethodId) (args : Array Value) (below : List Frame) (meth : Method) (c : Code), kC p s m args c cc own kT D cl tys (va_A w0 s.heap.size) maxL → meth.sig.returnType = ret → meth.locks = false → kW p l e rm s m args below meth c D cl (va_A w0 s.heap.size) maxL 0 0 (MQ below (kQi D cl w0 w1 r s.heap.size) args s 0 0 (va_A w0 s.heap.size)) 0 lv0 [] w0) : kMi l y (kwm y cc maxL ret) rm D cl tys w0 w1 av r := fun sz => by
  subst ho
  refine va_MetF (cc := cc) (maxL := maxL) (ret := ret) hy rfl ?_
  intro p e s m args below meth c s1 B hml hv
  obtain ⟨rfl, hsz, hP, hK, hD0⟩ := hv
  subst hsz
  have hl := lv_entry av (n := maxL) hlen
  rw [lg_entry_eq]
  rw [hlv] at hl
  have hts := atoms_spec (ws := kwm y cc maxL ret) B.pre
  exact body p e s m _ below meth c ⟨⟨B.exec, B.bytes, hml, findClass_of_methodNamed B.named, fun w h => hts w (List.mem_cons_of_mem _ h)⟩, hK, fun q h => Or.inr h⟩ B.returns B.notSynchronized s.heap [] _ hP hD0.self va_S.rf hl
theorem k_entry_l {l : Launch} {y : MethodName} {own : String} {rm : Room} {D : va_G} {cl : List vw_C} {tys : List (ClassId × FieldType)} {w0 w1 : va_W} {av : List Value} {r : Int64} {cc : ByteArray} {maxL : Nat} {ret : Option FieldType} {lv0 : List (Nat × Value)} (ho : y.cls = own) (hy : plainFor y = true) (hlen : (lg_sl av).length ≤ maxL) (hlv : lv_args 0 av = lv0)
    (body : ∀ (p : Program) (e : Env) (s : State) (m : MethodId) (args : Array Value) (below : List Frame) (meth : Method) (c : Code), kC p s m args c cc own kT D cl tys (va_A w0 s.heap.size) maxL → meth.sig.returnType = ret → meth.locks = false → kW p l e rm s m args below meth c D cl (va_A w0 s.heap.size) maxL 0 0 (MQ below (kQl D cl w0 w1 r s.heap.size) args s 0 0 (va_A w0 s.heap.size)) 0 lv0 [] w0) : kMl l y (kwm y cc maxL ret) rm D cl tys w0 w1 av r := fun sz => by
  subst ho
  refine va_MetF (cc := cc) (maxL := maxL) (ret := ret) hy rfl ?_
  intro p e s m args below meth c s1 B hml hv
  obtain ⟨rfl, hsz, hP, hK, hD0⟩ := hv
  subst hsz
  have hl := lv_entry av (n := maxL) hlen
  rw [lg_entry_eq]
  rw [hlv] at hl
  have hts := atoms_spec (ws := kwm y cc maxL ret) B.pre
  exact body p e s m _ below meth c ⟨⟨B.exec, B.bytes, hml, findClass_of_methodNamed B.named, fun w h => hts w (List.mem_cons_of_mem _ h)⟩, hK, fun q h => Or.inr h⟩ B.returns B.notSynchronized s.heap [] _ hP hD0.self va_S.rf hl
theorem k_entry_v {l : Launch} {y : MethodName} {own : String} {rm : Room} {D : va_G} {cl : List vw_C} {tys : List (ClassId × FieldType)} {w0 w1 : va_W} {av : List Value} {cc : ByteArray} {maxL : Nat} {ret : Option FieldType} {lv0 : List (Nat × Value)} (ho : y.cls = own) (hy : plainFor y = true) (hlen : (lg_sl av).length ≤ maxL) (hlv : lv_args 0 av = lv0)
    (body : ∀ (p : Program) (e : Env) (s : State) (m : MethodId) (args : Array Value) (below : List Frame) (meth : Method) (c : Code), kC p s m args c cc own kT D cl tys (va_A w0 s.heap.size) maxL → meth.sig.returnType = ret → meth.locks = false → kW p l e rm s m args below meth c D cl (va_A w0 s.heap.size) maxL 0 0 (MQ below (kQv D cl w0 w1 s.heap.size) args s 0 0 (va_A w0 s.heap.size)) 0 lv0 [] w0) : kMv l y (kwm y cc maxL ret) rm D cl tys w0 w1 av := fun sz => by
  subst ho
  refine va_MetF (cc := cc) (maxL := maxL) (ret := ret) hy rfl ?_
  intro p e s m args below meth c s1 B hml hv
  obtain ⟨rfl, hsz, hP, hK, hD0⟩ := hv
  subst hsz
  have hl := lv_entry av (n := maxL) hlen
  rw [lg_entry_eq]
  rw [hlv] at hl
  have hts := atoms_spec (ws := kwm y cc maxL ret) B.pre
  exact body p e s m _ below meth c ⟨⟨B.exec, B.bytes, hml, findClass_of_methodNamed B.named, fun w h => hts w (List.mem_cons_of_mem _ h)⟩, hK, fun q h => Or.inr h⟩ B.returns B.notSynchronized s.heap [] _ hP hD0.self va_S.rf hl
theorem kw_iret {w0 w1 : va_W} (C : kC p s m args c cc own Ts D cl tys (va_A w0 s.heap.size) nL) (hr : meth.sig.returnType = some .int) (hlocks : meth.locks = false) {v r : Int32} (hv : v = r) (d : decode cc pc = .ok (.ireturn, 1)) : kW p l e R s m args below meth c D cl (va_A w0 s.heap.size) nL 0 0 (MQ below (kQi D cl w0 w1 r s.heap.size) args s 0 0 (va_A w0 s.heap.size)) pc lv [.int v] w1 := fun H locs ls hP hD hS hl => W.iret (v := v) C.1.1 C.1.2.1 hr (fun t ht hW => ⟨⟨v, (), rfl, hv, by rw [ht]; exact hP, hD⟩, hS.F ht⟩) hS.2.2 d hlocks
theorem kw_zret {w0 w1 : va_W} (C : kC p s m args c cc own Ts D cl tys (va_A w0 s.heap.size) nL) (hr : meth.sig.returnType = some .boolean) (hlocks : meth.locks = false) {v r : Int32} (hv : v = r) (hn : narrow .boolean (.int v) = .int v) (d : decode cc pc = .ok (.ireturn, 1)) : kW p l e R s m args below meth c D cl (va_A w0 s.heap.size) nL 0 0 (MQ below (kQi D cl w0 w1 r s.heap.size) args s 0 0 (va_A w0 s.heap.size)) pc lv [.int v] w1 := fun H locs ls hP hD hS hl => W.zret (v := v) C.1.1 C.1.2.1 hr hn (fun t ht hW => ⟨⟨v, (), rfl, hv, by rw [ht]; exact hP, hD⟩, hS.F ht⟩) hS.2.2 d hlocks
theorem kw_lret {w0 w1 : va_W} (C : kC p s m args c cc own Ts D cl tys (va_A w0 s.heap.size) nL) (hr : meth.sig.returnType = some .long) (hlocks : meth.locks = false) {v r : Int64} (hv : v = r) (d : decode cc pc = .ok (.lreturn, 1)) : kW p l e R s m args below meth c D cl (va_A w0 s.heap.size) nL 0 0 (MQ below (kQl D cl w0 w1 r s.heap.size) args s 0 0 (va_A w0 s.heap.size)) pc lv [.long v] w1 := fun H locs ls hP hD hS hl => W.lret (v := v) C.1.1 C.1.2.1 hr (fun t ht hW => ⟨⟨v, (), rfl, hv, by rw [ht]; exact hP, hD⟩, hS.F ht⟩) hS.2.2 d hlocks
theorem kw_vret {w0 w1 : va_W} (C : kC p s m args c cc own Ts D cl tys (va_A w0 s.heap.size) nL) (hr : meth.sig.returnType = none) (hlocks : meth.locks = false) (d : decode cc pc = .ok (.return_, 1)) : kW p l e R s m args below meth c D cl (va_A w0 s.heap.size) nL 0 0 (MQ below (kQv D cl w0 w1 s.heap.size) args s 0 0 (va_A w0 s.heap.size)) pc lv [] w1 := fun H locs ls hP hD hS hl => W.vret C.1.1 C.1.2.1 hr (fun t ht hW => ⟨⟨(), rfl, trivial, by rw [ht]; exact hP, hD⟩, hS.F ht⟩) hS.2.2 d hlocks
theorem kw_eq {lv' : List (Nat × Value)} {st' : List Value} {ws' : va_W} (h1 : lv = lv') (h2 : st = st') (h3 : ws = ws') (kk : kW p l e R s m args below meth c D cl A nL cells slots Q pc lv' st' ws') : kW p l e R s m args below meth c D cl A nL cells slots Q pc lv st ws := by subst h1; subst h2; subst h3; exact kk
theorem kw_sub {lv' : List (Nat × Value)} (ks : List Nat) (h : lv_pick lv ks = lv') (kk : kW p l e R s m args below meth c D cl A nL cells slots Q pc lv' st ws) : kW p l e R s m args below meth c D cl A nL cells slots Q pc lv st ws := fun H locs ls hP hD hS hl => kk H locs ls hP hD hS (lv_sub hl ks h)
theorem kc2 {α β γ : Type} {f : α → β → γ} {a b : α} {c d : β} (h1 : a = b) (h2 : c = d) : f a c = f b d := by rw [h1, h2]
theorem kw_by (P9 : Prop) (h1 : P9 → kW p l e R s m args below meth c D cl A nL cells slots Q pc lv st ws) (h2 : ¬ P9 → kW p l e R s m args below meth c D cl A nL cells slots Q pc lv st ws) : kW p l e R s m args below meth c D cl A nL cells slots Q pc lv st ws := (Classical.em P9).elim h1 h2
theorem kne {x v : Int32} {n : Int} (h : ¬ x = v) (hv : v.toInt = n := by decide) : ¬ x.toInt = n := fun e => h (Int32.toInt_inj.mp (e.trans hv.symm))
theorem kw_tableIn (C : kC p s m args c cc own Ts D cl tys A nL) {dflt lo hi : Int} {offs : Array Int} {len : Nat} {x : Int32} {off : Int} {tgt : Nat} (d : decode cc pc = .ok (.tableswitch dflt lo hi offs, len)) (h1 : ¬ x.toInt < lo) (h2 : ¬ hi < x.toInt) (ho : offs[(x.toInt - lo).toNat]? = some off) (ht : (pc : Int) + off = (tgt : Int)) (kk : kW p l e R s m args below meth c D cl A nL cells slots Q tgt lv st ws) : kW p l e R s m args below meth c D cl A nL cells slots Q pc lv (.int x :: st) ws := fun H locs ls hP hD hS hl => lv_tableIn C.1.1 C.1.2.1 d h1 h2 ho ht (kk H locs ls hP hD hS hl)
theorem kw_tableOut (C : kC p s m args c cc own Ts D cl tys A nL) {dflt lo hi : Int} {offs : Array Int} {len : Nat} {x : Int32} {tgt : Nat} (d : decode cc pc = .ok (.tableswitch dflt lo hi offs, len)) (h : x.toInt < lo ∨ hi < x.toInt) (ht : (pc : Int) + dflt = (tgt : Int)) (kk : kW p l e R s m args below meth c D cl A nL cells slots Q tgt lv st ws) : kW p l e R s m args below meth c D cl A nL cells slots Q pc lv (.int x :: st) ws := fun H locs ls hP hD hS hl => lv_tableOut C.1.1 C.1.2.1 d h ht (kk H locs ls hP hD hS hl)
theorem kw_join {pc' : Nat} {lv' : List (Nat × Value)} {st' : List Value} {ws' : va_W} (h : kW p l e R s m args below meth c D cl A nL cells slots Q pc' lv' st' ws' → kW p l e R s m args below meth c D cl A nL cells slots Q pc lv st ws) (kk : kW p l e R s m args below meth c D cl A nL cells slots Q pc' lv' st' ws') : kW p l e R s m args below meth c D cl A nL cells slots Q pc lv st ws := h kk
theorem kw_callVi (C : kC p s m args c cc own Ts D cl tys A nL) {y : MethodName} {wm : List Cond} {rm : Room} {Cn : String} {b : Nat} {index maxL n : Nat} {bytes : ByteArray} {ret : Option FieldType} {As st0 : List Value} {w0 w1 : va_W} {r : Int32} (hM : kMi l y wm rm D cl tys w0 w1 (.ref b :: As) r) (cw : CallW R s args own Cn index y bytes maxL ret wm rm 0 0 n) (isC : List Nat) (hC : isC.map (fun i => ws[i]?) = w0.map some) (hnd : va_nd isC = true) (q0 ci : Nat) {fs : List Value} {qc : vw_C} (hb0 : w0[q0]? = some (b, .inr (ci, fs))) (hb1 : cl[ci]? = some qc) (hb2 : qc.1 = Cn) (hn : As.length = n) (hst : st0 = As.reverse ++ .ref b :: st) (hroom : (st.map fun v => v.category).sum ≤ 8) (d : decode cc pc = .ok (.invokevirtual index, 3)) (hcs : cells ≤ R.cells ∧ slots ≤ R.slots) (had : w1.map (fun q => q.1) = w0.map (fun q => q.1)) (ws' : va_W) (hw' : kput ws isC w1 = ws') (kk : kW p l e R s m args below meth c D cl A nL cells slots Q (pc + 3) lv (.int r :: st) ws') : kW p l e R s m args below meth c D cl A nL cells slots Q pc lv st0 ws := fun H locs ls hP hD hS hl => by
  have hPc := hP.sub isC (kfm _ _ _ hC)
  have hDc := hD.sub isC hnd hC
  have hKc := C.2.1
  have hFc := va_free hD hS C.2.2 isC hC
  refine va_calli (va_runV (As := As) (rest := st) C.1 (hM H.size) cw ⟨kblind, by rw [← hb2]; exact va_recv hKc hPc hb1 hb0, fun U hU hW => ⟨rfl, by rw [hU], by rw [hU]; exact hPc, va_K.moved hW.alike hKc, hDc.weaken (fun _ _ _ _ => trivial)⟩⟩ rfl hn hl.1 hst (lv_room hroom) d hcs) hS (fun q _ h => hFc q h) hFc (fun x u t H1 locs1 ht hvm hw hB hz1 hk1 hS1 => ?_)
  obtain ⟨hP1, hD1⟩ := hB
  rw [ht] at hP1
  obtain ⟨hP2, hD2⟩ := kjoin hP hD isC hC (knd hnd) had hk1 hP1
  subst hw
  rw [hw'] at hP2 hD2
  exact kk H1 locs1 ls hP2 hD2 hS1 hl
theorem kw_callVl (C : kC p s m args c cc own Ts D cl tys A nL) {y : MethodName} {wm : List Cond} {rm : Room} {Cn : String} {b : Nat} {index maxL n : Nat} {bytes : ByteArray} {ret : Option FieldType} {As st0 : List Value} {w0 w1 : va_W} {r : Int64} (hM : kMl l y wm rm D cl tys w0 w1 (.ref b :: As) r) (cw : CallW R s args own Cn index y bytes maxL ret wm rm 0 0 n) (isC : List Nat) (hC : isC.map (fun i => ws[i]?) = w0.map some) (hnd : va_nd isC = true) (q0 ci : Nat) {fs : List Value} {qc : vw_C} (hb0 : w0[q0]? = some (b, .inr (ci, fs))) (hb1 : cl[ci]? = some qc) (hb2 : qc.1 = Cn) (hn : As.length = n) (hst : st0 = As.reverse ++ .ref b :: st) (hroom : (st.map fun v => v.category).sum ≤ 8) (d : decode cc pc = .ok (.invokevirtual index, 3)) (hcs : cells ≤ R.cells ∧ slots ≤ R.slots) (had : w1.map (fun q => q.1) = w0.map (fun q => q.1)) (ws' : va_W) (hw' : kput ws isC w1 = ws') (kk : kW p l e R s m args below meth c D cl A nL cells slots Q (pc + 3) lv (.long r :: st) ws') : kW p l e R s m args below meth c D cl A nL cells slots Q pc lv st0 ws := fun H locs ls hP hD hS hl => by
  have hPc := hP.sub isC (kfm _ _ _ hC)
  have hDc := hD.sub isC hnd hC
  have hKc := C.2.1
  have hFc := va_free hD hS C.2.2 isC hC
  refine va_calll (va_runV (As := As) (rest := st) C.1 (hM H.size) cw ⟨kblind, by rw [← hb2]; exact va_recv hKc hPc hb1 hb0, fun U hU hW => ⟨rfl, by rw [hU], by rw [hU]; exact hPc, va_K.moved hW.alike hKc, hDc.weaken (fun _ _ _ _ => trivial)⟩⟩ rfl hn hl.1 hst (lv_room hroom) d hcs) hS (fun q _ h => hFc q h) hFc (fun x u t H1 locs1 ht hvm hw hB hz1 hk1 hS1 => ?_)
  obtain ⟨hP1, hD1⟩ := hB
  rw [ht] at hP1
  obtain ⟨hP2, hD2⟩ := kjoin hP hD isC hC (knd hnd) had hk1 hP1
  subst hw
  rw [hw'] at hP2 hD2
  exact kk H1 locs1 ls hP2 hD2 hS1 hl
theorem kw_callVv (C : kC p s m args c cc own Ts D cl tys A nL) {y : MethodName} {wm : List Cond} {rm : Room} {Cn : String} {b : Nat} {index maxL n : Nat} {bytes : ByteArray} {ret : Option FieldType} {As st0 : List Value} {w0 w1 : va_W} (hM : kMv l y wm rm D cl tys w0 w1 (.ref b :: As)) (cw : CallW R s args own Cn index y bytes maxL ret wm rm 0 0 n) (isC : List Nat) (hC : isC.map (fun i => ws[i]?) = w0.map some) (hnd : va_nd isC = true) (q0 ci : Nat) {fs : List Value} {qc : vw_C} (hb0 : w0[q0]? = some (b, .inr (ci, fs))) (hb1 : cl[ci]? = some qc) (hb2 : qc.1 = Cn) (hn : As.length = n) (hst : st0 = As.reverse ++ .ref b :: st) (hroom : (st.map fun v => v.category).sum ≤ 8) (d : decode cc pc = .ok (.invokevirtual index, 3)) (hcs : cells ≤ R.cells ∧ slots ≤ R.slots) (had : w1.map (fun q => q.1) = w0.map (fun q => q.1)) (ws' : va_W) (hw' : kput ws isC w1 = ws') (kk : kW p l e R s m args below meth c D cl A nL cells slots Q (pc + 3) lv st ws') : kW p l e R s m args below meth c D cl A nL cells slots Q pc lv st0 ws := fun H locs ls hP hD hS hl => by
  have hPc := hP.sub isC (kfm _ _ _ hC)
  have hDc := hD.sub isC hnd hC
  have hKc := C.2.1
  have hFc := va_free hD hS C.2.2 isC hC
  refine va_callv (va_runV (As := As) (rest := st) C.1 (hM H.size) cw ⟨kblind, by rw [← hb2]; exact va_recv hKc hPc hb1 hb0, fun U hU hW => ⟨rfl, by rw [hU], by rw [hU]; exact hPc, va_K.moved hW.alike hKc, hDc.weaken (fun _ _ _ _ => trivial)⟩⟩ rfl hn hl.1 hst (lv_room hroom) d hcs) hS (fun q _ h => hFc q h) hFc (fun u t H1 locs1 ht hvm hw hB hz1 hk1 hS1 => ?_)
  obtain ⟨hP1, hD1⟩ := hB
  rw [ht] at hP1
  obtain ⟨hP2, hD2⟩ := kjoin hP hD isC hC (knd hnd) had hk1 hP1
  rw [hw'] at hP2 hD2
  exact kk H1 locs1 ls hP2 hD2 hS1 hl
theorem kw_callSi (C : kC p s m args c cc own Ts D cl tys A nL) {y : MethodName} {wm : List Cond} {rm : Room} {index maxL n : Nat} {bytes : ByteArray} {ret : Option FieldType} {As st0 : List Value} {w0 w1 : va_W} {r : Int32} (hM : kMi l y wm rm D cl tys w0 w1 As r) (cw : CallB R s args own index y bytes maxL ret wm rm 0 0 n ∧ (Cond.static y).before args s = true) (isC : List Nat) (hC : isC.map (fun i => ws[i]?) = w0.map some) (hnd : va_nd isC = true) (hn : As.length = n) (hst : st0 = As.reverse ++ st) (hroom : (st.map fun v => v.category).sum ≤ 8) (d : decode cc pc = .ok (.invokestatic index, 3)) (hcs : cells ≤ R.cells ∧ slots ≤ R.slots) (had : w1.map (fun q => q.1) = w0.map (fun q => q.1)) (ws' : va_W) (hw' : kput ws isC w1 = ws') (kk : kW p l e R s m args below meth c D cl A nL cells slots Q (pc + 3) lv (.int r :: st) ws') : kW p l e R s m args below meth c D cl A nL cells slots Q pc lv st0 ws := fun H locs ls hP hD hS hl => by
  have hPc := hP.sub isC (kfm _ _ _ hC)
  have hDc := hD.sub isC hnd hC
  have hKc := C.2.1
  have hFc := va_free hD hS C.2.2 isC hC
  refine va_calli (va_runS (As := As) (rest := st) C.1 (hM H.size) cw ⟨kblind, fun U hU hW => ⟨rfl, by rw [hU], by rw [hU]; exact hPc, va_K.moved hW.alike hKc, hDc.weaken (fun _ _ _ _ => trivial)⟩⟩ rfl hn hl.1 hst (lv_room hroom) d hcs) hS (fun q _ h => hFc q h) hFc (fun x u t H1 locs1 ht hvm hw hB hz1 hk1 hS1 => ?_)
  obtain ⟨hP1, hD1⟩ := hB
  rw [ht] at hP1
  obtain ⟨hP2, hD2⟩ := kjoin hP hD isC hC (knd hnd) had hk1 hP1
  subst hw
  rw [hw'] at hP2 hD2
  exact kk H1 locs1 ls hP2 hD2 hS1 hl
theorem kw_callSl (C : kC p s m args c cc own Ts D cl tys A nL) {y : MethodName} {wm : List Cond} {rm : Room} {index maxL n : Nat} {bytes : ByteArray} {ret : Option FieldType} {As st0 : List Value} {w0 w1 : va_W} {r : Int64} (hM : kMl l y wm rm D cl tys w0 w1 As r) (cw : CallB R s args own index y bytes maxL ret wm rm 0 0 n ∧ (Cond.static y).before args s = true) (isC : List Nat) (hC : isC.map (fun i => ws[i]?) = w0.map some) (hnd : va_nd isC = true) (hn : As.length = n) (hst : st0 = As.reverse ++ st) (hroom : (st.map fun v => v.category).sum ≤ 8) (d : decode cc pc = .ok (.invokestatic index, 3)) (hcs : cells ≤ R.cells ∧ slots ≤ R.slots) (had : w1.map (fun q => q.1) = w0.map (fun q => q.1)) (ws' : va_W) (hw' : kput ws isC w1 = ws') (kk : kW p l e R s m args below meth c D cl A nL cells slots Q (pc + 3) lv (.long r :: st) ws') : kW p l e R s m args below meth c D cl A nL cells slots Q pc lv st0 ws := fun H locs ls hP hD hS hl => by
  have hPc := hP.sub isC (kfm _ _ _ hC)
  have hDc := hD.sub isC hnd hC
  have hKc := C.2.1
  have hFc := va_free hD hS C.2.2 isC hC
  refine va_calll (va_runS (As := As) (rest := st) C.1 (hM H.size) cw ⟨kblind, fun U hU hW => ⟨rfl, by rw [hU], by rw [hU]; exact hPc, va_K.moved hW.alike hKc, hDc.weaken (fun _ _ _ _ => trivial)⟩⟩ rfl hn hl.1 hst (lv_room hroom) d hcs) hS (fun q _ h => hFc q h) hFc (fun x u t H1 locs1 ht hvm hw hB hz1 hk1 hS1 => ?_)
  obtain ⟨hP1, hD1⟩ := hB
  rw [ht] at hP1
  obtain ⟨hP2, hD2⟩ := kjoin hP hD isC hC (knd hnd) had hk1 hP1
  subst hw
  rw [hw'] at hP2 hD2
  exact kk H1 locs1 ls hP2 hD2 hS1 hl
theorem kw_callSv (C : kC p s m args c cc own Ts D cl tys A nL) {y : MethodName} {wm : List Cond} {rm : Room} {index maxL n : Nat} {bytes : ByteArray} {ret : Option FieldType} {As st0 : List Value} {w0 w1 : va_W} (hM : kMv l y wm rm D cl tys w0 w1 As) (cw : CallB R s args own index y bytes maxL ret wm rm 0 0 n ∧ (Cond.static y).before args s = true) (isC : List Nat) (hC : isC.map (fun i => ws[i]?) = w0.map some) (hnd : va_nd isC = true) (hn : As.length = n) (hst : st0 = As.reverse ++ st) (hroom : (st.map fun v => v.category).sum ≤ 8) (d : decode cc pc = .ok (.invokestatic index, 3)) (hcs : cells ≤ R.cells ∧ slots ≤ R.slots) (had : w1.map (fun q => q.1) = w0.map (fun q => q.1)) (ws' : va_W) (hw' : kput ws isC w1 = ws') (kk : kW p l e R s m args below meth c D cl A nL cells slots Q (pc + 3) lv st ws') : kW p l e R s m args below meth c D cl A nL cells slots Q pc lv st0 ws := fun H locs ls hP hD hS hl => by
  have hPc := hP.sub isC (kfm _ _ _ hC)
  have hDc := hD.sub isC hnd hC
  have hKc := C.2.1
  have hFc := va_free hD hS C.2.2 isC hC
  refine va_callv (va_runS (As := As) (rest := st) C.1 (hM H.size) cw ⟨kblind, fun U hU hW => ⟨rfl, by rw [hU], by rw [hU]; exact hPc, va_K.moved hW.alike hKc, hDc.weaken (fun _ _ _ _ => trivial)⟩⟩ rfl hn hl.1 hst (lv_room hroom) d hcs) hS (fun q _ h => hFc q h) hFc (fun u t H1 locs1 ht hvm hw hB hz1 hk1 hS1 => ?_)
  obtain ⟨hP1, hD1⟩ := hB
  rw [ht] at hP1
  obtain ⟨hP2, hD2⟩ := kjoin hP hD isC hC (knd hnd) had hk1 hP1
  rw [hw'] at hP2 hD2
  exact kk H1 locs1 ls hP2 hD2 hS1 hl
theorem kw_callAi (C : kC p s m args c cc own Ts D cl tys A nL) {y : MethodName} {wm : List Cond} {rm : Room} {Cn : String} {b : Nat} {index maxL n : Nat} {bytes : ByteArray} {ret : Option FieldType} {As st0 : List Value} {w1 : va_W} {r : Int32} (hM : kMi l y wm rm D cl tys ws w1 (.ref b :: As) r) (cw : CallW R s args own Cn index y bytes maxL ret wm rm 0 0 n) (q0 ci : Nat) {fs : List Value} {qc : vw_C} (hb0 : ws[q0]? = some (b, .inr (ci, fs))) (hb1 : cl[ci]? = some qc) (hb2 : qc.1 = Cn) (hn : As.length = n) (hst : st0 = As.reverse ++ .ref b :: st) (hroom : (st.map fun v => v.category).sum ≤ 8) (d : decode cc pc = .ok (.invokevirtual index, 3)) (hcs : cells ≤ R.cells ∧ slots ≤ R.slots) (had : w1.map (fun q => q.1) = ws.map (fun q => q.1)) (kk : kW p l e R s m args below meth c D cl A nL cells slots Q (pc + 3) lv (.int r :: st) w1) : kW p l e R s m args below meth c D cl A nL cells slots Q pc lv st0 ws := fun H locs ls hP hD hS hl => by
  have hKc := C.2.1
  have hFc : ∀ q, va_A ws H.size q → A q := fun q h => h.elim (fun ⟨k, e, h⟩ => hD.2 k _ h) (fun h => C.2.2 q (Nat.le_trans hS.1 h))
  refine va_calli (va_runV (As := As) (rest := st) C.1 (hM H.size) cw ⟨kblind, by rw [← hb2]; exact va_recv hKc hP hb1 hb0, fun U hU hW => ⟨rfl, by rw [hU], by rw [hU]; exact hP, va_K.moved hW.alike hKc, hD.weaken (fun _ _ _ _ => trivial)⟩⟩ rfl hn hl.1 hst (lv_room hroom) d hcs) hS (fun q _ h => hFc q h) hFc (fun x u t H1 locs1 ht hvm hw hB hz1 hk1 hS1 => ?_)
  obtain ⟨hP1, hD1⟩ := hB
  rw [ht] at hP1
  subst hw
  exact kk H1 locs1 ls hP1 (kD_of hD (fun k q hk => kaddr had hk)) hS1 hl
theorem kw_callAl (C : kC p s m args c cc own Ts D cl tys A nL) {y : MethodName} {wm : List Cond} {rm : Room} {Cn : String} {b : Nat} {index maxL n : Nat} {bytes : ByteArray} {ret : Option FieldType} {As st0 : List Value} {w1 : va_W} {r : Int64} (hM : kMl l y wm rm D cl tys ws w1 (.ref b :: As) r) (cw : CallW R s args own Cn index y bytes maxL ret wm rm 0 0 n) (q0 ci : Nat) {fs : List Value} {qc : vw_C} (hb0 : ws[q0]? = some (b, .inr (ci, fs))) (hb1 : cl[ci]? = some qc) (hb2 : qc.1 = Cn) (hn : As.length = n) (hst : st0 = As.reverse ++ .ref b :: st) (hroom : (st.map fun v => v.category).sum ≤ 8) (d : decode cc pc = .ok (.invokevirtual index, 3)) (hcs : cells ≤ R.cells ∧ slots ≤ R.slots) (had : w1.map (fun q => q.1) = ws.map (fun q => q.1)) (kk : kW p l e R s m args below meth c D cl A nL cells slots Q (pc + 3) lv (.long r :: st) w1) : kW p l e R s m args below meth c D cl A nL cells slots Q pc lv st0 ws := fun H locs ls hP hD hS hl => by
  have hKc := C.2.1
  have hFc : ∀ q, va_A ws H.size q → A q := fun q h => h.elim (fun ⟨k, e, h⟩ => hD.2 k _ h) (fun h => C.2.2 q (Nat.le_trans hS.1 h))
  refine va_calll (va_runV (As := As) (rest := st) C.1 (hM H.size) cw ⟨kblind, by rw [← hb2]; exact va_recv hKc hP hb1 hb0, fun U hU hW => ⟨rfl, by rw [hU], by rw [hU]; exact hP, va_K.moved hW.alike hKc, hD.weaken (fun _ _ _ _ => trivial)⟩⟩ rfl hn hl.1 hst (lv_room hroom) d hcs) hS (fun q _ h => hFc q h) hFc (fun x u t H1 locs1 ht hvm hw hB hz1 hk1 hS1 => ?_)
  obtain ⟨hP1, hD1⟩ := hB
  rw [ht] at hP1
  subst hw
  exact kk H1 locs1 ls hP1 (kD_of hD (fun k q hk => kaddr had hk)) hS1 hl
theorem kw_callAv (C : kC p s m args c cc own Ts D cl tys A nL) {y : MethodName} {wm : List Cond} {rm : Room} {Cn : String} {b : Nat} {index maxL n : Nat} {bytes : ByteArray} {ret : Option FieldType} {As st0 : List Value} {w1 : va_W} (hM : kMv l y wm rm D cl tys ws w1 (.ref b :: As)) (cw : CallW R s args own Cn index y bytes maxL ret wm rm 0 0 n) (q0 ci : Nat) {fs : List Value} {qc : vw_C} (hb0 : ws[q0]? = some (b, .inr (ci, fs))) (hb1 : cl[ci]? = some qc) (hb2 : qc.1 = Cn) (hn : As.length = n) (hst : st0 = As.reverse ++ .ref b :: st) (hroom : (st.map fun v => v.category).sum ≤ 8) (d : decode cc pc = .ok (.invokevirtual index, 3)) (hcs : cells ≤ R.cells ∧ slots ≤ R.slots) (had : w1.map (fun q => q.1) = ws.map (fun q => q.1)) (kk : kW p l e R s m args below meth c D cl A nL cells slots Q (pc + 3) lv st w1) : kW p l e R s m args below meth c D cl A nL cells slots Q pc lv st0 ws := fun H locs ls hP hD hS hl => by
  have hKc := C.2.1
  have hFc : ∀ q, va_A ws H.size q → A q := fun q h => h.elim (fun ⟨k, e, h⟩ => hD.2 k _ h) (fun h => C.2.2 q (Nat.le_trans hS.1 h))
  refine va_callv (va_runV (As := As) (rest := st) C.1 (hM H.size) cw ⟨kblind, by rw [← hb2]; exact va_recv hKc hP hb1 hb0, fun U hU hW => ⟨rfl, by rw [hU], by rw [hU]; exact hP, va_K.moved hW.alike hKc, hD.weaken (fun _ _ _ _ => trivial)⟩⟩ rfl hn hl.1 hst (lv_room hroom) d hcs) hS (fun q _ h => hFc q h) hFc (fun u t H1 locs1 ht hvm hw hB hz1 hk1 hS1 => ?_)
  obtain ⟨hP1, hD1⟩ := hB
  rw [ht] at hP1
  exact kk H1 locs1 ls hP1 (kD_of hD (fun k q hk => kaddr had hk)) hS1 hl
end KP2
