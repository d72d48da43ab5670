section
/-- a private method of a class that the tables say can be made, by its rows of tables_1 -/
def lw_okq (q : MethodName × Nat) : Prop := (q.1.cls ≠ "java/lang/invoke/MethodHandle" ∧ q.1.cls ≠ "java/lang/invoke/VarHandle") ∧ Cond.instantiable q.1.cls q.2 ∈ tables_1 ∧ Cond.privateMethod q.1 ∈ tables_1 ∧ Cond.instanceMethod q.1 ∈ tables_1
theorem lw_p0 : lw_okq (⟨"java/lang/Throwable", "fillInStackTrace", "(I)Ljava/lang/Throwable;"⟩, 6) := ⟨⟨by decide +kernel, by decide +kernel⟩, List.mem_of_getElem? (i := 252) (by decide +kernel), List.mem_of_getElem? (i := 250) (by decide +kernel), List.mem_of_getElem? (i := 251) (by decide +kernel)⟩
theorem lw_p1 : lw_okq (⟨"RoomHours$Course", "hourOfDay", "()I"⟩, 18) := ⟨⟨by decide +kernel, by decide +kernel⟩, List.mem_of_getElem? (i := 117) (by decide +kernel), List.mem_of_getElem? (i := 423) (by decide +kernel), List.mem_of_getElem? (i := 424) (by decide +kernel)⟩
theorem lw_p2 : lw_okq (⟨"RoomHours$Course", "passWalls", "(I)V"⟩, 18) := ⟨⟨by decide +kernel, by decide +kernel⟩, List.mem_of_getElem? (i := 117) (by decide +kernel), List.mem_of_getElem? (i := 434) (by decide +kernel), List.mem_of_getElem? (i := 435) (by decide +kernel)⟩
theorem lw_p3 : lw_okq (⟨"RoomHours$Course", "passWindows", "(I)V"⟩, 18) := ⟨⟨by decide +kernel, by decide +kernel⟩, List.mem_of_getElem? (i := 117) (by decide +kernel), List.mem_of_getElem? (i := 439) (by decide +kernel), List.mem_of_getElem? (i := 440) (by decide +kernel)⟩
theorem lw_p4 : lw_okq (⟨"RoomHours$Course", "bringPersons", "(II)V"⟩, 18) := ⟨⟨by decide +kernel, by decide +kernel⟩, List.mem_of_getElem? (i := 117) (by decide +kernel), List.mem_of_getElem? (i := 443) (by decide +kernel), List.mem_of_getElem? (i := 444) (by decide +kernel)⟩
theorem lw_p5 : lw_okq (⟨"RoomHours$Course", "planned", "(III)I"⟩, 18) := ⟨⟨by decide +kernel, by decide +kernel⟩, List.mem_of_getElem? (i := 117) (by decide +kernel), List.mem_of_getElem? (i := 447) (by decide +kernel), List.mem_of_getElem? (i := 448) (by decide +kernel)⟩
theorem lw_p6 : lw_okq (⟨"RoomHours$Course", "heatUp", "(II)V"⟩, 18) := ⟨⟨by decide +kernel, by decide +kernel⟩, List.mem_of_getElem? (i := 117) (by decide +kernel), List.mem_of_getElem? (i := 451) (by decide +kernel), List.mem_of_getElem? (i := 452) (by decide +kernel)⟩
theorem lw_p7 : lw_okq (⟨"RoomHours$Course", "setOf", "(II)I"⟩, 18) := ⟨⟨by decide +kernel, by decide +kernel⟩, List.mem_of_getElem? (i := 117) (by decide +kernel), List.mem_of_getElem? (i := 455) (by decide +kernel), List.mem_of_getElem? (i := 456) (by decide +kernel)⟩
theorem lw_p8 : lw_okq (⟨"RoomHours$Course", "heatingOf", "(I)I"⟩, 18) := ⟨⟨by decide +kernel, by decide +kernel⟩, List.mem_of_getElem? (i := 117) (by decide +kernel), List.mem_of_getElem? (i := 460) (by decide +kernel), List.mem_of_getElem? (i := 461) (by decide +kernel)⟩
theorem lw_p9 : lw_okq (⟨"RoomHours$Course", "coolDown", "(II)V"⟩, 18) := ⟨⟨by decide +kernel, by decide +kernel⟩, List.mem_of_getElem? (i := 117) (by decide +kernel), List.mem_of_getElem? (i := 470) (by decide +kernel), List.mem_of_getElem? (i := 471) (by decide +kernel)⟩
theorem lw_p10 : lw_okq (⟨"RoomHours$Course", "hourEnds", "()Z"⟩, 18) := ⟨⟨by decide +kernel, by decide +kernel⟩, List.mem_of_getElem? (i := 117) (by decide +kernel), List.mem_of_getElem? (i := 474) (by decide +kernel), List.mem_of_getElem? (i := 475) (by decide +kernel)⟩
theorem lw_p11 : lw_okq (⟨"RoomHours$Course", "countUneasy", "(I)V"⟩, 18) := ⟨⟨by decide +kernel, by decide +kernel⟩, List.mem_of_getElem? (i := 117) (by decide +kernel), List.mem_of_getElem? (i := 478) (by decide +kernel), List.mem_of_getElem? (i := 479) (by decide +kernel)⟩
theorem lw_p12 : lw_okq (⟨"RoomHours$Course", "hasPersons", "(II)Z"⟩, 18) := ⟨⟨by decide +kernel, by decide +kernel⟩, List.mem_of_getElem? (i := 117) (by decide +kernel), List.mem_of_getElem? (i := 482) (by decide +kernel), List.mem_of_getElem? (i := 483) (by decide +kernel)⟩
theorem lw_p13 : lw_okq (⟨"RoomHoursModel", "isRoom", "(I)Z"⟩, 37) := ⟨⟨by decide +kernel, by decide +kernel⟩, List.mem_of_getElem? (i := 550) (by decide +kernel), List.mem_of_getElem? (i := 687) (by decide +kernel), List.mem_of_getElem? (i := 688) (by decide +kernel)⟩
theorem lw_p14 : lw_okq (⟨"RoomHoursModel", "isTooMuch", "(II)Z"⟩, 37) := ⟨⟨by decide +kernel, by decide +kernel⟩, List.mem_of_getElem? (i := 550) (by decide +kernel), List.mem_of_getElem? (i := 691) (by decide +kernel), List.mem_of_getElem? (i := 692) (by decide +kernel)⟩
theorem lw_p15 : lw_okq (⟨"RoomHoursModel", "step", "()V"⟩, 37) := ⟨⟨by decide +kernel, by decide +kernel⟩, List.mem_of_getElem? (i := 550) (by decide +kernel), List.mem_of_getElem? (i := 730) (by decide +kernel), List.mem_of_getElem? (i := 731) (by decide +kernel)⟩
def lw_privs_1 : List (MethodName × Nat) := [(⟨"java/lang/Throwable", "fillInStackTrace", "(I)Ljava/lang/Throwable;"⟩, 6), (⟨"RoomHours$Course", "hourOfDay", "()I"⟩, 18), (⟨"RoomHours$Course", "passWalls", "(I)V"⟩, 18), (⟨"RoomHours$Course", "passWindows", "(I)V"⟩, 18), (⟨"RoomHours$Course", "bringPersons", "(II)V"⟩, 18), (⟨"RoomHours$Course", "planned", "(III)I"⟩, 18), (⟨"RoomHours$Course", "heatUp", "(II)V"⟩, 18), (⟨"RoomHours$Course", "setOf", "(II)I"⟩, 18), (⟨"RoomHours$Course", "heatingOf", "(I)I"⟩, 18), (⟨"RoomHours$Course", "coolDown", "(II)V"⟩, 18), (⟨"RoomHours$Course", "hourEnds", "()Z"⟩, 18), (⟨"RoomHours$Course", "countUneasy", "(I)V"⟩, 18), (⟨"RoomHours$Course", "hasPersons", "(II)Z"⟩, 18), (⟨"RoomHoursModel", "isRoom", "(I)Z"⟩, 37), (⟨"RoomHoursModel", "isTooMuch", "(II)Z"⟩, 37), (⟨"RoomHoursModel", "step", "()V"⟩, 37)]
theorem lw_r1 : ∀ q ∈ lw_privs_1, lw_okq q := List.forall_mem_cons.mpr ⟨lw_p0, List.forall_mem_cons.mpr ⟨lw_p1, List.forall_mem_cons.mpr ⟨lw_p2, List.forall_mem_cons.mpr ⟨lw_p3, List.forall_mem_cons.mpr ⟨lw_p4, List.forall_mem_cons.mpr ⟨lw_p5, List.forall_mem_cons.mpr ⟨lw_p6, List.forall_mem_cons.mpr ⟨lw_p7, List.forall_mem_cons.mpr ⟨lw_p8, List.forall_mem_cons.mpr ⟨lw_p9, List.forall_mem_cons.mpr ⟨lw_p10, List.forall_mem_cons.mpr ⟨lw_p11, List.forall_mem_cons.mpr ⟨lw_p12, List.forall_mem_cons.mpr ⟨lw_p13, List.forall_mem_cons.mpr ⟨lw_p14, List.forall_mem_cons.mpr ⟨lw_p15, fun _ h => absurd h List.not_mem_nil⟩⟩⟩⟩⟩⟩⟩⟩⟩⟩⟩⟩⟩⟩⟩⟩
theorem lw_p16 : lw_okq (⟨"RoomHoursModel", "flows", "(I)V"⟩, 37) := ⟨⟨by decide +kernel, by decide +kernel⟩, List.mem_of_getElem? (i := 550) (by decide +kernel), List.mem_of_getElem? (i := 734) (by decide +kernel), List.mem_of_getElem? (i := 735) (by decide +kernel)⟩
theorem lw_p17 : lw_okq (⟨"RoomHoursModel", "warmthOf", "(I)J"⟩, 37) := ⟨⟨by decide +kernel, by decide +kernel⟩, List.mem_of_getElem? (i := 550) (by decide +kernel), List.mem_of_getElem? (i := 738) (by decide +kernel), List.mem_of_getElem? (i := 739) (by decide +kernel)⟩
theorem lw_p18 : lw_okq (⟨"RoomHoursModel", "keep", "()V"⟩, 37) := ⟨⟨by decide +kernel, by decide +kernel⟩, List.mem_of_getElem? (i := 550) (by decide +kernel), List.mem_of_getElem? (i := 757) (by decide +kernel), List.mem_of_getElem? (i := 758) (by decide +kernel)⟩
theorem lw_p19 : lw_okq (⟨"RoomHoursModel", "putBack", "()V"⟩, 37) := ⟨⟨by decide +kernel, by decide +kernel⟩, List.mem_of_getElem? (i := 550) (by decide +kernel), List.mem_of_getElem? (i := 761) (by decide +kernel), List.mem_of_getElem? (i := 762) (by decide +kernel)⟩
def lw_privs_2 : List (MethodName × Nat) := [(⟨"RoomHoursModel", "flows", "(I)V"⟩, 37), (⟨"RoomHoursModel", "warmthOf", "(I)J"⟩, 37), (⟨"RoomHoursModel", "keep", "()V"⟩, 37), (⟨"RoomHoursModel", "putBack", "()V"⟩, 37)]
theorem lw_r2 : ∀ q ∈ lw_privs_2, lw_okq q := List.forall_mem_cons.mpr ⟨lw_p16, List.forall_mem_cons.mpr ⟨lw_p17, List.forall_mem_cons.mpr ⟨lw_p18, List.forall_mem_cons.mpr ⟨lw_p19, fun _ h => absurd h List.not_mem_nil⟩⟩⟩⟩
def lw_privs : List (MethodName × Nat) := lw_privs_1 ++ (lw_privs_2)
def lw_tbl : List Cond := k2_sels lw_privs ++ tables_1
theorem lw_privs_ok : ∀ q ∈ lw_privs, lw_okq q := by
  show ∀ q ∈ lw_privs_1 ++ (lw_privs_2), lw_okq q
  exact List.forall_mem_append.mpr ⟨lw_r1, lw_r2⟩
end
section
def va_AOA (t : FieldType) (U : State) : Prop := (Cond.arrayOver (.array t)).before #[] U = true
theorem va_AOA.use {t : FieldType} {A : Array Value} {U : State} (h : va_AOA t U) : (Cond.arrayOver (.array t)).before A U = true := h
end
section
/-! ===== BEGIN words of one list among another's, by their places ===== -/
theorem goodIn_r {big : List Cond} (ws : List Cond) (ps : List Nat) (hp : ws = ps.filterMap (fun i => big[i]?)) (h : ws.all goodWord = true) : GoodIn big ws := by
  intro w hw
  have h1 := List.all_eq_true.mp h w hw
  rw [hp] at hw
  obtain ⟨i, -, hi⟩ := List.mem_filterMap.mp hw
  have hm : w ∈ big := by first | exact List.mem_of_getElem? hi | exact List.getElem?_mem hi
  exact ⟨hm, good_of_word h1⟩
theorem goodIn_app {big a b : List Cond} (ha : GoodIn big a) (hb : GoodIn big b) : GoodIn big (a ++ b) := fun w h => (List.mem_append.mp h).elim (ha w) (hb w)
theorem goodIn_ca {big a b : List Cond} {c : Cond} (ha : GoodIn big (c :: a)) (hb : GoodIn big b) : GoodIn big (c :: (a ++ b)) := fun w h => (List.mem_cons.mp h).elim (fun e => ha w (List.mem_cons.mpr (Or.inl e))) (fun h => (List.mem_append.mp h).elim (fun h => ha w (List.mem_cons.mpr (Or.inr h))) (hb w))
theorem goodIn_sub {big ws : List Cond} (hm : ∀ w ∈ ws, w ∈ big) (h : ws.all goodWord = true) : GoodIn big ws := fun w hw => ⟨hm w hw, good_of_word (List.all_eq_true.mp h w hw)⟩
/-! ===== END ===== -/

/-! ===== BEGIN new T[n][m]: the outer array a place, the inner ones among the pooled ===== -/
/-- f, but v at every address of l -/
def vr_up {α : Type} (f : Nat → α) (l : List Nat) (v : α) : Nat → α := fun a => if a ∈ l then v else f a
theorem vr_up_in {α : Type} {f : Nat → α} {l : List Nat} {v : α} {a : Nat} (h : a ∈ l) : vr_up f l v a = v := if_pos h
theorem vr_up_ne {α : Type} {f : Nat → α} {l : List Nat} {v : α} {a : Nat} (h : a ∉ l) : vr_up f l v a = f a := if_neg h
theorem vr_rows {L l : List Nat} {f : Nat → va_E} {e : va_E} (h : ∀ a, a ∈ l → a ∉ L) : va_pl L f ++ l.map (fun a => (a, e)) = va_pl (L ++ l) (vr_up f l e) := by
  unfold va_pl
  rw [List.map_append]
  congr 1
  · apply List.map_congr_left
    intro a ha
    rw [vr_up_ne (fun q => h a q ha)]
  · apply List.map_congr_left
    intro a ha
    rw [vr_up_in ha]
theorem vr_lay {X rows : va_W} {x : Nat × va_E} {pl : va_W} {D : va_G} {cl : List vw_C} {H : Heap} (hP : va_P D cl (((X ++ pl) ++ [x]) ++ rows) H) : va_P D cl ((X ++ [x]) ++ (pl ++ rows)) H := by
  rw [List.append_assoc (X ++ pl)] at hP
  have h := va_P.swap hP
  rw [← List.append_assoc X] at h
  have h2 := va_P.swap h
  rw [List.append_assoc (X ++ [x])] at h2
  exact h2
theorem vr_layD {X rows : va_W} {x : Nat × va_E} {pl : va_W} {A : Nat → Prop} (hD : va_D A (((X ++ pl) ++ [x]) ++ rows)) : va_D A ((X ++ [x]) ++ (pl ++ rows)) := by
  rw [List.append_assoc (X ++ pl)] at hD
  have h := va_D.swap hD
  rw [← List.append_assoc X] at h
  have h2 := va_D.swap h
  rw [List.append_assoc (X ++ [x])] at h2
  exact h2
theorem vr_outer (c : ClassId) (N h0 : Nat) : ∀ i : Nat, Jvm.Free.Multi.outerC c N h0 i = arrV c N (fun j => va_rf (if j < i then some (h0 + 1 + j) else none))
  | 0 => by
    show ({ cls := c, slots := Array.replicate N .null, vm := .none } : Cell) = _
    rw [arrV_new]
    refine congrArg (arrV c N) (funext fun j => ?_)
    simp [va_rf]
  | i + 1 => by
    show (Jvm.Free.Multi.outerC c N h0 i).setSlot i (.ref (h0 + 1 + i)) = _
    rw [vr_outer c N h0 i, arrV_store]
    refine congrArg (arrV c N) (funext fun j => ?_)
    by_cases e : j = i
    · subst e
      simp [updV, va_rf]
    · by_cases h : j < i
      · simp [updV, e, h, Nat.lt_succ_of_lt h]
      · simp [updV, e, h, show ¬ j < i + 1 by omega]
section VGM
variable {p : Program} {l : Launch} {e : Env} {R : Room} {s : State} {m : MethodId} {args : Array Value} {below : List Frame} {meth : Method} {c : Code} {H : Heap} {locs : List Loc} {cells slots : Nat} {Q : State → Prop}
variable {cc : ByteArray} {pc : Nat} {ls : Array Slot} {rest : List Value} {D : va_G} {cl : List vw_C} {A : Nat → Prop} {a : Nat} {tys : List (ClassId × FieldType)} {ws : va_W} {H0 : Heap}
theorem va_mna {X : va_W} {L : List Nat} {f : Nat → va_E} {cc : ByteArray} (hexec : p.tables.exec = Jvm.exec) (hb : c.code = cc) {own : String} {index : Nat} {ty : FieldType} {cy : ClassId} (hown : s.vm.findClass own = some m.cls) (hclink : (Cond.classLink own index ("[" ++ (FieldType.array ty).toString)).before args s = true) (hover : va_AOA ty s) (harr : (Cond.arrayClass ty).before args s = true) (hcy : s.vm.findClass (FieldType.array ty).toString = some cy)
    (hK : va_K D cl tys s) (hP : va_P D cl (X ++ va_pl L f) H) (hD : va_D A (X ++ va_pl L f)) (hS : va_S A H0 H locs) (hA : ∀ q, H0.size ≤ q → A q) {n k : Int32} {N' K' : Nat} {z : vp_A} (hn : ¬ n < 0) (hk : ¬ k < 0) (hN : n.toNatClampNeg = N') (hM : k.toNatClampNeg = K')
    (hb1 : N' * 4 ≤ 536870912) (hb2 : K' * componentBytes ty ≤ 536870912) (hb3 : K' ≤ 536870912) (hdf : fits ty (defaultValue ty) = true) (hdd : (defaultValue ty).isDefault = true) (hcells : cells + (1 + N') ≤ R.cells) (hslots : slots + (N' + N' * K') ≤ R.slots) (hz : ∀ c : ClassId, Jvm.Free.Multi.innerC c K' (defaultValue ty) = vp_cell c z) (hdg : decode cc pc = .ok (.multianewarray index 2, 4))
    (kk : ∀ (q : Nat) (r : Nat → Nat) (cA : ClassId) (H1 : Heap), (∀ i j : Nat, i < N' → j < N' → r i = r j → i = j) → (∀ i : Nat, i < N' → r i ∉ L) → va_K D cl (tys ++ [(cA, .array ty)]) s →
      va_P D cl ((X ++ [(q, .inl (cA, N', .inr (.inr (.inr (.inr (fun i => if i < N' then some (r i) else none))))))]) ++ va_pl (L ++ (List.range N').map r) (vr_up f ((List.range N').map r) (.inl (cy, z)))) H1 → va_D A ((X ++ [(q, .inl (cA, N', .inr (.inr (.inr (.inr (fun i => if i < N' then some (r i) else none))))))]) ++ va_pl (L ++ (List.range N').map r) (vr_up f ((List.range N').map r) (.inl (cy, z)))) → va_S A H0 H1 locs →
      W p l e R s m args below meth c H1 locs (cells + 1 + N') (slots + N' + N' * K') Q (F0 m (pc + 4) ls (.ref q :: rest))) : W p l e R s m args below meth c H locs cells slots Q (F0 m pc ls (.int k :: .int n :: rest)) := by
  subst hN
  subst hM
  intro T hT Xs
  obtain ⟨vm₁, cA, comp, -, fA, fC, hO, -, X', step⟩ := Xs.multianewarray2F hexec hown hclink (va_AOA.use hover) harr (g := F0 m pc ls (.int k :: .int n :: rest)) rfl (by rw [hb]; exact hdg) rfl hn hk hb1 hb2 hb3 hdf hdd hcells hslots
  have ec : some cy = some comp := hcy.symm.trans fC
  cases ec
  generalize hF : Jvm.Free.Multi.fill (T.setVm vm₁) cA cy n.toNatClampNeg k.toNatClampNeg (defaultValue ty) n.toNatClampNeg = F at X' step
  have hTh : (T.setVm vm₁).heap = H := hT
  obtain ⟨f1, f2, -, -⟩ := Jvm.Free.Multi.fill_facts (T.setVm vm₁) cA cy n.toNatClampNeg k.toNatClampNeg (defaultValue ty) n.toNatClampNeg
  rw [hF, hTh] at f1 f2
  have hold : ∀ x : Nat, x < H.size → F.heap[x]? = H[x]? := fun x hx => by
    have := Jvm.Free.Multi.fill_old (T.setVm vm₁) cA cy n.toNatClampNeg k.toNatClampNeg (defaultValue ty) (a := x) (by rw [hTh]; exact hx) n.toNatClampNeg
    rw [hF, hTh] at this
    exact this
  have hrow : ∀ j : Nat, j < n.toNatClampNeg → F.heap[H.size + 1 + j]? = some (vp_cell cy z) := fun j hj => by
    have := Jvm.Free.Multi.fill_inner (T.setVm vm₁) cA cy n.toNatClampNeg k.toNatClampNeg (defaultValue ty) n.toNatClampNeg j hj
    rw [hF, hTh, hz] at this
    exact this
  have hout : Jvm.Free.Multi.outerC cA n.toNatClampNeg H.size n.toNatClampNeg = vp_cell cA (n.toNatClampNeg, .inr (.inr (.inr (.inr (fun i => if i < n.toNatClampNeg then some (H.size + 1 + i) else none))))) := by
    rw [vp_cell_q]
    exact vr_outer cA n.toNatClampNeg H.size n.toNatClampNeg
  rw [hout] at f2
  have hlt : ∀ a, a ∈ L → a < H.size := fun a ha => by
    obtain ⟨k9, hk9⟩ := va_pl_get (X := X) (f := f) ha
    exact (hP k9 _ hk9).lt
  have hnl : ∀ i : Nat, i < n.toNatClampNeg → H.size + 1 + i ∉ L := fun i _ h => by
    have := hlt _ h
    omega
  have hnm : ∀ a, a ∈ (List.range n.toNatClampNeg).map (fun i => H.size + 1 + i) → a ∉ L := fun a ha h => by
    obtain ⟨i, -, rfl⟩ := List.mem_map.mp ha
    have := hlt _ h
    omega
  have hP0 : va_P D cl (X ++ va_pl L f) F.heap := hP.kept (fun k9 x hx => hold x.1 ((hP k9 x hx).lt))
  have hP1 : va_P D cl ((X ++ va_pl L f) ++ [(H.size, .inl (cA, n.toNatClampNeg, .inr (.inr (.inr (.inr (fun i => if i < n.toNatClampNeg then some (H.size + 1 + i) else none))))))]) F.heap := hP0.app (fun k9 x hx => by
    have h0 : k9 < 1 := (List.getElem?_eq_some_iff.mp hx).1
    rw [show k9 = 0 by omega] at hx
    cases hx
    exact f2)
  have hP2 : va_P D cl (((X ++ va_pl L f) ++ [(H.size, .inl (cA, n.toNatClampNeg, .inr (.inr (.inr (.inr (fun i => if i < n.toNatClampNeg then some (H.size + 1 + i) else none))))))]) ++ ((List.range n.toNatClampNeg).map (fun i => H.size + 1 + i)).map (fun a => (a, .inl (cy, z)))) F.heap := hP1.app (fun k9 x hx => by
    obtain ⟨a, ha, rfl⟩ := List.mem_map.mp (List.mem_of_getElem? hx)
    obtain ⟨i, hi, rfl⟩ := List.mem_map.mp ha
    exact hrow i (List.mem_range.mp hi))
  have hD2 : va_D A (((X ++ va_pl L f) ++ [(H.size, .inl (cA, n.toNatClampNeg, .inr (.inr (.inr (.inr (fun i => if i < n.toNatClampNeg then some (H.size + 1 + i) else none))))))]) ++ ((List.range n.toNatClampNeg).map (fun i => H.size + 1 + i)).map (fun a => (a, .inl (cy, z)))) := by
    have hD1 := hD.push (e := .inl (cA, n.toNatClampNeg, .inr (.inr (.inr (.inr (fun i => if i < n.toNatClampNeg then some (H.size + 1 + i) else none)))))) hP rfl (hA _ hS.1)
    generalize hW1 : (X ++ va_pl L f) ++ [(H.size, .inl (cA, n.toNatClampNeg, .inr (.inr (.inr (.inr (fun i => if i < n.toNatClampNeg then some (H.size + 1 + i) else none))))))] = W1 at hD1 hP1 ⊢
    have hle : ∀ (k9 : Nat) (x : Nat × va_E), W1[k9]? = some x → x.1 ≤ H.size := fun k9 x hx => by
      rw [← hW1] at hx
      by_cases hl : k9 < (X ++ va_pl L f).length
      · rw [List.getElem?_append_left hl] at hx
        exact Nat.le_of_lt ((hP k9 x hx).lt)
      · rw [List.getElem?_append_right (by omega)] at hx
        have h0 : k9 - (X ++ va_pl L f).length < 1 := (List.getElem?_eq_some_iff.mp hx).1
        rw [show k9 - (X ++ va_pl L f).length = 0 by omega] at hx
        cases hx
        exact Nat.le_refl _
    have hr : ∀ (k9 : Nat) (x : Nat × va_E), (((List.range n.toNatClampNeg).map (fun i => H.size + 1 + i)).map (fun a => ((a, .inl (cy, z)) : Nat × va_E)))[k9]? = some x → x.1 = H.size + 1 + k9 := fun k9 x hx => by
      rw [List.getElem?_map, List.getElem?_map] at hx
      by_cases h9 : k9 < n.toNatClampNeg
      · rw [List.getElem?_range h9] at hx
        cases hx
        rfl
      · have hn0 : (List.range n.toNatClampNeg)[k9]? = none := List.getElem?_eq_none (by rw [List.length_range]; omega)
        rw [hn0] at hx
        cases hx
    refine ⟨fun i j x y hi hj hxy => ?_, fun k9 x hx => ?_⟩
    · by_cases h1 : i < W1.length <;> by_cases h2 : j < W1.length
      · rw [List.getElem?_append_left h1] at hi
        rw [List.getElem?_append_left h2] at hj
        exact hD1.1 i j x y hi hj hxy
      · rw [List.getElem?_append_left h1] at hi
        rw [List.getElem?_append_right (by omega)] at hj
        have := hle _ _ hi
        have := hr _ _ hj
        omega
      · rw [List.getElem?_append_right (by omega)] at hi
        rw [List.getElem?_append_left h2] at hj
        have := hle _ _ hj
        have := hr _ _ hi
        omega
      · rw [List.getElem?_append_right (by omega)] at hi hj
        have := hr _ _ hi
        have := hr _ _ hj
        omega
    · by_cases h1 : k9 < W1.length
      · rw [List.getElem?_append_left h1] at hx
        exact hD1.2 k9 x hx
      · rw [List.getElem?_append_right (by omega)] at hx
        have := hr _ _ hx
        exact hA _ (by have := hS.1; omega)
  have hAr : ArrOfT s cA (.array ty) := fun N9 z9 => by
    obtain ⟨-, k9, hk9, cm9, hkk9⟩ := (hO 0 0 0).1
    exact ⟨(fun q hq => by cases hq), k9, hk9, cm9, hkk9⟩
  have hK2 : va_K D cl (tys ++ [(cA, .array ty)]) s := ⟨hK.1, fun k9 x hx => by
    by_cases hl : k9 < tys.length
    · rw [List.getElem?_append_left hl] at hx
      exact hK.2 k9 x hx
    · rw [List.getElem?_append_right (by omega)] at hx
      have h0 : k9 - tys.length < 1 := (List.getElem?_eq_some_iff.mp hx).1
      rw [show k9 - tys.length = 0 by omega] at hx
      cases hx
      exact ⟨hAr, fA⟩⟩
  obtain ⟨t, a1, b1⟩ := kk H.size (fun i => H.size + 1 + i) cA F.heap (fun i j _ _ h => by have h9 : H.size + 1 + i = H.size + 1 + j := h; omega) hnl hK2 (by rw [← vr_rows hnm]; exact vr_lay hP2) (by rw [← vr_rows hnm]; exact vr_layD hD2) ⟨by rw [f1]; have := hS.1; omega, fun x h1 h2 => (hold x (Nat.lt_of_lt_of_le h1 hS.1)).trans (hS.2.1 x h1 h2), hS.2.2⟩ F rfl X'
  refine ⟨t, step t ?_, b1⟩
  have e : T.heap.size = H.size := by rw [hT]
  rw [e]
  exact a1
end VGM
/-! ===== END ===== -/

/-! ===== BEGIN exceptions that leave a method, and their catching by the caller (launches without stack traces) ===== -/
section VXA
/-! The laws vx_back, vx_callV, vx_callS, vx_callSW, vx_throw0, vx_throwS follow proofs of the library, with one case more: JvmDerived/Free/Laws.lean (Back.of_free), Shelf42/LK1.lean (callV, callS), Shelf/KitTraced.lean (throwNew0V, throwNewS). -/
/-- where a method has thrown q: the class by its name, the cell, what was written, the world -/
def vx_T (XC : String → State → State → Prop) (st : State) (q : Addr) (t : State) (mc ms : Nat) (free : Addr → Prop) : Prop :=
  ∃ (E : String) (ce : Cell) (L : List Loc), XC E st t ∧ t.heap[q]? = some ce ∧ ce.vm = .none ∧ st.vm.findClass E = some ce.cls ∧ st.WarmedH t.vm ∧ st.sameButNew ({ t with vm := st.vm } : State) L mc ms ∧ ∀ z ∈ L, free z.base
def vx_Q (Qc : Array Value → State → Outcome → State → Prop) (XC : String → State → State → Prop) (mc ms : Nat) (free : Addr → Prop) : Array Value → State → Outcome → State → Prop := fun a st o t =>
  (Qc a st o t ∧ ∃ L, FrameEnd st o t L mc ms ∧ ∀ q ∈ L, free q.base) ∨ ∃ q, o = .threw q ∧ vx_T XC st q t mc ms free
/-- a callee that returns or throws -/
def vx_Met (l : Launch) (y : MethodName) (ws : List Cond) (rm : Room) (Pc : Array Value → State → Prop) (Qc : Array Value → State → Outcome → State → Prop) (XC : String → State → State → Prop) (mc ms : Nat) (free : Addr → Prop) : Prop :=
  MetFree l y (headSpec ws rm) Pc (fun _ _ _ _ _ => True) (vx_Q Qc XC mc ms free)
def vx_Post (XC : String → State → State → Prop) (mc ms : Nat) (free : Addr → Prop) : Pt → Array Value → Addr → Pt → Prop := fun A a q B =>
  ∃ (g : JFrame) (mk : MethodId) (t : State) (L : List Loc) (E : String) (ce : Cell), B.U.heap = t.heap ∧ B.U.vm = t.vm ∧ XC E (A.U.calling g mk a) t ∧ t.heap[q]? = some ce ∧ ce.vm = .none ∧ A.U.vm.findClass E = some ce.cls ∧ B.locs = A.locs ++ L ∧ (∀ z ∈ L, free z.base) ∧ B.cells = A.cells + mc ∧ B.slots = A.slots + ms
def vx_Back (l : Launch) (R : Room) (p : Program) (e : Env) (below : List Frame) (s : State) (sargs : Array Value) (y : MethodName) (len W9 : Nat)
    (Pre : Pt → Array Value → Prop) (Post : Pt → Array Value → Option Value → Pt → Prop) (PostX : Pt → Array Value → Addr → Pt → Prop) : Prop :=
  ∀ (m : MethodId) (meth : Method) (c : Code) (A : Pt) (g : JFrame) (ig : Instr) (mk : MethodId) (a : Array Value),
    Stand p l e R s m sargs below meth c A.U A.locs A.cells A.slots → g.method = m → g.locals.size = c.maxLocals → decode c.code g.pc = .ok (ig, len) →
    2 * g.monitorRoom + (g.stack.map fun v => v.category).sum ≤ W9 → A.U.methodNamed? y = some mk → Pre A a →
    (∃ (v : Option Value) (B : Pt), Stand p l e R s m sargs below meth c B.U B.locs B.cells B.slots ∧ Post A a v B ∧
      Steps p.tables e below (doInvoke e (A.U.setTop g) [] mk a).1 (B.U.setTop { g with pc := g.pc + len, stack := v.toList ++ g.stack })) ∨
    (∃ (q : Addr) (B : Pt), Stand p l e R s m sargs below meth c B.U B.locs B.cells B.slots ∧ PostX A a q B ∧
      Steps p.tables e below (doInvoke e (A.U.setTop g) [] mk a).1 ((B.U.setTop g).pushFrame (.throwing q)))
section Payer
variable {l : Launch} {R : Room} {p : Program} {e : Env} {below : List Frame} {s : State} {sargs : Array Value} {y : MethodName} {len W9 : Nat}
theorem vx_back {ws : List Cond} {rm : Room} {Pc : Array Value → State → Prop} {Qc : Array Value → State → Outcome → State → Prop} {XC : String → State → State → Prop} {mc ms : Nat} {free : Addr → Prop} {bytes : ByteArray} {maxL : Nat} {ret : Option FieldType}
    (hM : vx_Met l y ws rm Pc Qc XC mc ms free) (hblind : FrameBlind Pc) (hrc : rm.cells = mc) (hrs : rm.slots = ms)
    (hframes : rm.frames + 1 ≤ R.frames) (hlocals : W9 + (maxL + 11) + rm.locals ≤ R.locals)
    (hws : ∀ w ∈ ws, ∀ a' U, s.WarmedH U.vm → w.before a' U = true) (hcode : Cond.code y bytes maxL ret ∈ ws) (hinit : ∀ a' U, s.WarmedH U.vm → (Cond.initialized y.cls).before a' U = true) :
    vx_Back l R p e below s sargs y len W9 (PreOf R mc ms Pc) (PostOf Qc mc ms free) (vx_Post XC mc ms free) := by
  intro m meth c A g ig mk a X hg hsize hdg hW hn hp
  have h1 : (headSpec ws rm).pre.before a A.U = true := atoms_intro fun w hw => hws w hw _ _ X.warmed
  have h2 : (Cond.code y bytes maxL ret).before a A.U = true := hws _ hcode _ _ X.warmed
  have h3 : (Cond.initialized y.cls).before a A.U = true := hinit _ _ X.warmed
  have h4 : A.cells + (headSpec ws rm).room.cells ≤ R.cells := by rw [show (headSpec ws rm).room.cells = mc from hrc]; exact hp.1
  have h5 : A.slots + (headSpec ws rm).room.slots ≤ R.slots := by rw [show (headSpec ws rm).room.slots = ms from hrs]; exact hp.2.1
  have hPc : Pc a (A.U.calling g mk a) := hblind _ _ _ _ hp.2.2
  obtain ⟨U, Ls, c0, s0⟩ := A
  dsimp only [Pt.U, Pt.locs, Pt.cells, Pt.slots] at h1 h2 h3 h4 h5 X hn hPc ⊢
  obtain ⟨methY, cY, hmY, hcY, -, hlY, -, -, -, -⟩ := Cond.code_spec hn h2
  obtain ⟨kY, hkY, -⟩ := className_of_methodNamed hn
  have hinitY : kY.init = .initialized := Cond.initialized_spec (findClass_of_methodNamed hn) hkY h3
  have h : At U g.method c below := by rw [hg]; exact X.here
  have hlocals9 : W9 + (maxL + 11) + (headSpec ws rm).room.locals ≤ R.locals := hlocals
  have happ : (headSpec ws rm).appliesLoose y e.platform (U.calling g mk a) = true :=
    Spec.appliesLoose_calling (g := g) h hdg hn hkY hinitY
      (X.room_calling (g := g) (R' := (headSpec ws rm).room) hsize hmY hcY hframes (by rw [hlY]; omega) h4 h5) h1
  obtain ⟨mid, hmid⟩ := h.above
  have hfr : (U.setTop g).frames = (.java g :: mid) ++ below := by rw [State.frames_setTop' g h.top, hmid]; rfl
  obtain ⟨o, s₂, hsteps, -, hend, hq⟩ := Steps.callFree hM p X.admits X.cas X.clock (acts := []) hfr happ hPc trivial
  have hq' : vx_Q Qc XC mc ms free a (U.calling g mk a) o s₂ := hq
  rw [State.frames_setTop' g h.top] at hend
  obtain ⟨g₀, hg0⟩ := Option.isSome_iff_exists.mp h.top
  obtain ⟨r, hr⟩ := State.topJava?_eq_some.mp hg0
  have hr' : (({ U with heap := s₂.heap, slotsUsed := s₂.slotsUsed } : State).setVm s₂.vm).frames = .java g₀ :: r := hr
  rcases hq' with ⟨hqc, L, hfe, hL⟩ | ⟨q, rfl, E, ce, L, hx, hce, hcv, hcl, hW₂, hsm, hL⟩
  · obtain ⟨⟨v, rfl⟩, hW₂, e2, q2, q3, q4, q5, q6⟩ := id hfe
    have e3 : s₂ = ({ (U.calling g mk a).setFrames s₂.frames with heap := s₂.heap, slotsUsed := s₂.slotsUsed } : State).setVm s₂.vm := by
      have : s₂ = ({ s₂ with vm := (U.calling g mk a).vm } : State).setVm s₂.vm := rfl
      rw [e2] at this
      exact this
    obtain ⟨c₂, i₂, len₂, hc₂, hd₂, hf₂⟩ := hend
    have hW' : U.WarmedH s₂.vm := hW₂
    have hcc : c₂ = c := by
      have h1 : s₂.code? g.method = U.code? g.method := by
        rw [State.code?_eq, State.code?_eq, hW'.alike.method?]
      exact Option.some.inj (hc₂.symm.trans (h1.trans h.code))
    subst hcc
    have hlen : len₂ = len := by rw [hdg] at hd₂; cases hd₂; rfl
    subst hlen
    have hs₂ : s₂ = (({ U with heap := s₂.heap, slotsUsed := s₂.slotsUsed } : State).setVm s₂.vm).setTop { g with pc := g.pc + len₂, stack := v.toList ++ g.stack } := by
      refine e3.trans ?_
      rw [hf₂, State.calling_eq h.top, State.setFrames_setFrames, State.setTop_of_frames _ hr', hr]
      rfl
    have hsame : U.sameButNew ({ U with heap := s₂.heap, slotsUsed := s₂.slotsUsed } : State) L mc ms := by
      refine ⟨?_, q2, q3, q4, q5, q6⟩
      obtain ⟨t, ht, -⟩ := State.frames_cons hr
      show ({ U with heap := s₂.heap, slotsUsed := s₂.slotsUsed } : State) = { U.setFrames U.frames with heap := s₂.heap, slotsUsed := s₂.slotsUsed }
      rw [State.setFrames_self ht]
    subst hg
    refine Or.inl ⟨v, ⟨(({ U with heap := s₂.heap, slotsUsed := s₂.slotsUsed } : State).setVm s₂.vm), Ls ++ L, c0 + mc, s0 + ms⟩,
      ⟨X.admits, X.cas, X.clock, X.frames, X.room, X.hears, X.method, X.code, (X.here.setHeapUsed s₂.heap s₂.slotsUsed).setVm hW'.alike, X.tail, State.WarmedH.trans X.warmed hW', X.limits, X.bytes, X.same.trans (hsame.setVm s.vm)⟩,
      ⟨g, mk, s₂, L, rfl, rfl, hqc, rfl, hL, rfl, rfl⟩, ?_⟩
    show Steps p.tables e below _ ((({ U with heap := s₂.heap, slotsUsed := s₂.slotsUsed } : State).setVm s₂.vm).setTop { g with pc := g.pc + len₂, stack := v.toList ++ g.stack })
    rw [← hs₂]
    exact hsteps
  · obtain ⟨e2, q2, q3, q4, q5, q6⟩ := id hsm
    have e3 : s₂ = ({ (U.calling g mk a).setFrames s₂.frames with heap := s₂.heap, slotsUsed := s₂.slotsUsed } : State).setVm s₂.vm := by
      have : s₂ = ({ s₂ with vm := (U.calling g mk a).vm } : State).setVm s₂.vm := rfl
      rw [e2] at this
      exact this
    have hf₂ : s₂.frames = .throwing q :: .java g :: U.frames.tail := hend
    have hW' : U.WarmedH s₂.vm := hW₂
    have hs₂ : s₂ = ((({ U with heap := s₂.heap, slotsUsed := s₂.slotsUsed } : State).setVm s₂.vm).setTop g).pushFrame (.throwing q) := by
      refine e3.trans ?_
      rw [hf₂, State.calling_eq h.top, State.setFrames_setFrames, State.pushFrame, State.frames_setTop _ hr', State.setTop_of_frames _ hr', State.setFrames_setFrames, hr]
      rfl
    have hsame : U.sameButNew ({ U with heap := s₂.heap, slotsUsed := s₂.slotsUsed } : State) L mc ms := by
      refine ⟨?_, q2, q3, q4, q5, q6⟩
      obtain ⟨t, ht, -⟩ := State.frames_cons hr
      show ({ U with heap := s₂.heap, slotsUsed := s₂.slotsUsed } : State) = { U.setFrames U.frames with heap := s₂.heap, slotsUsed := s₂.slotsUsed }
      rw [State.setFrames_self ht]
    subst hg
    refine Or.inr ⟨q, ⟨(({ U with heap := s₂.heap, slotsUsed := s₂.slotsUsed } : State).setVm s₂.vm), Ls ++ L, c0 + mc, s0 + ms⟩,
      ⟨X.admits, X.cas, X.clock, X.frames, X.room, X.hears, X.method, X.code, (X.here.setHeapUsed s₂.heap s₂.slotsUsed).setVm hW'.alike, X.tail, State.WarmedH.trans X.warmed hW', X.limits, X.bytes, X.same.trans (hsame.setVm s.vm)⟩,
      ⟨g, mk, s₂, L, E, ce, rfl, rfl, hx, hce, hcv, hcl, rfl, hL, rfl, rfl⟩, ?_⟩
    show Steps p.tables e below _ (((({ U with heap := s₂.heap, slotsUsed := s₂.slotsUsed } : State).setVm s₂.vm).setTop g).pushFrame (.throwing q))
    rw [← hs₂]
    exact hsteps
end Payer
section Calls
variable {p : Program} {l : Launch} {e : Env} {R : Room} {s : State} {m : MethodId} {args : Array Value} {below : List Frame} {meth : Method} {c : Code} {T : State} {locs : List Loc} {cells slots : Nat}
theorem vx_callV (X : Stand p l e R s m args below meth c T locs cells slots) (hexec : p.tables.exec = Jvm.exec) {own C : String} {index : Nat} {y : MethodName} {bytes : ByteArray} {maxL : Nat} {ret : Option FieldType}
    (hown : s.vm.findClass own = some m.cls) (hlink : (Cond.methodLink own index y).before args s = true) (hinst : (Cond.instanceMethod y).before args s = true) (hsel : (Cond.selects C y y).before args s = true)
    (hcode : (Cond.code y bytes maxL ret).before args s = true) (hy : y.cls ≠ "java/lang/invoke/MethodHandle" ∧ y.cls ≠ "java/lang/invoke/VarHandle")
    {W9 : Nat} {Pre : Pt → Array Value → Prop} {Post : Pt → Array Value → Option Value → Pt → Prop} {PostX : Pt → Array Value → Addr → Pt → Prop} (hK : vx_Back l R p e below s args y 3 W9 Pre Post PostX)
    {b : Addr} {cellB : Cell} (hcell : T.heap[b]? = some cellB) (hobj : cellB.vm.isStatics = false) (hcls : s.vm.findClass C = some cellB.cls)
    {g : JFrame} (hg : g.method = m) (hsize : g.locals.size = c.maxLocals) {argsL rest : List Value} (hlen : ∀ sig, parseMethodDescriptor y.desc = some sig → argsL.length = sig.parameters.length)
    (hstack : g.stack = argsL.reverse ++ .ref b :: rest) (hW : 2 * g.monitorRoom + (rest.map fun v => v.category).sum ≤ W9) (hdg : decode c.code g.pc = .ok (.invokevirtual index, 3))
    (hpre : ∀ vm₁, s.WarmedH vm₁ → Pre ⟨T.setVm vm₁, locs, cells, slots⟩ (Value.ref b :: argsL).toArray) :
    (∃ (v : Option Value) (vm₁ : Vm) (B : Pt), s.WarmedH vm₁ ∧ Stand p l e R s m args below meth c B.U B.locs B.cells B.slots ∧ Post ⟨T.setVm vm₁, locs, cells, slots⟩ (Value.ref b :: argsL).toArray v B ∧
      ∀ target, Steps p.tables e below (B.U.setTop { g with pc := g.pc + 3, stack := v.toList ++ rest }) target → Steps p.tables e below (T.setTop g) target) ∨
    (∃ (q : Addr) (vm₁ : Vm) (B : Pt), s.WarmedH vm₁ ∧ Stand p l e R s m args below meth c B.U B.locs B.cells B.slots ∧ PostX ⟨T.setVm vm₁, locs, cells, slots⟩ (Value.ref b :: argsL).toArray q B ∧
      Steps p.tables e below (T.setTop g) ((B.U.setTop { g with stack := rest }).pushFrame (.throwing q))) := by
  obtain ⟨mk, methM, hnamed, hmethM, hstM, habM⟩ := Cond.instanceMethod_spec hinst
  obtain ⟨methM', cM, hmethM', -, -, -, -, -, -, hsigM⟩ := Cond.code_spec hnamed hcode
  cases hmethM.symm.trans hmethM'
  obtain ⟨c2, r2, m2, q1, q2, q3, q4, kP, hkP, hkPi⟩ := Cond.selects_spec hsel
  cases hcls.symm.trans q1
  cases (State.methodFound?_of_named hnamed hy).symm.trans q2
  cases hnamed.symm.trans q3
  have hselP : selectMethod e.platform s.vm cellB.cls mk = .method mk := by rw [Launch.admits_selectMethod X.admits]; exact q4
  obtain ⟨vm₁, X₁, hstep₁⟩ := X.invokevirtual hexec hown hlink hnamed hmethM hstM hkP hkPi hy (a := b) (cell := cellB) hcell
    (fun z h => by rw [h] at hobj; cases hobj) hselP hmethM habM hkP hkPi (g := g) hg (argsL := argsL) (rest := rest) (hlen _ hsigM) hstack hdg
  rcases hK m meth c ⟨T.setVm vm₁, locs, cells, slots⟩ { g with stack := rest } (.invokevirtual index) mk (Value.ref b :: argsL).toArray X₁ hg hsize hdg hW (X₁.named hnamed) (hpre vm₁ X₁.warmed) with ⟨v, B, X', hpost, hsteps⟩ | ⟨q, B, X', hpost, hsteps⟩
  · exact Or.inl ⟨v, vm₁, B, X₁.warmed, X', hpost, fun target h => hstep₁ _ fun acts => by rw [doInvoke_state]; exact hsteps.trans h⟩
  · exact Or.inr ⟨q, vm₁, B, X₁.warmed, X', hpost, hstep₁ _ fun acts => by rw [doInvoke_state]; exact hsteps⟩
theorem vx_callS (X : Stand p l e R s m args below meth c T locs cells slots) (hexec : p.tables.exec = Jvm.exec) {own : String} {index : Nat} {y : MethodName} {bytes : ByteArray} {maxL : Nat} {ret : Option FieldType}
    (hown : s.vm.findClass own = some m.cls) (hlink : (Cond.methodLink own index y).before args s = true) (hstat : (Cond.static y).before args s = true) (hinit : (Cond.initialized y.cls).before args s = true)
    (hcode : (Cond.code y bytes maxL ret).before args s = true) (hy : y.cls ≠ "java/lang/invoke/MethodHandle" ∧ y.cls ≠ "java/lang/invoke/VarHandle")
    {W9 : Nat} {Pre : Pt → Array Value → Prop} {Post : Pt → Array Value → Option Value → Pt → Prop} {PostX : Pt → Array Value → Addr → Pt → Prop} (hK : vx_Back l R p e below s args y 3 W9 Pre Post PostX)
    {g : JFrame} (hg : g.method = m) (hsize : g.locals.size = c.maxLocals) {argsL rest : List Value} (hlen : ∀ sig, parseMethodDescriptor y.desc = some sig → argsL.length = sig.parameters.length)
    (hstack : g.stack = argsL.reverse ++ rest) (hW : 2 * g.monitorRoom + (rest.map fun v => v.category).sum ≤ W9) (hdg : decode c.code g.pc = .ok (.invokestatic index, 3))
    (hpre : ∀ vm₁, s.WarmedH vm₁ → Pre ⟨T.setVm vm₁, locs, cells, slots⟩ argsL.toArray) :
    (∃ (v : Option Value) (vm₁ : Vm) (B : Pt), s.WarmedH vm₁ ∧ Stand p l e R s m args below meth c B.U B.locs B.cells B.slots ∧ Post ⟨T.setVm vm₁, locs, cells, slots⟩ argsL.toArray v B ∧
      ∀ target, Steps p.tables e below (B.U.setTop { g with pc := g.pc + 3, stack := v.toList ++ rest }) target → Steps p.tables e below (T.setTop g) target) ∨
    (∃ (q : Addr) (vm₁ : Vm) (B : Pt), s.WarmedH vm₁ ∧ Stand p l e R s m args below meth c B.U B.locs B.cells B.slots ∧ PostX ⟨T.setVm vm₁, locs, cells, slots⟩ argsL.toArray q B ∧
      Steps p.tables e below (T.setTop g) ((B.U.setTop { g with stack := rest }).pushFrame (.throwing q))) := by
  obtain ⟨mk, hnamed⟩ := Cond.code_named hcode
  obtain ⟨methM, cM, hmethM, -, -, -, -, -, -, hsigM⟩ := Cond.code_spec hnamed hcode
  have hstatic : methM.isStatic = true := Cond.static_spec hnamed hmethM hstat
  obtain ⟨kP, hkP, -⟩ := className_of_methodNamed hnamed
  have hinitP : kP.init = .initialized := Cond.initialized_spec (findClass_of_methodNamed hnamed) hkP hinit
  obtain ⟨vm₁, X₁, hstep₁⟩ := X.invokestatic hexec hown hlink hnamed hmethM hstatic hkP hinitP hy (g := g) hg (argsL := argsL) (rest := rest) (hlen _ hsigM) hstack hdg
  rcases hK m meth c ⟨T.setVm vm₁, locs, cells, slots⟩ { g with stack := rest } (.invokestatic index) mk argsL.toArray X₁ hg hsize hdg hW (X₁.named hnamed) (hpre vm₁ X₁.warmed) with ⟨v, B, X', hpost, hsteps⟩ | ⟨q, B, X', hpost, hsteps⟩
  · exact Or.inl ⟨v, vm₁, B, X₁.warmed, X', hpost, fun target h => hstep₁ _ fun acts => by rw [doInvoke_state]; exact hsteps.trans h⟩
  · exact Or.inr ⟨q, vm₁, B, X₁.warmed, X', hpost, hstep₁ _ fun acts => by rw [doInvoke_state]; exact hsteps⟩
end Calls
theorem vx_cls {s : State} {T : State} {vm₁ : Vm} {E : String} {k : ClassId} (hW : s.WarmedH vm₁) (h : (T.setVm vm₁).vm.findClass E = some k) : s.vm.findClass E = some k := by
  have h1 : vm₁.findClass E = some k := h
  rw [hW.alike.findClass] at h1
  exact h1
/-- the method's frame g, with q thrown over it -/
def vx_W (p : Program) (l : Launch) (e : Env) (R : Room) (s : State) (m : MethodId) (args : Array Value) (below : List Frame) (meth : Method) (c : Code) (H : Heap) (locs : List Loc) (cells slots : Nat) (Q : State → Prop) (g : JFrame) (q : Addr) : Prop :=
  ∀ T : State, T.heap = H → Stand p l e R s m args below meth c T locs cells slots → ∃ t, Steps p.tables e below ((T.setTop g).pushFrame (.throwing q)) t ∧ Q t
def vx_Run (p : Program) (l : Launch) (e : Env) (R : Room) (s : State) (m : MethodId) (args : Array Value) (below : List Frame) (meth : Method) (c : Code) (H : Heap) (locs : List Loc) (cells slots mc ms : Nat) (g : JFrame) (rest : List Value) (Qa : State → Outcome → State → Prop) (XC : String → State → State → Prop) (free : Addr → Prop) : Prop :=
  ∀ T : State, T.heap = H → Stand p l e R s m args below meth c T locs cells slots →
    (∃ (v : Option Value) (st₀ t T' : State) (L : List Loc), st₀.heap = H ∧ Stand p l e R s m args below meth c T' (locs ++ L) (cells + mc) (slots + ms) ∧ (∀ q ∈ L, free q.base) ∧ T'.heap = t.heap ∧ T'.vm = t.vm ∧ Qa st₀ (.returned v) t ∧
      Goes p e below T g T' { g with pc := g.pc + 3, stack := v.toList ++ rest }) ∨
    (∃ (q : Addr) (st₀ t T' : State) (L : List Loc) (E : String) (ce : Cell), st₀.heap = H ∧ Stand p l e R s m args below meth c T' (locs ++ L) (cells + mc) (slots + ms) ∧ (∀ z ∈ L, free z.base) ∧ T'.heap = t.heap ∧ T'.vm = t.vm ∧ XC E st₀ t ∧ t.heap[q]? = some ce ∧ ce.vm = .none ∧ s.vm.findClass E = some ce.cls ∧
      Steps p.tables e below (T.setTop g) ((T'.setTop { g with stack := rest }).pushFrame (.throwing q)))
def vx_X {S : Type} (px : S → Prop) (B : String → S → State → Prop) (A : Nat → Prop) : String → State → State → Prop := fun E st t => ∃ u : S, px u ∧ B E u t ∧ va_F A st t
section Runs
variable {p : Program} {l : Launch} {e : Env} {R : Room} {s : State} {m : MethodId} {args : Array Value} {below : List Frame} {meth : Method} {c : Code} {H : Heap} {locs : List Loc} {cells slots : Nat}
variable {y : MethodName} {bytes cc : ByteArray} {maxL nL mc ms n index : Nat} {ret : Option FieldType} {ws : List Cond} {rm : Room} {Pc : Array Value → State → Prop} {Qc : Array Value → State → Outcome → State → Prop} {XC : String → State → State → Prop} {free : Addr → Prop} {Ts : List Cond} {own C : String} {b : Addr} {As rest : List Value} {g : JFrame}
theorem vx_callBack (cb : CallB R s args own index y bytes maxL ret ws rm mc ms n) (hM : vx_Met l y ws rm Pc Qc XC mc ms free) (hbl : FrameBlind Pc) : vx_Back l R p e below s args y 3 8 (PreOf R mc ms Pc) (PostOf Qc mc ms free) (vx_Post XC mc ms free) := by
  obtain ⟨hrc, hrs, hfr, hlo, hws, hcw, -, hini, -⟩ := cb
  exact vx_back (bytes := bytes) (maxL := maxL) (ret := ret) hM hbl hrc hrs hfr hlo hws hcw (fun a' U hW => word_at hW (Or.inl (by first | rfl | simp [Cond.onTables, Cond.keeps, Cond.steady])) hini)
theorem vx_runV (S : CallFix p m c cc nL s args Ts own) (hM : vx_Met l y ws rm Pc Qc XC mc ms free) (cw : CallW R s args own C index y bytes maxL ret ws rm mc ms n) (hp : PreV s H C b Pc As)
    (hg : g.method = m) (hn : As.length = n) (hsize : g.locals.size = nL) (hstack : g.stack = As.reverse ++ .ref b :: rest) (hW : 2 * g.monitorRoom + (rest.map fun v => v.category).sum ≤ 8) (hdg : decode cc g.pc = .ok (.invokevirtual index, 3)) (hf : cells + mc ≤ R.cells ∧ slots + ms ≤ R.slots) :
    vx_Run p l e R s m args below meth c H locs cells slots mc ms g rest (Qc (Value.ref b :: As).toArray) XC free := by
  have hK : vx_Back l R p e below s args y 3 8 (PreOf R mc ms Pc) (PostOf Qc mc ms free) (vx_Post XC mc ms free) := vx_callBack cw.1 hM hp.1
  obtain ⟨⟨-, -, -, -, -, -, hcode, -, hy, hlen, hl⟩, hin, hse⟩ := cw
  obtain ⟨hx, hb, hml, ho, -⟩ := S
  obtain ⟨-, ⟨cellB, hcB, hoB, hclB⟩, hPc⟩ := hp
  intro T hT X
  rcases vx_callV X hx (C := C) (bytes := bytes) (maxL := maxL) (ret := ret) ho hl hin hse hcode hy hK (by rw [hT]; exact hcB) hoB hclB hg (hsize.trans hml.symm) (argsL := As) (rest := rest) (fun sig h => hn.trans (hlen sig h)) hstack hW (by rw [hb]; exact hdg)
    (fun vm₁ hW₁ => ⟨hf.1, hf.2, hPc (T.setVm vm₁) hT hW₁⟩) with ⟨v, vm₁, ⟨U', l2, c2, s2⟩, hW₁, X', ⟨g', mk, t, L, e1, e2, hq, h1, hL, h2, h3⟩, st⟩ | ⟨q, vm₁, ⟨U', l2, c2, s2⟩, hW₁, X', ⟨g', mk, t, L, E, ce, e1, e2, hq, hce, hcv, hcl, h1, hL, h2, h3⟩, st⟩
  · dsimp only [Pt.U, Pt.locs, Pt.cells, Pt.slots] at X' e1 e2 h1 h2 h3 st
    subst h1; subst h2; subst h3
    exact Or.inl ⟨v, (T.setVm vm₁).calling g' mk (Value.ref b :: As).toArray, t, U', L, hT, X', hL, e1, e2, hq, st⟩
  · dsimp only [Pt.U, Pt.locs, Pt.cells, Pt.slots] at X' e1 e2 h1 h2 h3 st hcl
    subst h1; subst h2; subst h3
    exact Or.inr ⟨q, (T.setVm vm₁).calling g' mk (Value.ref b :: As).toArray, t, U', L, E, ce, hT, X', hL, e1, e2, hq, hce, hcv, vx_cls hW₁ hcl, st⟩
theorem vx_runS (S : CallFix p m c cc nL s args Ts own) (hM : vx_Met l y ws rm Pc Qc XC mc ms free) (cw : CallB R s args own index y bytes maxL ret ws rm mc ms n ∧ (Cond.static y).before args s = true) (hp : PreS s H Pc As)
    (hg : g.method = m) (hn : As.length = n) (hsize : g.locals.size = nL) (hstack : g.stack = As.reverse ++ rest) (hW : 2 * g.monitorRoom + (rest.map fun v => v.category).sum ≤ 8) (hdg : decode cc g.pc = .ok (.invokestatic index, 3)) (hf : cells + mc ≤ R.cells ∧ slots + ms ≤ R.slots) :
    vx_Run p l e R s m args below meth c H locs cells slots mc ms g rest (Qc As.toArray) XC free := by
  have hK : vx_Back l R p e below s args y 3 8 (PreOf R mc ms Pc) (PostOf Qc mc ms free) (vx_Post XC mc ms free) := vx_callBack cw.1 hM hp.1
  obtain ⟨⟨-, -, -, -, -, -, hcode, hini, hy, hlen, hl⟩, hstt⟩ := cw
  obtain ⟨hx, hb, hml, ho, -⟩ := S
  intro T hT X
  rcases vx_callS X hx (bytes := bytes) (maxL := maxL) (ret := ret) ho hl hstt hini hcode hy hK hg (hsize.trans hml.symm) (argsL := As) (rest := rest) (fun sig h => hn.trans (hlen sig h)) hstack hW (by rw [hb]; exact hdg)
    (fun vm₁ hW₁ => ⟨hf.1, hf.2, hp.2 (T.setVm vm₁) hT hW₁⟩) with ⟨v, vm₁, ⟨U', l2, c2, s2⟩, hW₁, X', ⟨g', mk, t, L, e1, e2, hq, h1, hL, h2, h3⟩, st⟩ | ⟨q, vm₁, ⟨U', l2, c2, s2⟩, hW₁, X', ⟨g', mk, t, L, E, ce, e1, e2, hq, hce, hcv, hcl, h1, hL, h2, h3⟩, st⟩
  · dsimp only [Pt.U, Pt.locs, Pt.cells, Pt.slots] at X' e1 e2 h1 h2 h3 st
    subst h1; subst h2; subst h3
    exact Or.inl ⟨v, (T.setVm vm₁).calling g' mk As.toArray, t, U', L, hT, X', hL, e1, e2, hq, st⟩
  · dsimp only [Pt.U, Pt.locs, Pt.cells, Pt.slots] at X' e1 e2 h1 h2 h3 st hcl
    subst h1; subst h2; subst h3
    exact Or.inr ⟨q, (T.setVm vm₁).calling g' mk As.toArray, t, U', L, E, ce, hT, X', hL, e1, e2, hq, hce, hcv, vx_cls hW₁ hcl, st⟩
end Runs
section Rows
variable {p : Program} {l : Launch} {e : Env} {R : Room} {s : State} {m : MethodId} {args : Array Value} {below : List Frame} {meth : Method} {c : Code} {H : Heap} {locs : List Loc} {cells slots : Nat} {Q : State → Prop}
variable {mc ms : Nat} {free : Addr → Prop} {A0 A1 : Nat → Prop} {H0 : Heap} {a : Array Value} {pc : Nat} {ls : Array Slot} {st0 rest : List Value}
theorem vx_keep {st₀ t T' : State} {L : List Loc} (h0 : st₀.heap = H) (e1 : T'.heap = t.heap) (hS : va_S A0 H0 H locs) (hA : ∀ q, q < H.size → A1 q → A0 q) (hf : ∀ q, free q → A0 q) (hL : ∀ q ∈ L, free q.base) (hF : va_F A1 st₀ t) :
    H.size ≤ T'.heap.size ∧ (∀ q : Nat, q < H.size → ¬ A1 q → T'.heap[q]? = H[q]?) ∧ va_S A0 H0 T'.heap (locs ++ L) := by
  obtain ⟨hz, hk⟩ := hF
  rw [h0] at hz hk
  exact ⟨by rw [e1]; exact hz, fun q h1 h2 => by rw [e1]; exact hk q h1 h2,
    ⟨Nat.le_trans hS.1 (by rw [e1]; exact hz), fun q h1 h2 => by rw [e1, hk q (Nat.lt_of_lt_of_le h1 hS.1) (fun z => h2 (hA q (Nat.lt_of_lt_of_le h1 hS.1) z))]; exact hS.2.1 q h1 h2, fun q hq => by
      rcases List.mem_append.mp hq with h | h
      · exact hS.2.2 q h
      · exact hf _ (hL q h)⟩⟩
theorem vx_calli {S SX : Type} {post : Int32 → S → Prop} {px : SX → Prop} {B : S → State → Prop} {BX : String → SX → State → Prop} {AX : Nat → Prop} (hr : vx_Run p l e R s m args below meth c H locs cells slots mc ms (F0 m pc ls st0) rest (va_Qi post B A1 a) (vx_X px BX AX) free) (hS : va_S A0 H0 H locs) (hA : ∀ q, q < H.size → A1 q → A0 q) (hf : ∀ q, free q → A0 q) (hAX : ∀ q, q < H.size → AX q → A0 q)
    (kx : ∀ (E : String) (ce : Cell) (q9 : Addr) (u : SX) (t : State) (H1 : Heap) (locs1 : List Loc), t.heap = H1 → s.vm.Alike t.vm → px u → BX E u t → H.size ≤ H1.size → (∀ q : Nat, q < H.size → ¬ AX q → H1[q]? = H[q]?) → va_S A0 H0 H1 locs1 → H1[q9]? = some ce → ce.vm = .none → s.vm.findClass E = some ce.cls → vx_W p l e R s m args below meth c H1 locs1 (cells + mc) (slots + ms) Q (F0 m pc ls rest) q9)
    (kk : ∀ (r : Int32) (u : S) (t : State) (H1 : Heap) (locs1 : List Loc), t.heap = H1 → s.vm.Alike t.vm → post r u → B u t → H.size ≤ H1.size → (∀ q : Nat, q < H.size → ¬ A1 q → H1[q]? = H[q]?) → va_S A0 H0 H1 locs1 → W p l e R s m args below meth c H1 locs1 (cells + mc) (slots + ms) Q (F0 m (pc + 3) ls (.int r :: rest))) : W p l e R s m args below meth c H locs cells slots Q (F0 m pc ls st0) := by
  intro T hT X
  rcases hr T hT X with ⟨v, st₀, t, T', L, h0, X', hL, e1, e2, ⟨⟨r, u, hv, hp, hb⟩, hF⟩, st⟩ | ⟨q, st₀, t, T', L, E, ce, h0, X', hL, e1, e2, ⟨u, hp, hb, hF⟩, hce, hcv, hcl, st⟩
  · cases hv
    obtain ⟨k1, k2, k3⟩ := vx_keep h0 e1 hS hA hf hL hF
    obtain ⟨t2, a1, b1⟩ := kk r u t T'.heap (locs ++ L) e1.symm (by rw [← e2]; exact X'.warmed.alike) hp hb k1 k2 k3 T' rfl X'
    exact ⟨t2, st t2 a1, b1⟩
  · obtain ⟨k1, k2, k3⟩ := vx_keep h0 e1 hS hAX hf hL hF
    obtain ⟨t2, a1, b1⟩ := kx E ce q u t T'.heap (locs ++ L) e1.symm (by rw [← e2]; exact X'.warmed.alike) hp hb k1 k2 k3 (by rw [e1]; exact hce) hcv hcl T' rfl X'
    exact ⟨t2, st.trans a1, b1⟩
theorem vx_calll {S SX : Type} {post : Int64 → S → Prop} {px : SX → Prop} {B : S → State → Prop} {BX : String → SX → State → Prop} {AX : Nat → Prop} (hr : vx_Run p l e R s m args below meth c H locs cells slots mc ms (F0 m pc ls st0) rest (va_Ql post B A1 a) (vx_X px BX AX) free) (hS : va_S A0 H0 H locs) (hA : ∀ q, q < H.size → A1 q → A0 q) (hf : ∀ q, free q → A0 q) (hAX : ∀ q, q < H.size → AX q → A0 q)
    (kx : ∀ (E : String) (ce : Cell) (q9 : Addr) (u : SX) (t : State) (H1 : Heap) (locs1 : List Loc), t.heap = H1 → s.vm.Alike t.vm → px u → BX E u t → H.size ≤ H1.size → (∀ q : Nat, q < H.size → ¬ AX q → H1[q]? = H[q]?) → va_S A0 H0 H1 locs1 → H1[q9]? = some ce → ce.vm = .none → s.vm.findClass E = some ce.cls → vx_W p l e R s m args below meth c H1 locs1 (cells + mc) (slots + ms) Q (F0 m pc ls rest) q9)
    (kk : ∀ (r : Int64) (u : S) (t : State) (H1 : Heap) (locs1 : List Loc), t.heap = H1 → s.vm.Alike t.vm → post r u → B u t → H.size ≤ H1.size → (∀ q : Nat, q < H.size → ¬ A1 q → H1[q]? = H[q]?) → va_S A0 H0 H1 locs1 → W p l e R s m args below meth c H1 locs1 (cells + mc) (slots + ms) Q (F0 m (pc + 3) ls (.long r :: rest))) : W p l e R s m args below meth c H locs cells slots Q (F0 m pc ls st0) := by
  intro T hT X
  rcases hr T hT X with ⟨v, st₀, t, T', L, h0, X', hL, e1, e2, ⟨⟨r, u, hv, hp, hb⟩, hF⟩, st⟩ | ⟨q, st₀, t, T', L, E, ce, h0, X', hL, e1, e2, ⟨u, hp, hb, hF⟩, hce, hcv, hcl, st⟩
  · cases hv
    obtain ⟨k1, k2, k3⟩ := vx_keep h0 e1 hS hA hf hL hF
    obtain ⟨t2, a1, b1⟩ := kk r u t T'.heap (locs ++ L) e1.symm (by rw [← e2]; exact X'.warmed.alike) hp hb k1 k2 k3 T' rfl X'
    exact ⟨t2, st t2 a1, b1⟩
  · obtain ⟨k1, k2, k3⟩ := vx_keep h0 e1 hS hAX hf hL hF
    obtain ⟨t2, a1, b1⟩ := kx E ce q u t T'.heap (locs ++ L) e1.symm (by rw [← e2]; exact X'.warmed.alike) hp hb k1 k2 k3 (by rw [e1]; exact hce) hcv hcl T' rfl X'
    exact ⟨t2, st.trans a1, b1⟩
theorem vx_callf {S SX : Type} {post : UInt32 → S → Prop} {px : SX → Prop} {B : S → State → Prop} {BX : String → SX → State → Prop} {AX : Nat → Prop} (hr : vx_Run p l e R s m args below meth c H locs cells slots mc ms (F0 m pc ls st0) rest (va_Qf post B A1 a) (vx_X px BX AX) free) (hS : va_S A0 H0 H locs) (hA : ∀ q, q < H.size → A1 q → A0 q) (hf : ∀ q, free q → A0 q) (hAX : ∀ q, q < H.size → AX q → A0 q)
    (kx : ∀ (E : String) (ce : Cell) (q9 : Addr) (u : SX) (t : State) (H1 : Heap) (locs1 : List Loc), t.heap = H1 → s.vm.Alike t.vm → px u → BX E u t → H.size ≤ H1.size → (∀ q : Nat, q < H.size → ¬ AX q → H1[q]? = H[q]?) → va_S A0 H0 H1 locs1 → H1[q9]? = some ce → ce.vm = .none → s.vm.findClass E = some ce.cls → vx_W p l e R s m args below meth c H1 locs1 (cells + mc) (slots + ms) Q (F0 m pc ls rest) q9)
    (kk : ∀ (r : UInt32) (u : S) (t : State) (H1 : Heap) (locs1 : List Loc), t.heap = H1 → s.vm.Alike t.vm → post r u → B u t → H.size ≤ H1.size → (∀ q : Nat, q < H.size → ¬ A1 q → H1[q]? = H[q]?) → va_S A0 H0 H1 locs1 → W p l e R s m args below meth c H1 locs1 (cells + mc) (slots + ms) Q (F0 m (pc + 3) ls (.float r :: rest))) : W p l e R s m args below meth c H locs cells slots Q (F0 m pc ls st0) := by
  intro T hT X
  rcases hr T hT X with ⟨v, st₀, t, T', L, h0, X', hL, e1, e2, ⟨⟨r, u, hv, hp, hb⟩, hF⟩, st⟩ | ⟨q, st₀, t, T', L, E, ce, h0, X', hL, e1, e2, ⟨u, hp, hb, hF⟩, hce, hcv, hcl, st⟩
  · cases hv
    obtain ⟨k1, k2, k3⟩ := vx_keep h0 e1 hS hA hf hL hF
    obtain ⟨t2, a1, b1⟩ := kk r u t T'.heap (locs ++ L) e1.symm (by rw [← e2]; exact X'.warmed.alike) hp hb k1 k2 k3 T' rfl X'
    exact ⟨t2, st t2 a1, b1⟩
  · obtain ⟨k1, k2, k3⟩ := vx_keep h0 e1 hS hAX hf hL hF
    obtain ⟨t2, a1, b1⟩ := kx E ce q u t T'.heap (locs ++ L) e1.symm (by rw [← e2]; exact X'.warmed.alike) hp hb k1 k2 k3 (by rw [e1]; exact hce) hcv hcl T' rfl X'
    exact ⟨t2, st.trans a1, b1⟩
theorem vx_calld {S SX : Type} {post : UInt64 → S → Prop} {px : SX → Prop} {B : S → State → Prop} {BX : String → SX → State → Prop} {AX : Nat → Prop} (hr : vx_Run p l e R s m args below meth c H locs cells slots mc ms (F0 m pc ls st0) rest (va_Qd post B A1 a) (vx_X px BX AX) free) (hS : va_S A0 H0 H locs) (hA : ∀ q, q < H.size → A1 q → A0 q) (hf : ∀ q, free q → A0 q) (hAX : ∀ q, q < H.size → AX q → A0 q)
    (kx : ∀ (E : String) (ce : Cell) (q9 : Addr) (u : SX) (t : State) (H1 : Heap) (locs1 : List Loc), t.heap = H1 → s.vm.Alike t.vm → px u → BX E u t → H.size ≤ H1.size → (∀ q : Nat, q < H.size → ¬ AX q → H1[q]? = H[q]?) → va_S A0 H0 H1 locs1 → H1[q9]? = some ce → ce.vm = .none → s.vm.findClass E = some ce.cls → vx_W p l e R s m args below meth c H1 locs1 (cells + mc) (slots + ms) Q (F0 m pc ls rest) q9)
    (kk : ∀ (r : UInt64) (u : S) (t : State) (H1 : Heap) (locs1 : List Loc), t.heap = H1 → s.vm.Alike t.vm → post r u → B u t → H.size ≤ H1.size → (∀ q : Nat, q < H.size → ¬ A1 q → H1[q]? = H[q]?) → va_S A0 H0 H1 locs1 → W p l e R s m args below meth c H1 locs1 (cells + mc) (slots + ms) Q (F0 m (pc + 3) ls (.double r :: rest))) : W p l e R s m args below meth c H locs cells slots Q (F0 m pc ls st0) := by
  intro T hT X
  rcases hr T hT X with ⟨v, st₀, t, T', L, h0, X', hL, e1, e2, ⟨⟨r, u, hv, hp, hb⟩, hF⟩, st⟩ | ⟨q, st₀, t, T', L, E, ce, h0, X', hL, e1, e2, ⟨u, hp, hb, hF⟩, hce, hcv, hcl, st⟩
  · cases hv
    obtain ⟨k1, k2, k3⟩ := vx_keep h0 e1 hS hA hf hL hF
    obtain ⟨t2, a1, b1⟩ := kk r u t T'.heap (locs ++ L) e1.symm (by rw [← e2]; exact X'.warmed.alike) hp hb k1 k2 k3 T' rfl X'
    exact ⟨t2, st t2 a1, b1⟩
  · obtain ⟨k1, k2, k3⟩ := vx_keep h0 e1 hS hAX hf hL hF
    obtain ⟨t2, a1, b1⟩ := kx E ce q u t T'.heap (locs ++ L) e1.symm (by rw [← e2]; exact X'.warmed.alike) hp hb k1 k2 k3 (by rw [e1]; exact hce) hcv hcl T' rfl X'
    exact ⟨t2, st.trans a1, b1⟩
theorem vx_callv {S SX : Type} {post : S → Prop} {px : SX → Prop} {B : S → State → Prop} {BX : String → SX → State → Prop} {AX : Nat → Prop} (hr : vx_Run p l e R s m args below meth c H locs cells slots mc ms (F0 m pc ls st0) rest (va_Qv post B A1 a) (vx_X px BX AX) free) (hS : va_S A0 H0 H locs) (hA : ∀ q, q < H.size → A1 q → A0 q) (hf : ∀ q, free q → A0 q) (hAX : ∀ q, q < H.size → AX q → A0 q)
    (kx : ∀ (E : String) (ce : Cell) (q9 : Addr) (u : SX) (t : State) (H1 : Heap) (locs1 : List Loc), t.heap = H1 → s.vm.Alike t.vm → px u → BX E u t → H.size ≤ H1.size → (∀ q : Nat, q < H.size → ¬ AX q → H1[q]? = H[q]?) → va_S A0 H0 H1 locs1 → H1[q9]? = some ce → ce.vm = .none → s.vm.findClass E = some ce.cls → vx_W p l e R s m args below meth c H1 locs1 (cells + mc) (slots + ms) Q (F0 m pc ls rest) q9)
    (kk : ∀ (u : S) (t : State) (H1 : Heap) (locs1 : List Loc), t.heap = H1 → s.vm.Alike t.vm → post u → B u t → H.size ≤ H1.size → (∀ q : Nat, q < H.size → ¬ A1 q → H1[q]? = H[q]?) → va_S A0 H0 H1 locs1 → W p l e R s m args below meth c H1 locs1 (cells + mc) (slots + ms) Q (F0 m (pc + 3) ls (rest))) : W p l e R s m args below meth c H locs cells slots Q (F0 m pc ls st0) := by
  intro T hT X
  rcases hr T hT X with ⟨v, st₀, t, T', L, h0, X', hL, e1, e2, ⟨⟨u, hv, hp, hb⟩, hF⟩, st⟩ | ⟨q, st₀, t, T', L, E, ce, h0, X', hL, e1, e2, ⟨u, hp, hb, hF⟩, hce, hcv, hcl, st⟩
  · cases hv
    obtain ⟨k1, k2, k3⟩ := vx_keep h0 e1 hS hA hf hL hF
    obtain ⟨t2, a1, b1⟩ := kk u t T'.heap (locs ++ L) e1.symm (by rw [← e2]; exact X'.warmed.alike) hp hb k1 k2 k3 T' rfl X'
    exact ⟨t2, st t2 a1, b1⟩
  · obtain ⟨k1, k2, k3⟩ := vx_keep h0 e1 hS hAX hf hL hF
    obtain ⟨t2, a1, b1⟩ := kx E ce q u t T'.heap (locs ++ L) e1.symm (by rw [← e2]; exact X'.warmed.alike) hp hb k1 k2 k3 (by rw [e1]; exact hce) hcv hcl T' rfl X'
    exact ⟨t2, st.trans a1, b1⟩
/-- caught by the row x of this method's table; the rows ahead don't take it -/
theorem vx_catch {own name : String} {E : String} {ce : Cell} {q : Addr} (hown : s.vm.findClass own = some m.cls) (pre : List ExceptionTableEntry) (x : ExceptionTableEntry) (suf : List ExceptionTableEntry) (hsplit : c.exceptionTable.toList = pre ++ x :: suf)
    (hpass : ∀ z ∈ pre, covers z pc = false ∨ (z.catchType ≠ 0 ∧ ∃ nm : String, (Cond.classLink own z.catchType nm).before args s = true ∧ va_Nc E nm s)) (hx : covers x pc = true) (h0 : x.catchType ≠ 0)
    (hlink : (Cond.classLink own x.catchType name).before args s = true) (hcast : (Cond.castable E name).before args s = true) (hcell : H[q]? = some ce) (hv : ce.vm = .none) (hcl : s.vm.findClass E = some ce.cls)
    (kk : W p l e R s m args below meth c H locs cells slots Q (F0 m x.handlerPc ls [.ref q])) : vx_W p l e R s m args below meth c H locs cells slots Q (F0 m pc ls rest) q := by
  intro T hT X
  have hpl : e.platform.magicAccessors = ({} : Platform).magicAccessors := by rw [X.admits.platform]
  obtain ⟨c3, c4, hc3, hc4, hasg⟩ := Cond.castable_spec hcast
  cases Option.some.inj (hc3.symm.trans hcl)
  obtain ⟨c5, hc5, hcl5⟩ := Cond.classLink_spec hown hlink e.platform hpl
  cases Option.some.inj (hc4.symm.trans hc5)
  obtain ⟨vm', X', st⟩ := X.thenCaughtThrough q (g := F0 m pc ls rest) rfl (Steps.refl _) (by rw [hT]; exact hcell) (by rw [hv]; rfl) (by obtain ⟨k9, h9, -⟩ := Vm.findClass_spec hcl; exact ⟨k9, h9⟩) pre x suf hsplit
    (fun z hz => by
      rcases hpass z hz with h | ⟨hz0, nm, hl1, hn1⟩
      · exact Or.inl h
      · obtain ⟨c6, hc6, hcl6⟩ := Cond.classLink_spec hown hl1 e.platform hpl
        obtain ⟨a8, b8, h1, h2, h3⟩ := hn1
        cases Option.some.inj (h1.symm.trans hcl)
        cases Option.some.inj (h2.symm.trans hc6)
        exact Or.inr ⟨hz0, _, hcl6, h3⟩) hx (Or.inr ⟨h0, c4, hcl5, hasg⟩)
  obtain ⟨t, a1, b1⟩ := kk (T.setVm vm') hT X'
  exact ⟨t, st.trans a1, b1⟩
end Rows
section Ends
variable {p : Program} {l : Launch} {e : Env} {R : Room} {s : State} {m : MethodId} {args : Array Value} {below : List Frame} {meth : Method} {c : Code} {H : Heap} {locs : List Loc} {cells slots : Nat} {Q : State → Prop}
variable {mc ms : Nat} {free : Addr → Prop} {A0 A1 : Nat → Prop} {H0 : Heap} {a : Array Value} {ls : Array Slot} {st0 rest : List Value}
variable {Qc : Array Value → State → Outcome → State → Prop} {XC : String → State → State → Prop}
/-- what a body that may throw owes at its end -/
def vx_MQ (below : List Frame) (Qc : Array Value → State → Outcome → State → Prop) (XC : String → State → State → Prop) (a : Array Value) (s : State) (mc ms : Nat) (free : Addr → Prop) : State → Prop := fun t =>
  ∃ o, t.status = .running ∧ Ended t below o ∧ vx_Q Qc XC mc ms free a s o t
theorem vx_ret {g : JFrame} {mc ms : Nat} (k : W p l e R s m args below meth c H locs cells slots (MQ below Qc args s mc ms free) g) : W p l e R s m args below meth c H locs cells slots (vx_MQ below Qc XC args s mc ms free) g := by
  intro T hT X
  obtain ⟨t, a1, o, b1, b2, b3, b4⟩ := k T hT X
  exact ⟨t, a1, o, b1, b2, Or.inl ⟨b3, b4⟩⟩
/-- not caught here: it goes on to the caller -/
theorem vx_widen {g : JFrame} {q : Addr} {k n : Nat} (h1 : cells ≤ k) (h2 : slots ≤ n) (kk : vx_W p l e R s m args below meth c H locs k n Q g q) : vx_W p l e R s m args below meth c H locs cells slots Q g q := fun T hT X => kk T hT (stand_widen X h1 h2)
theorem vx_out {pc : Nat} {E : String} {ce : Cell} {q : Addr} {mc ms : Nat} (hout : ∀ x ∈ c.exceptionTable.toList, covers x pc = false) (hlocks : meth.locks = false) (hcell : H[q]? = some ce) (hv : ce.vm = .none) (hcl : s.vm.findClass E = some ce.cls)
    (hx : ∀ t : State, t.heap = H → s.vm.Alike t.vm → XC E s t) (hf : ∀ z ∈ locs, free z.base) (hc : cells ≤ mc) (hs : slots ≤ ms) :
    vx_W p l e R s m args below meth c H locs cells slots (vx_MQ below Qc XC args s mc ms free) (F0 m pc ls rest) q := by
  intro T hT X
  obtain ⟨st1, hrun, hend, hW, hsm⟩ := X.leaveThrown q (g := F0 m pc ls rest) rfl rfl rfl hout hlocks
  have hcell9 : (T.setFrames (.throwing q :: below)).heap[q]? = some ce := by
    show T.heap[q]? = some ce
    rw [hT]; exact hcell
  exact ⟨_, st1, .threw q, hrun, hend, Or.inr ⟨q, rfl, E, ce, locs, hx _ hT hW.alike, hcell9, hv, hcl, hW, hsm.mono hc hs, hf⟩⟩
theorem vx_frame {U : State} {k n : Nat} (h : s.sameButNew ({ U with vm := s.vm } : State) locs k n) : s.heap.size ≤ U.heap.size ∧ ∀ q : Nat, q < s.heap.size → (∀ z ∈ locs, z.base ≠ q) → U.heap[q]? = s.heap[q]? := by
  obtain ⟨-, h2, -, -, -, h6⟩ := h
  refine ⟨h2, fun q hq hz => ?_⟩
  obtain ⟨c9, e1, e2, e3, e4⟩ := h6 q _ (Array.getElem?_eq_getElem hq)
  have hs : c9.slots = (s.heap[q]).slots := Array.ext_getElem? fun i => e4 i fun hm => hz _ hm rfl
  have h9 : c9 = s.heap[q] := by
    rw [hs] at e2
    exact e2
  have e5 : U.heap[q]? = some c9 := e1
  rw [e5, h9, Array.getElem?_eq_getElem hq]
/-- the words of a throw but the four that speak of the heap -/
def vx_no (w : Cond) : Bool := decide (w ≠ .isRef (.static Bundle.tN "UNASSIGNED_STACK" Bundle.steD)) && decide (w ≠ .isRef (.static Bundle.tN "SUPPRESSED_SENTINEL" Bundle.listD)) && decide (w ≠ .laysStatic Bundle.tN "UNASSIGNED_STACK" Bundle.steD) && decide (w ≠ .laysStatic Bundle.tN "SUPPRESSED_SENTINEL" Bundle.listD)
def vx_at0 (own : String) (ic : Nat) (X : String) (names : List String) : List Cond := (Bundle.ownAtoms0 own ic X names).filter vx_no
def vx_atS (own : String) (ic : Nat) (X : String) (names : List String) : List Cond := (Bundle.ownAtoms own ic X names).filter vx_no
/-- a word that the tables alone decide, or a good one -/
def vx_ot (w : Cond) : Bool := w.onTables || goodWord w
theorem vx_ot_at {args a' : Array Value} {s U : State} {w : Cond} (hW : s.WarmedH U.vm) (hvm : s.vm = U.vm) (hg : vx_ot w = true) (h : w.before args s = true) : w.before a' U = true := by
  simp only [vx_ot, Bool.or_eq_true] at hg
  rcases hg with hg | hg
  · exact va_tabs hg hvm h
  · exact word_at hW (good_of_word hg) h
/-- a list's words: the good ones out of the method's own list, the others by premises of their own -/
theorem vx_hat {args : Array Value} {s : State} {L B : List Cond} (h1 : ∀ w ∈ L.filter goodWord, w.before args s = true) (h2 : ∀ w ∈ L.filter (fun w => !goodWord w), w ∈ B) (h3 : ∀ w ∈ B, w.before args s = true) : ∀ w ∈ L, w.before args s = true := by
  intro w hw
  by_cases g : goodWord w = true
  · exact h1 w (List.mem_filter.mpr ⟨hw, g⟩)
  · refine h3 w (h2 w (List.mem_filter.mpr ⟨hw, ?_⟩))
    show (!goodWord w) = true
    cases hgw : goodWord w
    · rfl
    · exact absurd hgw g
theorem vx_c {args : Array Value} {s : State} {w : Cond} {B : List Cond} (h : w.before args s = true) (t : ∀ w ∈ B, w.before args s = true) : ∀ w' ∈ w :: B, w'.before args s = true := fun w' h' => (List.mem_cons.mp h').elim (fun e => by rw [e]; exact h) (t w')
theorem vx_n {args : Array Value} {s : State} : ∀ w ∈ ([] : List Cond), w.before args s = true := fun _ h => nomatch h
theorem vx_own {args : Array Value} {s : State} {L : List Cond} (h1 : ∀ w ∈ L.filter vx_no, w.before args s = true)
    (hU : (Cond.isRef (.static Bundle.tN "UNASSIGNED_STACK" Bundle.steD)).before args s = true) (hN : (Cond.isRef (.static Bundle.tN "SUPPRESSED_SENTINEL" Bundle.listD)).before args s = true)
    (lU : (Cond.laysStatic Bundle.tN "UNASSIGNED_STACK" Bundle.steD).before args s = true) (lN : (Cond.laysStatic Bundle.tN "SUPPRESSED_SENTINEL" Bundle.listD).before args s = true) : ∀ w ∈ L, w.before args s = true := by
  intro w hw
  by_cases e1 : w = .isRef (.static Bundle.tN "UNASSIGNED_STACK" Bundle.steD)
  · rw [e1]; exact hU
  · by_cases e2 : w = .isRef (.static Bundle.tN "SUPPRESSED_SENTINEL" Bundle.listD)
    · rw [e2]; exact hN
    · by_cases e3 : w = .laysStatic Bundle.tN "UNASSIGNED_STACK" Bundle.steD
      · rw [e3]; exact lU
      · by_cases e4 : w = .laysStatic Bundle.tN "SUPPRESSED_SENTINEL" Bundle.listD
        · rw [e4]; exact lN
        · exact h1 w (List.mem_filter.mpr ⟨hw, by unfold vx_no; rw [decide_eq_true e1, decide_eq_true e2, decide_eq_true e3, decide_eq_true e4]; rfl⟩)
/-- where a static field lies, its class's statics cell in H -/
def vx_L (C n d : String) (A : Nat → Prop) (U : State) (H : Heap) : Prop := ∃ (c : ClassId) (k : Class) (i : Nat) (f : Field) (a : Nat) (cell : Cell), U.vm.findClass C = some c ∧ U.fieldFound? C n d = some (c, k, i, f) ∧ f.isStatic = true ∧ k.statics = some a ∧ H[a]? = some cell ∧ cell.vm.isStatics = true ∧ cell.cls = c ∧ f.slot < cell.slots.size ∧ k.staticTypes[f.slot]? = some f.type ∧ ¬ A a
theorem vx_L.moved {C n d : String} {A : Nat → Prop} {u U : State} {H : Heap} (hvm : u.vm.Alike U.vm) (h : vx_L C n d A u H) : vx_L C n d A U H := by
  obtain ⟨c, k, i, f, a, cell, h1, h2, h3, h4, h5, h6, h7, h8, h9, h10⟩ := h
  obtain ⟨k', hi', he⟩ := State.fieldFound?_setVm hvm h2
  exact ⟨c, k', i, f, a, cell, by rw [hvm.findClass]; exact h1, hi', h3, by rw [he]; exact h4, h5, h6, h7, h8, by rw [he]; exact h9, h10⟩
theorem vx_L.kept {C n d : String} {A : Nat → Prop} {U : State} {H H1 : Heap} (h : vx_L C n d A U H) (hq : ∀ a : Nat, a < H.size → ¬ A a → H1[a]? = H[a]?) : vx_L C n d A U H1 := by
  obtain ⟨c, k, i, f, a, cell, h1, h2, h3, h4, h5, h6, h7, h8, h9, h10⟩ := h
  exact ⟨c, k, i, f, a, cell, h1, h2, h3, h4, by rw [hq a (Array.getElem?_eq_some_iff.mp h5).1 h10]; exact h5, h6, h7, h8, h9, h10⟩
theorem vx_L.narrow {C n d : String} {A B : Nat → Prop} {U : State} {H : Heap} (h : vx_L C n d A U H) (hAB : ∀ q, B q → A q) : vx_L C n d B U H := by
  obtain ⟨c, k, i, f, a, cell, h1, h2, h3, h4, h5, h6, h7, h8, h9, h10⟩ := h
  exact ⟨c, k, i, f, a, cell, h1, h2, h3, h4, h5, h6, h7, h8, h9, fun z => h10 (hAB _ z)⟩
theorem vx_L.word {C n d : String} {A : Nat → Prop} {s : State} {args : Array Value} (h : vx_L C n d A s s.heap) : (Cond.laysStatic C n d).before args s = true := by
  obtain ⟨c, k, i, f, a, cell, h1, h2, h3, h4, h5, h6, h7, h8, h9, -⟩ := h
  show (Cond.laysStatic C n d).holds args s none s [] = true
  exact Cond.laysStatic_of h1 h2 h3 h4 h5 h6 h7 h8 h9
/-- .. and what it holds: null or some reference -/
def vx_Zq (C n d : String) (A : Nat → Prop) (U : State) (H : Heap) : Prop := va_Zq C n d A U H ∧ vx_L C n d A U H
theorem vx_Zq.moved {C n d : String} {A : Nat → Prop} {u U : State} {H : Heap} (hvm : u.vm.Alike U.vm) (h : vx_Zq C n d A u H) : vx_Zq C n d A U H := ⟨va_Zq.moved hvm h.1, vx_L.moved hvm h.2⟩
theorem vx_Zq.kept {C n d : String} {A : Nat → Prop} {U : State} {H H1 : Heap} (h : vx_Zq C n d A U H) (hq : ∀ a : Nat, a < H.size → ¬ A a → H1[a]? = H[a]?) : vx_Zq C n d A U H1 := ⟨va_Zq.kept h.1 hq, vx_L.kept h.2 hq⟩
theorem vx_Zq.narrow {C n d : String} {A B : Nat → Prop} {U : State} {H : Heap} (h : vx_Zq C n d A U H) (hAB : ∀ q, B q → A q) : vx_Zq C n d B U H := ⟨va_Zq.narrow h.1 hAB, vx_L.narrow h.2 hAB⟩
theorem vx_Zqof {args : Array Value} {s : State} {C n d : String} {A : Nat → Prop} (hl : (Cond.laysStatic C n d).before args s = true) (hini : (Cond.initialized C).before args s = true) (h : (Cond.isRef (.static C n d)).before args s = true) (hA : ∀ a : Nat, a < s.heap.size → ¬ A a) : vx_Zq C n d A s s.heap := by
  refine ⟨va_Zqof hl hini h hA, ?_⟩
  obtain ⟨c, k, i, f, a, cell, h1, h2, h3, h4, h5, h6, h7, h8, h9⟩ := Cond.laysStatic_spec hl
  exact ⟨c, k, i, f, a, cell, h1, h2, h3, h4, h5, h6, h7, h8, h9, hA a (Array.getElem?_eq_some_iff.mp h5).1⟩
theorem vx_isRef {C n d : String} {v : Value} {A : Nat → Prop} {s : State} {args : Array Value} (h : va_Z C n d v A s s.heap) (hv : v.isRef = true) : (Cond.isRef (.static C n d)).before args s = true := by
  obtain ⟨cf, kf, fi, f, a, cell, h1, h2, h3, h4, h5, h6, h7, -⟩ := h
  have he : (Term.static C n d).eval args s none [] s = some v := by
    simp [Term.eval, State.fieldNamed?, h1, h2, h4, h5, h6, h7]
  simp only [Cond.before, Cond.holds, Cond.value, he]
  cases v <;> simp_all [Value.isRef]
theorem vx_isRefq {C n d : String} {A : Nat → Prop} {s : State} {args : Array Value} (h : va_Zq C n d A s s.heap) : (Cond.isRef (.static C n d)).before args s = true := by
  rcases h with h | ⟨t, h⟩
  · exact vx_isRef h rfl
  · exact vx_isRef h rfl
/-- the same frame, seen from here: as if the method were called anew in this heap -/
theorem vx_rebase {T : State} (X : Stand p l e R s m args below meth c T locs cells slots) {R' : Room} (hf : R'.frames ≤ R.frames) (hl : R'.locals ≤ R.locals) (hc : cells + R'.cells ≤ R.cells) (hs : slots + R'.slots ≤ R.slots) :
    Stand p l e R' ((T.setVm s.vm).setFrames (.invoking m args :: below)) m args below meth c T [] 0 0 := by
  have htop : (T.setVm s.vm).topJava?.isSome := X.here.top
  have hF : ((T.setVm s.vm).setFrames (.invoking m args :: below)).frames = .invoking m args :: below := State.frames_setFrames _ (State.cur_lt_of_top htop)
  obtain ⟨g₀, hg0⟩ := Option.isSome_iff_exists.mp htop
  obtain ⟨r, hr⟩ := State.topJava?_eq_some.mp hg0
  have hl9 : e.platform.stackLimits (T.setVm s.vm).me = e.platform.stackLimits s.me := X.limits
  have hb9 : (T.setVm s.vm).me.stackBytes = s.me.stackBytes := X.bytes
  refine ⟨X.admits, X.cas, X.clock, hF, ?_, X.hears, X.method, X.code, X.here, X.tail, X.warmed, ?_, ?_, ?_⟩
  · have h := X.room
    have hU : ((T.setVm s.vm).setFrames (.invoking m args :: below)).localsInUse = s.localsInUse := by
      rw [State.localsInUse_invoking hF (meth := meth) (c := c) X.method X.code, State.localsInUse_invoking X.frames X.method X.code]
    simp only [State.hasRoom, Bool.and_eq_true, decide_eq_true_eq] at h ⊢
    obtain ⟨⟨⟨⟨h1, h2, h3, h4, h5, h6⟩, h7⟩, h8⟩, h9⟩ := h
    rw [X.frames, List.length_cons] at h2 h3
    have q1 := X.heapSize
    have q2 := X.used
    simp only [hF, hU, List.length_cons, State.stackLimits_setFrames, State.stackBytes_setFrames, hl9, hb9]
    refine ⟨⟨⟨⟨by omega, by omega, by omega, by omega, by omega, h6⟩, ?_⟩, ?_⟩, X.book⟩
    · show T.heap.size + R'.cells ≤ e.platform.maxCells
      omega
    · show T.slotsUsed + R'.slots ≤ e.platform.maxSlots
      omega
  · rw [State.stackLimits_setFrames]; rfl
  · rw [State.stackBytes_setFrames]; rfl
  · refine ⟨?_, Nat.le_refl _, Nat.le_refl _, ?_, ?_, fun a c9 h9 => ⟨c9, h9, rfl, rfl, fun _ _ => rfl⟩⟩
    · obtain ⟨t, ht, -⟩ := State.frames_cons hr
      show T.setVm s.vm = { ((T.setVm s.vm).setFrames (.invoking m args :: below)).setFrames (T.setVm s.vm).frames with heap := T.heap, slotsUsed := T.slotsUsed }
      rw [State.setFrames_setFrames, State.setFrames_self ht]
      rfl
    · show T.slotsUsed = T.slotsUsed + ((T.heap.toList.drop T.heap.size).map (·.slots.size)).sum
      rw [List.drop_eq_nil_of_le (Nat.le_of_eq Array.length_toList)]
      rfl
    · show ((T.heap.toList.drop T.heap.size).map (·.slots.size)).sum ≤ 0
      rw [List.drop_eq_nil_of_le (Nat.le_of_eq Array.length_toList)]
      exact Nat.le_refl _
/-- 'throw new E()': new; dup; invokespecial; athrow -/
theorem vx_throw0 {cc : ByteArray} {pc : Nat} (hexec : p.tables.exec = Jvm.exec) (hb : c.code = cc) (hl : l.stackTraces = false) {own cls : String} {names : List String} {ik ic mc ms : Nat} {A : Nat → Prop}
    (hown : s.vm.findClass own = some m.cls) (hcls : Bundle.fit cls = true) (hnames : ∀ n ∈ names, Bundle.fit n = true)
    (hk : (Cond.classLink own ik cls).before args s = true) (hini : (Cond.initialized cls).before args s = true) (hat : ∀ w ∈ vx_at0 own ic cls names, w.before args s = true)
    (hgood : ∀ w ∈ Cond.classLink own ik cls :: Cond.initialized cls :: vx_at0 own ic cls names, vx_ot w = true)
    (hU : vx_Zq Bundle.tN "UNASSIGNED_STACK" Bundle.steD A s s.heap) (hN : vx_Zq Bundle.tN "SUPPRESSED_SENTINEL" Bundle.listD A s s.heap) (hS : va_S A s.heap H locs) (hsize : ls.size = c.maxLocals)
    (d0 : decode cc pc = .ok (.new ik, 3)) (d3 : decode cc (pc + 3) = .ok (.dup, 1)) (d4 : decode cc (pc + 4) = .ok (.invokespecial ic, 3)) (d7 : decode cc (pc + 7) = .ok (.athrow, 1))
    (hout : ∀ x ∈ c.exceptionTable.toList, covers x (pc + 7) = false)
    (hRframes : names.length + 3 < R.frames) (hRlocals : (rest.map fun v => v.category).sum + (13 * (names.length + 1) + 42) ≤ R.locals) (hRcells : cells + 1 ≤ R.cells) (hRslots : slots + 6 ≤ R.slots) (hlocks : meth.locks = false)
    (hx : ∀ t : State, s.vm.Alike t.vm → H.size ≤ t.heap.size → (∀ q : Nat, q < H.size → t.heap[q]? = H[q]?) → XC cls s t)
    (hf : ∀ z ∈ locs, free z.base) (hc : cells + 1 ≤ mc) (hs : slots + 6 ≤ ms) :
    W p l e R s m args below meth c H locs cells slots (vx_MQ below Qc XC args s mc ms free) (F0 m pc ls rest) := by
  intro T hT X
  have htr : e.platform.stackTraces = false := (show e.platform.stackTraces = l.stackTraces by rw [X.admits.platform]).trans hl
  have Y := vx_rebase X (R' := { frames := R.frames, locals := R.locals, cells := 1, slots := 6 }) (Nat.le_refl _) (Nat.le_refl _) hRcells hRslots
  obtain ⟨s', hA⟩ : ∃ z, z = (T.setVm s.vm).setFrames (.invoking m args :: below) := ⟨_, rfl⟩
  rw [← hA] at Y
  have hvm : s'.vm = s.vm := by rw [hA]; rfl
  have hhp : s'.heap = H := by rw [hA]; exact hT
  have hW0 : s.WarmedH s'.vm := by rw [hvm]; exact State.WarmedH.refl s
  have hat' : ∀ w ∈ vx_at0 own ic cls names, w.before args s' = true := fun w hw => vx_ot_at hW0 hvm.symm (hgood w (List.mem_cons_of_mem _ (List.mem_cons_of_mem _ hw))) (hat w hw)
  have hk' : (Cond.classLink own ik cls).before args s' = true := vx_ot_at hW0 hvm.symm (hgood _ List.mem_cons_self) hk
  have hini' : (Cond.initialized cls).before args s' = true := vx_ot_at hW0 hvm.symm (hgood _ (List.mem_cons_of_mem _ List.mem_cons_self)) hini
  have hU' : vx_Zq Bundle.tN "UNASSIGNED_STACK" Bundle.steD A s' s'.heap := by rw [hhp]; exact vx_Zq.moved hW0.alike (hU.kept hS.2.1)
  have hN' : vx_Zq Bundle.tN "SUPPRESSED_SENTINEL" Bundle.listD A s' s'.heap := by rw [hhp]; exact vx_Zq.moved hW0.alike (hN.kept hS.2.1)
  have h : ∀ w ∈ Bundle.ownAtoms0 own ic cls names, w.before args s' = true := vx_own hat' (vx_isRefq hU'.1) (vx_isRefq hN'.1) hU'.2.word hN'.2.word
  have hown' : s'.vm.findClass own = some m.cls := by rw [hvm]; exact hown
  have hins : (Cond.instantiable cls 6).before args s' = true := h _ (by simp [Bundle.ownAtoms0])
  obtain ⟨vm₁, cX, kX, hfX, hkX, -, -, X₁, st1⟩ := Y.newCold hexec (own := own) (C := cls) (index := ik) (n := 6) hown' hk' hins hini'
    (g := F0 m pc ls rest) rfl (by rw [hb]; exact d0) (Nat.le_refl _) (Nat.le_refl _)
  generalize hT1 : (T.setVm vm₁).pushCell { cls := cX, slots := kX.instanceTypes.map defaultValue, vm := .none } = T1 at X₁ st1
  have hcat : (Value.ref T.heap.size).category = 1 := rfl
  have hcellA : T1.heap[T.heap.size]? = some (freshCell cX kX) := by rw [← hT1]; exact State.heap_pushCell_size _ _
  have d3' : decode c.code (pc + 3) = .ok (.dup, 1) := by rw [hb]; exact d3
  obtain ⟨U, hsteps, hrun, hend, hW, hsame, ce, hce, hO⟩ := X₁.ctorThrow0 hexec htr (own := own) (cls := cls) (names := names) (ic := ic) hown' hcls hnames h (fun x hx => nomatch hx) hfX hkX hcellA (by rw [hhp, hT]; exact Nat.le_refl _)
    (g := { method := m, pc := pc + 4, locals := ls, stack := .ref T.heap.size :: .ref T.heap.size :: rest, locked := none }) rfl hsize rfl rfl (rest := rest) rfl
    (by rw [hb]; exact d4) (by rw [hb]; exact d7) hout hRframes (by simp only [List.map_cons, List.sum_cons, hcat]; omega) hlocks
  obtain ⟨f1, f2⟩ := vx_frame hsame
  rw [hhp] at f1 f2
  have hWs : s.WarmedH U.vm := State.WarmedH.trans hW0 hW
  have hcl : s.vm.findClass cls = some ce.cls := by
    have h9 := hO.cls
    rw [hvm] at h9
    exact h9
  have hall : s.sameButNew ({ U with vm := s.vm } : State) locs mc ms := by
    subst hA
    obtain ⟨e1, e2⟩ := hsame
    rw [State.setFrames_setFrames] at e1
    have h2 : (T.setVm s.vm).sameButNew ({ U with vm := s.vm } : State) [] (0 + 1) (0 + 6) := ⟨e1, e2⟩
    have h3 := X.same.trans h2
    rw [List.append_nil] at h3
    exact h3.mono hc hs
  refine ⟨U, ?_, .threw T.heap.size, hrun, hend, Or.inr ⟨T.heap.size, rfl, cls, ce, locs, hx U hWs.alike f1 (fun q hq => f2 q hq (fun z hz => nomatch hz)), hce, hO.vm, hcl, hWs, hall, hf⟩⟩
  refine st1 _ ?_
  show Steps p.tables e below (T1.setTop { method := m, pc := pc + 3, locals := ls, stack := .ref T.heap.size :: rest, locked := none }) _
  jvm_step X₁.here [X₁.here.top, hexec, d3', Value.category]
  exact hsteps
/-- 'throw new E("text")': new; dup; ldc; invokespecial; athrow -/
theorem vx_throwS {cc : ByteArray} {pc : Nat} (hexec : p.tables.exec = Jvm.exec) (hb : c.code = cc) (hl : l.stackTraces = false) {own cls text : String} {names : List String} {ik is ic mc ms sa : Nat} {A : Nat → Prop}
    (hown : s.vm.findClass own = some m.cls) (hcls : Bundle.fit cls = true) (hnames : ∀ n ∈ names, Bundle.fit n = true)
    (hk : (Cond.classLink own ik cls).before args s = true) (hini : (Cond.initialized cls).before args s = true) (hstr : vk_R own is text sa s) (hat : ∀ w ∈ vx_atS own ic cls names, w.before args s = true)
    (hgood : ∀ w ∈ Cond.classLink own ik cls :: Cond.initialized cls :: vx_atS own ic cls names, vx_ot w = true)
    (hU : vx_Zq Bundle.tN "UNASSIGNED_STACK" Bundle.steD A s s.heap) (hN : vx_Zq Bundle.tN "SUPPRESSED_SENTINEL" Bundle.listD A s s.heap) (hS : va_S A s.heap H locs) (hsize : ls.size = c.maxLocals)
    (d0 : decode cc pc = .ok (.new ik, 3)) (d3 : decode cc (pc + 3) = .ok (.dup, 1)) (d4 : decode cc (pc + 4) = .ok (.ldc is, 2)) (d6 : decode cc (pc + 6) = .ok (.invokespecial ic, 3)) (d9 : decode cc (pc + 9) = .ok (.athrow, 1))
    (hout : ∀ x ∈ c.exceptionTable.toList, covers x (pc + 9) = false)
    (hRframes : names.length + 3 < R.frames) (hRlocals : (rest.map fun v => v.category).sum + (13 * (names.length + 1) + 43) ≤ R.locals) (hRcells : cells + 1 ≤ R.cells) (hRslots : slots + 6 ≤ R.slots) (hlocks : meth.locks = false)
    (hx : ∀ t : State, s.vm.Alike t.vm → H.size ≤ t.heap.size → (∀ q : Nat, q < H.size → t.heap[q]? = H[q]?) → XC cls s t)
    (hf : ∀ z ∈ locs, free z.base) (hc : cells + 1 ≤ mc) (hs : slots + 6 ≤ ms) :
    W p l e R s m args below meth c H locs cells slots (vx_MQ below Qc XC args s mc ms free) (F0 m pc ls rest) := by
  intro T hT X
  have htr : e.platform.stackTraces = false := (show e.platform.stackTraces = l.stackTraces by rw [X.admits.platform]).trans hl
  have Y := vx_rebase X (R' := { frames := R.frames, locals := R.locals, cells := 1, slots := 6 }) (Nat.le_refl _) (Nat.le_refl _) hRcells hRslots
  obtain ⟨s', hA⟩ : ∃ z, z = (T.setVm s.vm).setFrames (.invoking m args :: below) := ⟨_, rfl⟩
  rw [← hA] at Y
  have hvm : s'.vm = s.vm := by rw [hA]; rfl
  have hhp : s'.heap = H := by rw [hA]; exact hT
  have hW0 : s.WarmedH s'.vm := by rw [hvm]; exact State.WarmedH.refl s
  have hat' : ∀ w ∈ vx_atS own ic cls names, w.before args s' = true := fun w hw => vx_ot_at hW0 hvm.symm (hgood w (List.mem_cons_of_mem _ (List.mem_cons_of_mem _ hw))) (hat w hw)
  have hk' : (Cond.classLink own ik cls).before args s' = true := vx_ot_at hW0 hvm.symm (hgood _ List.mem_cons_self) hk
  have hini' : (Cond.initialized cls).before args s' = true := vx_ot_at hW0 hvm.symm (hgood _ (List.mem_cons_of_mem _ List.mem_cons_self)) hini
  have hU' : vx_Zq Bundle.tN "UNASSIGNED_STACK" Bundle.steD A s' s'.heap := by rw [hhp]; exact vx_Zq.moved hW0.alike (hU.kept hS.2.1)
  have hN' : vx_Zq Bundle.tN "SUPPRESSED_SENTINEL" Bundle.listD A s' s'.heap := by rw [hhp]; exact vx_Zq.moved hW0.alike (hN.kept hS.2.1)
  have h : ∀ w ∈ Bundle.ownAtoms own ic cls names, w.before args s' = true := vx_own hat' (vx_isRefq hU'.1) (vx_isRefq hN'.1) hU'.2.word hN'.2.word
  have hown' : s'.vm.findClass own = some m.cls := by rw [hvm]; exact hown
  have hins : (Cond.instantiable cls 6).before args s' = true := h _ (by simp [Bundle.ownAtoms])
  obtain ⟨vm₁, cX, kX, hfX, hkX, -, -, X₁, st1⟩ := Y.newCold hexec (own := own) (C := cls) (index := ik) (n := 6) hown' hk' hins hini'
    (g := F0 m pc ls rest) rfl (by rw [hb]; exact d0) (Nat.le_refl _) (Nat.le_refl _)
  generalize hT1 : (T.setVm vm₁).pushCell { cls := cX, slots := kX.instanceTypes.map defaultValue, vm := .none } = T1 at X₁ st1
  have hcat : (Value.ref T.heap.size).category = 1 := rfl
  have hcellA : T1.heap[T.heap.size]? = some (freshCell cX kX) := by rw [← hT1]; exact State.heap_pushCell_size _ _
  have d3' : decode c.code (pc + 3) = .ok (.dup, 1) := by rw [hb]; exact d3
  have d4' : decode c.code (pc + 4) = .ok (.ldc is, 2) := by rw [hb]; exact d4
  have hstr' : vk_R own is text sa s' := vk_R.warm hW0 hstr
  obtain ⟨U, hsteps, hrun, hend, hW, hsame, ce, hce, hO⟩ := X₁.ctorThrowS hexec htr (own := own) (cls := cls) (names := names) (ic := ic) hown' hcls hnames h (fun x hx => nomatch hx) hfX hkX hcellA (by rw [hhp, hT]; exact Nat.le_refl _) (msg := .ref sa) rfl
    (g := { method := m, pc := pc + 6, locals := ls, stack := .ref sa :: .ref T.heap.size :: .ref T.heap.size :: rest, locked := none }) rfl hsize rfl rfl (rest := rest) rfl
    (by rw [hb]; exact d6) (by rw [hb]; exact d9) hout hRframes (by simp only [List.map_cons, List.sum_cons, hcat]; omega) hlocks
  obtain ⟨f1, f2⟩ := vx_frame hsame
  rw [hhp] at f1 f2
  have hWs : s.WarmedH U.vm := State.WarmedH.trans hW0 hW
  have hcl : s.vm.findClass cls = some ce.cls := by
    have h9 := hO.cls
    rw [hvm] at h9
    exact h9
  have hall : s.sameButNew ({ U with vm := s.vm } : State) locs mc ms := by
    subst hA
    obtain ⟨e1, e2⟩ := hsame
    rw [State.setFrames_setFrames] at e1
    have h2 : (T.setVm s.vm).sameButNew ({ U with vm := s.vm } : State) [] (0 + 1) (0 + 6) := ⟨e1, e2⟩
    have h3 := X.same.trans h2
    rw [List.append_nil] at h3
    exact h3.mono hc hs
  refine ⟨U, ?_, .threw T.heap.size, hrun, hend, Or.inr ⟨T.heap.size, rfl, cls, ce, locs, hx U hWs.alike f1 (fun q hq => f2 q hq (fun z hz => nomatch hz)), hce, hO.vm, hcl, hWs, hall, hf⟩⟩
  refine st1 _ ?_
  show Steps p.tables e below (T1.setTop { method := m, pc := pc + 3, locals := ls, stack := .ref T.heap.size :: rest, locked := none }) _
  jvm_step X₁.here [X₁.here.top, hexec, d3', Value.category]
  exact X₁.ldcString hexec (own := own) (text := text) (index := is) (a := sa) hown' hstr'.1 hstr'.2
    (g := { method := m, pc := pc + 4, locals := ls, stack := .ref T.heap.size :: .ref T.heap.size :: rest, locked := none }) rfl d4' _ hsteps
/-- 'throw new E("text")', the text by a wide index -/
theorem vx_throwSW {cc : ByteArray} {pc : Nat} (hexec : p.tables.exec = Jvm.exec) (hb : c.code = cc) (hl : l.stackTraces = false) {own cls text : String} {names : List String} {ik is ic mc ms sa : Nat} {A : Nat → Prop}
    (hown : s.vm.findClass own = some m.cls) (hcls : Bundle.fit cls = true) (hnames : ∀ n ∈ names, Bundle.fit n = true)
    (hk : (Cond.classLink own ik cls).before args s = true) (hini : (Cond.initialized cls).before args s = true) (hstr : vk_R own is text sa s) (hat : ∀ w ∈ vx_atS own ic cls names, w.before args s = true)
    (hgood : ∀ w ∈ Cond.classLink own ik cls :: Cond.initialized cls :: vx_atS own ic cls names, vx_ot w = true)
    (hU : vx_Zq Bundle.tN "UNASSIGNED_STACK" Bundle.steD A s s.heap) (hN : vx_Zq Bundle.tN "SUPPRESSED_SENTINEL" Bundle.listD A s s.heap) (hS : va_S A s.heap H locs) (hsize : ls.size = c.maxLocals)
    (d0 : decode cc pc = .ok (.new ik, 3)) (d3 : decode cc (pc + 3) = .ok (.dup, 1)) (d4 : decode cc (pc + 4) = .ok (.ldc_w is, 3)) (d7 : decode cc (pc + 7) = .ok (.invokespecial ic, 3)) (d10 : decode cc (pc + 10) = .ok (.athrow, 1))
    (hout : ∀ x ∈ c.exceptionTable.toList, covers x (pc + 10) = false)
    (hRframes : names.length + 3 < R.frames) (hRlocals : (rest.map fun v => v.category).sum + (13 * (names.length + 1) + 43) ≤ R.locals) (hRcells : cells + 1 ≤ R.cells) (hRslots : slots + 6 ≤ R.slots) (hlocks : meth.locks = false)
    (hx : ∀ t : State, s.vm.Alike t.vm → H.size ≤ t.heap.size → (∀ q : Nat, q < H.size → t.heap[q]? = H[q]?) → XC cls s t)
    (hf : ∀ z ∈ locs, free z.base) (hc : cells + 1 ≤ mc) (hs : slots + 6 ≤ ms) :
    W p l e R s m args below meth c H locs cells slots (vx_MQ below Qc XC args s mc ms free) (F0 m pc ls rest) := by
  intro T hT X
  have htr : e.platform.stackTraces = false := (show e.platform.stackTraces = l.stackTraces by rw [X.admits.platform]).trans hl
  have Y := vx_rebase X (R' := { frames := R.frames, locals := R.locals, cells := 1, slots := 6 }) (Nat.le_refl _) (Nat.le_refl _) hRcells hRslots
  obtain ⟨s', hA⟩ : ∃ z, z = (T.setVm s.vm).setFrames (.invoking m args :: below) := ⟨_, rfl⟩
  rw [← hA] at Y
  have hvm : s'.vm = s.vm := by rw [hA]; rfl
  have hhp : s'.heap = H := by rw [hA]; exact hT
  have hW0 : s.WarmedH s'.vm := by rw [hvm]; exact State.WarmedH.refl s
  have hat' : ∀ w ∈ vx_atS own ic cls names, w.before args s' = true := fun w hw => vx_ot_at hW0 hvm.symm (hgood w (List.mem_cons_of_mem _ (List.mem_cons_of_mem _ hw))) (hat w hw)
  have hk' : (Cond.classLink own ik cls).before args s' = true := vx_ot_at hW0 hvm.symm (hgood _ List.mem_cons_self) hk
  have hini' : (Cond.initialized cls).before args s' = true := vx_ot_at hW0 hvm.symm (hgood _ (List.mem_cons_of_mem _ List.mem_cons_self)) hini
  have hU' : vx_Zq Bundle.tN "UNASSIGNED_STACK" Bundle.steD A s' s'.heap := by rw [hhp]; exact vx_Zq.moved hW0.alike (hU.kept hS.2.1)
  have hN' : vx_Zq Bundle.tN "SUPPRESSED_SENTINEL" Bundle.listD A s' s'.heap := by rw [hhp]; exact vx_Zq.moved hW0.alike (hN.kept hS.2.1)
  have h : ∀ w ∈ Bundle.ownAtoms own ic cls names, w.before args s' = true := vx_own hat' (vx_isRefq hU'.1) (vx_isRefq hN'.1) hU'.2.word hN'.2.word
  have hown' : s'.vm.findClass own = some m.cls := by rw [hvm]; exact hown
  have hins : (Cond.instantiable cls 6).before args s' = true := h _ (by simp [Bundle.ownAtoms])
  obtain ⟨vm₁, cX, kX, hfX, hkX, -, -, X₁, st1⟩ := Y.newCold hexec (own := own) (C := cls) (index := ik) (n := 6) hown' hk' hins hini'
    (g := F0 m pc ls rest) rfl (by rw [hb]; exact d0) (Nat.le_refl _) (Nat.le_refl _)
  generalize hT1 : (T.setVm vm₁).pushCell { cls := cX, slots := kX.instanceTypes.map defaultValue, vm := .none } = T1 at X₁ st1
  have hcat : (Value.ref T.heap.size).category = 1 := rfl
  have hcellA : T1.heap[T.heap.size]? = some (freshCell cX kX) := by rw [← hT1]; exact State.heap_pushCell_size _ _
  have d3' : decode c.code (pc + 3) = .ok (.dup, 1) := by rw [hb]; exact d3
  have d4' : decode c.code (pc + 4) = .ok (.ldc_w is, 3) := by rw [hb]; exact d4
  have hstr' : vk_R own is text sa s' := vk_R.warm hW0 hstr
  obtain ⟨U, hsteps, hrun, hend, hW, hsame, ce, hce, hO⟩ := X₁.ctorThrowS hexec htr (own := own) (cls := cls) (names := names) (ic := ic) hown' hcls hnames h (fun x hx => nomatch hx) hfX hkX hcellA (by rw [hhp, hT]; exact Nat.le_refl _) (msg := .ref sa) rfl
    (g := { method := m, pc := pc + 7, locals := ls, stack := .ref sa :: .ref T.heap.size :: .ref T.heap.size :: rest, locked := none }) rfl hsize rfl rfl (rest := rest) rfl
    (by rw [hb]; exact d7) (by rw [hb]; exact d10) hout hRframes (by simp only [List.map_cons, List.sum_cons, hcat]; omega) hlocks
  obtain ⟨f1, f2⟩ := vx_frame hsame
  rw [hhp] at f1 f2
  have hWs : s.WarmedH U.vm := State.WarmedH.trans hW0 hW
  have hcl : s.vm.findClass cls = some ce.cls := by
    have h9 := hO.cls
    rw [hvm] at h9
    exact h9
  have hall : s.sameButNew ({ U with vm := s.vm } : State) locs mc ms := by
    subst hA
    obtain ⟨e1, e2⟩ := hsame
    rw [State.setFrames_setFrames] at e1
    have h2 : (T.setVm s.vm).sameButNew ({ U with vm := s.vm } : State) [] (0 + 1) (0 + 6) := ⟨e1, e2⟩
    have h3 := X.same.trans h2
    rw [List.append_nil] at h3
    exact h3.mono hc hs
  refine ⟨U, ?_, .threw T.heap.size, hrun, hend, Or.inr ⟨T.heap.size, rfl, cls, ce, locs, hx U hWs.alike f1 (fun q hq => f2 q hq (fun z hz => nomatch hz)), hce, hO.vm, hcl, hWs, hall, hf⟩⟩
  refine st1 _ ?_
  show Steps p.tables e below (T1.setTop { method := m, pc := pc + 3, locals := ls, stack := .ref T.heap.size :: rest, locked := none }) _
  jvm_step X₁.here [X₁.here.top, hexec, d3', Value.category]
  exact X₁.ldcStringW hexec (own := own) (text := text) (index := is) (a := sa) hown' hstr'.1 hstr'.2
    (g := { method := m, pc := pc + 4, locals := ls, stack := .ref T.heap.size :: .ref T.heap.size :: rest, locked := none }) rfl d4' _ hsteps
end Ends
section Bodies
variable {l : Launch}
theorem vx_ofW {y : MethodName} {ws ws' : List Cond} {rm : Room} {Pc : Array Value → State → Prop} {Qc : Array Value → State → Outcome → State → Prop} {XC : String → State → State → Prop} {mc ms : Nat} {free : Addr → Prop} {cc : ByteArray} {maxL : Nat} {ret : Option FieldType}
    (hy : plainName y.cls = true) (hw : ws = Cond.code y cc maxL ret :: ws')
    (body : ∀ p e s m args below meth c s₁, BodyLoose p l y (headSpec ws rm) cc maxL ret e s m args below meth c s₁ → c.maxLocals = maxL → (∀ x ∈ c.exceptionTable.toList, False) → Pc args s →
      W p l e (headSpec ws rm).room s m args below meth c s.heap [] 0 0 (vx_MQ below Qc XC args s mc ms free) (entryFrame m args maxL)) : vx_Met l y ws rm Pc Qc XC mc ms free := by
  refine MetFree.of_bodyS (code := cc) (maxLocals := maxL) (ret := ret) hy ?_ ?_
  · intro args s m h hn
    obtain ⟨meth, c, h1, h2, h3, h4, h5, h6, -, -⟩ := Cond.code_spec hn (atoms_spec (ws := ws) h _ (by rw [hw]; exact List.mem_cons_self))
    exact ⟨meth, c, h1, h2, h3, h4, h5, h6⟩
  · intro p e s m args below meth c s₁ B hml hP _
    have hh0 : s₁.heap = s.heap := by rw [B.state]; rfl
    have ht : ∀ x ∈ c.exceptionTable.toList, False := by
      obtain ⟨meth9, c9, h1, h2, -, -, -, -, h7, -⟩ := Cond.code_spec B.named (atoms_spec (ws := ws) B.pre _ (by rw [hw]; exact List.mem_cons_self))
      cases Option.some.inj (h1.symm.trans B.method)
      cases Option.some.inj (h2.symm.trans (Stand.of_body B).code)
      intro x hx
      rw [Array.isEmpty_iff.mp h7] at hx
      cases hx
    obtain ⟨t, a1, o, b1, b2, b3⟩ := body p e s m args below meth c s₁ B hml ht hP s₁ hh0 (Stand.of_body B)
    exact ⟨t, o, a1, b1, b2, b3⟩
/-- the table of a body with handlers -/
theorem vx_table {p : Program} {x y : MethodName} {S : Spec} {cc bytes : ByteArray} {maxL maxL' : Nat} {ret ret' : Option FieldType} {e : Env} {s s₁ : State} {m : MethodId} {args : Array Value} {below : List Frame} {meth : Method} {c : Code} {hh : List (Nat × Nat × Nat × Nat)}
    (B : BodyLoose p l y S cc maxL ret e s m args below meth c s₁) (h : (Cond.codeWith y bytes maxL' ret' hh).before args s = true) : c.exceptionTable.toList = tableOf hh := by
  obtain ⟨m9, meth9, c9, hn9, h1, h2, -, -, h6, -⟩ := Cond.codeWith_spec h
  cases Option.some.inj (hn9.symm.trans B.named)
  cases Option.some.inj (h1.symm.trans B.method)
  cases Option.some.inj (h2.symm.trans (Stand.of_body B).code)
  rw [← h6, table_eq]
end Bodies
end VXA
/-! ===== END ===== -/
/-! ===== BEGIN a static call of a method with an exception table ===== -/
section VXS
variable {p : Program} {l : Launch} {e : Env} {R : Room} {s : State} {m : MethodId} {args : Array Value} {below : List Frame} {meth : Method} {c : Code} {T : State} {H : Heap} {locs : List Loc} {cells slots : Nat}
abbrev vx_CSW (R : Room) (s : State) (args : Array Value) (own : String) (index : Nat) (y : MethodName) (bytes : ByteArray) (maxL : Nat) (ret : Option FieldType) (hh : List (Nat × Nat × Nat × Nat)) (ws : List Cond) (rm : Room) (mc ms n : Nat) : Prop :=
  (rm.cells = mc ∧ rm.slots = ms ∧ rm.frames + 1 ≤ R.frames ∧ 8 + (maxL + 11) + rm.locals ≤ R.locals ∧ (∀ w ∈ ws, ∀ (a' : Array Value) (U : State), s.WarmedH U.vm → w.before a' U = true) ∧ Cond.codeWith y bytes maxL ret hh ∈ ws) ∧
  (Cond.codeWith y bytes maxL ret hh).before args s = true ∧ (Cond.initialized y.cls).before args s = true ∧ (y.cls ≠ "java/lang/invoke/MethodHandle" ∧ y.cls ≠ "java/lang/invoke/VarHandle") ∧
  (∀ sig, parseMethodDescriptor y.desc = some sig → n = sig.parameters.length) ∧ (Cond.methodLink own index y).before args s = true ∧ (Cond.static y).before args s = true
theorem vx_cwSW {own : String} {index maxL mc ms : Nat} {y : MethodName} {bytes : ByteArray} {ret : Option FieldType} {hh : List (Nat × Nat × Nat × Nat)} {Ts ws ws' : List Cond} {rm : Room} (n : Nat) (ht : ∀ w ∈ Ts, w.before args s = true) (hT : GoodIn Ts (va_wsS own index y ws)) (hw : ws = Cond.codeWith y bytes maxL ret hh :: ws') (hrc : rm.cells = mc) (hrs : rm.slots = ms)
    (hd : y.cls ≠ "java/lang/invoke/MethodHandle" ∧ y.cls ≠ "java/lang/invoke/VarHandle" ∧ (parseMethodDescriptor y.desc).map (fun d => d.parameters.length) = some n) (hR : rm.frames + 1 ≤ R.frames ∧ 8 + (maxL + 11) + rm.locals ≤ R.locals) :
    vx_CSW R s args own index y bytes maxL ret hh ws rm mc ms n := by
  have ok : ∀ w ∈ va_wsS own index y ws, w.before args s = true := fun w h => ht w (hT w h).1
  have hG : GoodIn Ts ws := fun w h => hT w (by unfold va_wsS; exact List.mem_append_right _ h)
  have hc : Cond.codeWith y bytes maxL ret hh ∈ ws := by rw [hw]; exact List.mem_cons_self
  refine ⟨⟨hrc, hrs, hR.1, hR.2, pay_in ht hG, hc⟩, ht _ (hG _ hc).1, ok _ (by simp [va_wsS]), ⟨hd.1, hd.2.1⟩, fun sig h => ?_, ok _ (by simp [va_wsS]), ok _ (by simp [va_wsS])⟩
  have h2 := hd.2.2
  rw [h] at h2
  exact (Option.some.inj h2).symm
theorem vx_callSW (X : Stand p l e R s m args below meth c T locs cells slots) (hexec : p.tables.exec = Jvm.exec) {own : String} {index : Nat} {y : MethodName} {bytes : ByteArray} {maxL : Nat} {ret : Option FieldType} {hh : List (Nat × Nat × Nat × Nat)}
    (hown : s.vm.findClass own = some m.cls) (hlink : (Cond.methodLink own index y).before args s = true) (hstat : (Cond.static y).before args s = true) (hinit : (Cond.initialized y.cls).before args s = true)
    (hcode : (Cond.codeWith y bytes maxL ret hh).before args s = true) (hy : y.cls ≠ "java/lang/invoke/MethodHandle" ∧ y.cls ≠ "java/lang/invoke/VarHandle")
    {W9 : Nat} {Pre : Pt → Array Value → Prop} {Post : Pt → Array Value → Option Value → Pt → Prop} (hK : Back l R p e below s args y 3 W9 Pre Post)
    {g : JFrame} (hg : g.method = m) (hsize : g.locals.size = c.maxLocals) {argsL rest : List Value} (hlen : ∀ sig, parseMethodDescriptor y.desc = some sig → argsL.length = sig.parameters.length)
    (hstack : g.stack = argsL.reverse ++ rest) (hW : 2 * g.monitorRoom + (rest.map fun v => v.category).sum ≤ W9) (hdg : decode c.code g.pc = .ok (.invokestatic index, 3))
    (hpre : ∀ vm₁, s.WarmedH vm₁ → Pre ⟨T.setVm vm₁, locs, cells, slots⟩ argsL.toArray) :
    ∃ (v : Option Value) (vm₁ : Vm) (B : Pt), s.WarmedH vm₁ ∧ Stand p l e R s m args below meth c B.U B.locs B.cells B.slots ∧ Post ⟨T.setVm vm₁, locs, cells, slots⟩ argsL.toArray v B ∧
      ∀ target, Steps p.tables e below (B.U.setTop { g with pc := g.pc + 3, stack := v.toList ++ rest }) target → Steps p.tables e below (T.setTop g) target := by
  obtain ⟨mk, methM, cM, hnamed, hmethM, -, -, -, -, -, -, hsigM⟩ := Cond.codeWith_spec hcode
  have hstatic : methM.isStatic = true := Cond.static_spec hnamed hmethM hstat
  obtain ⟨kP, hkP, -⟩ := className_of_methodNamed hnamed
  have hinitP : kP.init = .initialized := Cond.initialized_spec (findClass_of_methodNamed hnamed) hkP hinit
  obtain ⟨vm₁, X₁, hstep₁⟩ := X.invokestatic hexec hown hlink hnamed hmethM hstatic hkP hinitP hy (g := g) hg (argsL := argsL) (rest := rest) (hlen _ hsigM) hstack hdg
  obtain ⟨v, B, X', hpost, hsteps⟩ := hK m meth c ⟨T.setVm vm₁, locs, cells, slots⟩ { g with stack := rest } (.invokestatic index) mk argsL.toArray X₁ hg hsize hdg hW (X₁.named hnamed) (hpre vm₁ X₁.warmed)
  exact ⟨v, vm₁, B, X₁.warmed, X', hpost, fun target h => hstep₁ _ fun acts => by rw [doInvoke_state]; exact hsteps.trans h⟩
theorem vx_runSW {y : MethodName} {bytes cc : ByteArray} {maxL nL mc ms n index : Nat} {ret : Option FieldType} {hh : List (Nat × Nat × Nat × Nat)} {ws : List Cond} {rm : Room} {Pc : Array Value → State → Prop} {Qc : Array Value → State → Outcome → State → Prop} {free : Addr → Prop} {Ts : List Cond} {own : String} {As rest : List Value} {g : JFrame}
    (S : CallFix p m c cc nL s args Ts own) (hM : Met l y ws rm Pc Qc mc ms free) (cw : vx_CSW R s args own index y bytes maxL ret hh ws rm mc ms n) (hp : PreS s H Pc As)
    (hg : g.method = m) (hn : As.length = n) (hsize : g.locals.size = nL) (hstack : g.stack = As.reverse ++ rest) (hW : 2 * g.monitorRoom + (rest.map fun v => v.category).sum ≤ 8) (hdg : decode cc g.pc = .ok (.invokestatic index, 3)) (hf : cells + mc ≤ R.cells ∧ slots + ms ≤ R.slots) :
    va_Run p l e R s m args below meth c H locs cells slots mc ms g rest (Qc As.toArray) (free) := by
  obtain ⟨⟨hrc, hrs, hfr, hlo, hws, hcw⟩, hcode, hini, hy, hlen, hl, hstt⟩ := cw
  have hK : Back l R p e below s args y 3 8 (PreOf R mc ms Pc) (PostOf Qc mc ms free) := va_backW (hh := hh) (bytes := bytes) (maxL := maxL) (ret := ret) hM hp.1 hrc hrs hfr hlo hws hcw (fun a' U hW => word_at hW (Or.inl (by first | rfl | simp [Cond.onTables, Cond.keeps, Cond.steady])) hini)
  obtain ⟨hx, hb, hml, ho, -⟩ := S
  intro T hT X
  obtain ⟨v, vm₁, ⟨U', l2, c2, s2⟩, hW₁, X', ⟨g', mk, t, L, e1, e2, hq, h1, hL, h2, h3⟩, st⟩ := vx_callSW X hx (hh := hh) (bytes := bytes) (maxL := maxL) (ret := ret) ho hl hstt hini hcode hy hK hg (hsize.trans hml.symm) (argsL := As) (rest := rest) (fun sig h => hn.trans (hlen sig h)) hstack hW (by rw [hb]; exact hdg)
    (fun vm₁ hW₁ => ⟨hf.1, hf.2, hp.2 (T.setVm vm₁) hT hW₁⟩)
  dsimp only [Pt.U, Pt.locs, Pt.cells, Pt.slots] at X' e1 e2 h1 h2 h3 st
  subst h1; subst h2; subst h3
  exact ⟨v, (T.setVm vm₁).calling g' mk As.toArray, t, U', L, hT, X', hL, e1, e2, hq, st⟩
/-- not caught here, past rows that name other classes: it goes on to the caller -/
theorem vx_outP {p : Program} {l : Launch} {e : Env} {R : Room} {s : State} {m : MethodId} {args : Array Value} {below : List Frame} {meth : Method} {c : Code} {H : Heap} {locs : List Loc} {cells slots : Nat} {free : Addr → Prop} {ls : Array Slot} {rest : List Value} {Qc : Array Value → State → Outcome → State → Prop} {XC : String → State → State → Prop}
    {pc : Nat} {own E : String} {ce : Cell} {q : Addr} {mc ms : Nat} (hown : s.vm.findClass own = some m.cls) (hlocks : meth.locks = false)
    (hpass : ∀ z ∈ c.exceptionTable.toList, covers z pc = false ∨ (z.catchType ≠ 0 ∧ ∃ nm : String, (Cond.classLink own z.catchType nm).before args s = true ∧ va_Nc E nm s)) (hcell : H[q]? = some ce) (hv : ce.vm = .none) (hcl : s.vm.findClass E = some ce.cls)
    (hx : ∀ t : State, t.heap = H → s.vm.Alike t.vm → XC E s t) (hf : ∀ z ∈ locs, free z.base) (hc : cells ≤ mc) (hs : slots ≤ ms) :
    vx_W p l e R s m args below meth c H locs cells slots (vx_MQ below Qc XC args s mc ms free) (F0 m pc ls rest) q := by
  intro T hT X
  have hpl : e.platform.magicAccessors = ({} : Platform).magicAccessors := by rw [X.admits.platform]
  obtain ⟨vm', hW', X', st⟩ := X.outThrough hlocks q (g := F0 m pc ls rest) rfl rfl rfl (cell := ce) (by rw [hT]; exact hcell) (by rw [hv]; rfl)
    (by obtain ⟨k9, h9, -⟩ := Vm.findClass_spec hcl; exact ⟨k9, h9⟩) (fun z hz => by
      rcases hpass z hz with h | ⟨hz0, nm, hl1, hn1⟩
      · exact Or.inl h
      · obtain ⟨c6, hc6, hcl6⟩ := Cond.classLink_spec hown hl1 e.platform hpl
        obtain ⟨a8, b8, h1, h2, h3⟩ := hn1
        cases Option.some.inj (h1.symm.trans hcl)
        cases Option.some.inj (h2.symm.trans hc6)
        exact Or.inr ⟨hz0, _, hcl6, h3⟩)
  obtain ⟨g₀, hfr⟩ := X'.frames_eq
  have hcell9 : ((T.setVm vm').setFrames (.throwing q :: below)).heap[q]? = some ce := by
    show T.heap[q]? = some ce
    rw [hT]; exact hcell
  have hend : Ended ((T.setVm vm').setFrames (.throwing q :: below)) below (.threw q) := State.frames_setFrames _ (State.cur_lt_of_frames hfr)
  refine ⟨(T.setVm vm').setFrames (.throwing q :: below), ?_, .threw q, X'.here.running, hend, Or.inr ⟨q, rfl, E, ce, locs, hx _ hT (X'.ends _).1.alike, hcell9, hv, hcl, (X'.ends _).1, (X'.ends _).2.mono hc hs, hf⟩⟩
  rw [X.pushThrowing_eq]
  exact st
/-- a thing of a world lies in the heap -/
theorem vx_lt {D : va_G} {cl : List vw_C} {ws : va_W} {H1 : Heap} (h : va_P D cl ws H1) {k : Nat} {q : Nat × va_E} (hk : ws[k]? = some q) : q.1 < H1.size := (h k q hk).lt
end VXS
/-! ===== END ===== -/
/-! ===== BEGIN methods with a table of their own: called by a name, returning or throwing ===== -/
section VXH
/-! vx_backW, vx_callVX, vx_callSX, vx_callVW, vx_runVW, vx_runVX, vx_runSX, vx_ofWH follow the same proofs as their sisters above (Free/Laws.lean, Shelf42/LK1.lean); vx_outP calls Shelf42/NT130.lean (outThrough). -/
section
variable {l : Launch} {R : Room} {p : Program} {e : Env} {below : List Frame} {s : State} {sargs : Array Value} {y : MethodName} {len W9 : Nat}
theorem vx_backW {ws : List Cond} {rm : Room} {Pc : Array Value → State → Prop} {Qc : Array Value → State → Outcome → State → Prop} {XC : String → State → State → Prop} {mc ms : Nat} {free : Addr → Prop} {bytes : ByteArray} {maxL : Nat} {ret : Option FieldType} {hh : List (Nat × Nat × Nat × Nat)}
    (hM : vx_Met l y ws rm Pc Qc XC mc ms free) (hblind : FrameBlind Pc) (hrc : rm.cells = mc) (hrs : rm.slots = ms)
    (hframes : rm.frames + 1 ≤ R.frames) (hlocals : W9 + (maxL + 11) + rm.locals ≤ R.locals)
    (hws : ∀ w ∈ ws, ∀ a' U, s.WarmedH U.vm → w.before a' U = true) (hcode : Cond.codeWith y bytes maxL ret hh ∈ ws) (hinit : ∀ a' U, s.WarmedH U.vm → (Cond.initialized y.cls).before a' U = true) :
    vx_Back l R p e below s sargs y len W9 (PreOf R mc ms Pc) (PostOf Qc mc ms free) (vx_Post XC mc ms free) := by
  intro m meth c A g ig mk a X hg hsize hdg hW hn hp
  have h1 : (headSpec ws rm).pre.before a A.U = true := atoms_intro fun w hw => hws w hw _ _ X.warmed
  have h2 : (Cond.codeWith y bytes maxL ret hh).before a A.U = true := hws _ hcode _ _ X.warmed
  have h3 : (Cond.initialized y.cls).before a A.U = true := hinit _ _ X.warmed
  have h4 : A.cells + (headSpec ws rm).room.cells ≤ R.cells := by rw [show (headSpec ws rm).room.cells = mc from hrc]; exact hp.1
  have h5 : A.slots + (headSpec ws rm).room.slots ≤ R.slots := by rw [show (headSpec ws rm).room.slots = ms from hrs]; exact hp.2.1
  have hPc : Pc a (A.U.calling g mk a) := hblind _ _ _ _ hp.2.2
  obtain ⟨U, Ls, c0, s0⟩ := A
  dsimp only [Pt.U, Pt.locs, Pt.cells, Pt.slots] at h1 h2 h3 h4 h5 X hn hPc ⊢
  obtain ⟨m9, methY, cY, hn9, hmY, hcY, -, hlY, -⟩ := Cond.codeWith_spec h2
  cases Option.some.inj (hn9.symm.trans hn)
  obtain ⟨kY, hkY, -⟩ := className_of_methodNamed hn
  have hinitY : kY.init = .initialized := Cond.initialized_spec (findClass_of_methodNamed hn) hkY h3
  have h : At U g.method c below := by rw [hg]; exact X.here
  have hlocals9 : W9 + (maxL + 11) + (headSpec ws rm).room.locals ≤ R.locals := hlocals
  have happ : (headSpec ws rm).appliesLoose y e.platform (U.calling g mk a) = true :=
    Spec.appliesLoose_calling (g := g) h hdg hn hkY hinitY
      (X.room_calling (g := g) (R' := (headSpec ws rm).room) hsize hmY hcY hframes (by rw [hlY]; omega) h4 h5) h1
  obtain ⟨mid, hmid⟩ := h.above
  have hfr : (U.setTop g).frames = (.java g :: mid) ++ below := by rw [State.frames_setTop' g h.top, hmid]; rfl
  obtain ⟨o, s₂, hsteps, -, hend, hq⟩ := Steps.callFree hM p X.admits X.cas X.clock (acts := []) hfr happ hPc trivial
  have hq' : vx_Q Qc XC mc ms free a (U.calling g mk a) o s₂ := hq
  rw [State.frames_setTop' g h.top] at hend
  obtain ⟨g₀, hg0⟩ := Option.isSome_iff_exists.mp h.top
  obtain ⟨r, hr⟩ := State.topJava?_eq_some.mp hg0
  have hr' : (({ U with heap := s₂.heap, slotsUsed := s₂.slotsUsed } : State).setVm s₂.vm).frames = .java g₀ :: r := hr
  rcases hq' with ⟨hqc, L, hfe, hL⟩ | ⟨q, rfl, E, ce, L, hx, hce, hcv, hcl, hW₂, hsm, hL⟩
  · obtain ⟨⟨v, rfl⟩, hW₂, e2, q2, q3, q4, q5, q6⟩ := id hfe
    have e3 : s₂ = ({ (U.calling g mk a).setFrames s₂.frames with heap := s₂.heap, slotsUsed := s₂.slotsUsed } : State).setVm s₂.vm := by
      have : s₂ = ({ s₂ with vm := (U.calling g mk a).vm } : State).setVm s₂.vm := rfl
      rw [e2] at this
      exact this
    obtain ⟨c₂, i₂, len₂, hc₂, hd₂, hf₂⟩ := hend
    have hW' : U.WarmedH s₂.vm := hW₂
    have hcc : c₂ = c := by
      have h1 : s₂.code? g.method = U.code? g.method := by
        rw [State.code?_eq, State.code?_eq, hW'.alike.method?]
      exact Option.some.inj (hc₂.symm.trans (h1.trans h.code))
    subst hcc
    have hlen : len₂ = len := by rw [hdg] at hd₂; cases hd₂; rfl
    subst hlen
    have hs₂ : s₂ = (({ U with heap := s₂.heap, slotsUsed := s₂.slotsUsed } : State).setVm s₂.vm).setTop { g with pc := g.pc + len₂, stack := v.toList ++ g.stack } := by
      refine e3.trans ?_
      rw [hf₂, State.calling_eq h.top, State.setFrames_setFrames, State.setTop_of_frames _ hr', hr]
      rfl
    have hsame : U.sameButNew ({ U with heap := s₂.heap, slotsUsed := s₂.slotsUsed } : State) L mc ms := by
      refine ⟨?_, q2, q3, q4, q5, q6⟩
      obtain ⟨t, ht, -⟩ := State.frames_cons hr
      show ({ U with heap := s₂.heap, slotsUsed := s₂.slotsUsed } : State) = { U.setFrames U.frames with heap := s₂.heap, slotsUsed := s₂.slotsUsed }
      rw [State.setFrames_self ht]
    subst hg
    refine Or.inl ⟨v, ⟨(({ U with heap := s₂.heap, slotsUsed := s₂.slotsUsed } : State).setVm s₂.vm), Ls ++ L, c0 + mc, s0 + ms⟩,
      ⟨X.admits, X.cas, X.clock, X.frames, X.room, X.hears, X.method, X.code, (X.here.setHeapUsed s₂.heap s₂.slotsUsed).setVm hW'.alike, X.tail, State.WarmedH.trans X.warmed hW', X.limits, X.bytes, X.same.trans (hsame.setVm s.vm)⟩,
      ⟨g, mk, s₂, L, rfl, rfl, hqc, rfl, hL, rfl, rfl⟩, ?_⟩
    show Steps p.tables e below _ ((({ U with heap := s₂.heap, slotsUsed := s₂.slotsUsed } : State).setVm s₂.vm).setTop { g with pc := g.pc + len₂, stack := v.toList ++ g.stack })
    rw [← hs₂]
    exact hsteps
  · obtain ⟨e2, q2, q3, q4, q5, q6⟩ := id hsm
    have e3 : s₂ = ({ (U.calling g mk a).setFrames s₂.frames with heap := s₂.heap, slotsUsed := s₂.slotsUsed } : State).setVm s₂.vm := by
      have : s₂ = ({ s₂ with vm := (U.calling g mk a).vm } : State).setVm s₂.vm := rfl
      rw [e2] at this
      exact this
    have hf₂ : s₂.frames = .throwing q :: .java g :: U.frames.tail := hend
    have hW' : U.WarmedH s₂.vm := hW₂
    have hs₂ : s₂ = ((({ U with heap := s₂.heap, slotsUsed := s₂.slotsUsed } : State).setVm s₂.vm).setTop g).pushFrame (.throwing q) := by
      refine e3.trans ?_
      rw [hf₂, State.calling_eq h.top, State.setFrames_setFrames, State.pushFrame, State.frames_setTop _ hr', State.setTop_of_frames _ hr', State.setFrames_setFrames, hr]
      rfl
    have hsame : U.sameButNew ({ U with heap := s₂.heap, slotsUsed := s₂.slotsUsed } : State) L mc ms := by
      refine ⟨?_, q2, q3, q4, q5, q6⟩
      obtain ⟨t, ht, -⟩ := State.frames_cons hr
      show ({ U with heap := s₂.heap, slotsUsed := s₂.slotsUsed } : State) = { U.setFrames U.frames with heap := s₂.heap, slotsUsed := s₂.slotsUsed }
      rw [State.setFrames_self ht]
    subst hg
    refine Or.inr ⟨q, ⟨(({ U with heap := s₂.heap, slotsUsed := s₂.slotsUsed } : State).setVm s₂.vm), Ls ++ L, c0 + mc, s0 + ms⟩,
      ⟨X.admits, X.cas, X.clock, X.frames, X.room, X.hears, X.method, X.code, (X.here.setHeapUsed s₂.heap s₂.slotsUsed).setVm hW'.alike, X.tail, State.WarmedH.trans X.warmed hW', X.limits, X.bytes, X.same.trans (hsame.setVm s.vm)⟩,
      ⟨g, mk, s₂, L, E, ce, rfl, rfl, hx, hce, hcv, hcl, rfl, hL, rfl, rfl⟩, ?_⟩
    show Steps p.tables e below _ (((({ U with heap := s₂.heap, slotsUsed := s₂.slotsUsed } : State).setVm s₂.vm).setTop g).pushFrame (.throwing q))
    rw [← hs₂]
    exact hsteps
end
variable {p : Program} {l : Launch} {e : Env} {R : Room} {s : State} {m : MethodId} {args : Array Value} {below : List Frame} {meth : Method} {c : Code} {T : State} {H : Heap} {locs : List Loc} {cells slots : Nat}
theorem vx_callVX (X : Stand p l e R s m args below meth c T locs cells slots) (hexec : p.tables.exec = Jvm.exec) {own C : String} {index : Nat} {y : MethodName} {bytes : ByteArray} {maxL : Nat} {ret : Option FieldType} {hh : List (Nat × Nat × Nat × Nat)}
    (hown : s.vm.findClass own = some m.cls) (hlink : (Cond.methodLink own index y).before args s = true) (hinst : (Cond.instanceMethod y).before args s = true) (hsel : (Cond.selects C y y).before args s = true)
    (hcode : (Cond.codeWith y bytes maxL ret hh).before args s = true) (hy : y.cls ≠ "java/lang/invoke/MethodHandle" ∧ y.cls ≠ "java/lang/invoke/VarHandle")
    {W9 : Nat} {Pre : Pt → Array Value → Prop} {Post : Pt → Array Value → Option Value → Pt → Prop} {PostX : Pt → Array Value → Addr → Pt → Prop} (hK : vx_Back l R p e below s args y 3 W9 Pre Post PostX)
    {b : Addr} {cellB : Cell} (hcell : T.heap[b]? = some cellB) (hobj : cellB.vm.isStatics = false) (hcls : s.vm.findClass C = some cellB.cls)
    {g : JFrame} (hg : g.method = m) (hsize : g.locals.size = c.maxLocals) {argsL rest : List Value} (hlen : ∀ sig, parseMethodDescriptor y.desc = some sig → argsL.length = sig.parameters.length)
    (hstack : g.stack = argsL.reverse ++ .ref b :: rest) (hW : 2 * g.monitorRoom + (rest.map fun v => v.category).sum ≤ W9) (hdg : decode c.code g.pc = .ok (.invokevirtual index, 3))
    (hpre : ∀ vm₁, s.WarmedH vm₁ → Pre ⟨T.setVm vm₁, locs, cells, slots⟩ (Value.ref b :: argsL).toArray) :
    (∃ (v : Option Value) (vm₁ : Vm) (B : Pt), s.WarmedH vm₁ ∧ Stand p l e R s m args below meth c B.U B.locs B.cells B.slots ∧ Post ⟨T.setVm vm₁, locs, cells, slots⟩ (Value.ref b :: argsL).toArray v B ∧
      ∀ target, Steps p.tables e below (B.U.setTop { g with pc := g.pc + 3, stack := v.toList ++ rest }) target → Steps p.tables e below (T.setTop g) target) ∨
    (∃ (q : Addr) (vm₁ : Vm) (B : Pt), s.WarmedH vm₁ ∧ Stand p l e R s m args below meth c B.U B.locs B.cells B.slots ∧ PostX ⟨T.setVm vm₁, locs, cells, slots⟩ (Value.ref b :: argsL).toArray q B ∧
      Steps p.tables e below (T.setTop g) ((B.U.setTop { g with stack := rest }).pushFrame (.throwing q))) := by
  obtain ⟨mk, methM, hnamed, hmethM, hstM, habM⟩ := Cond.instanceMethod_spec hinst
  obtain ⟨m8, methM', cM, hn8, hmethM', -, -, -, -, -, -, hsigM⟩ := Cond.codeWith_spec hcode
  cases Option.some.inj (hn8.symm.trans hnamed)
  cases hmethM.symm.trans hmethM'
  obtain ⟨c2, r2, m2, q1, q2, q3, q4, kP, hkP, hkPi⟩ := Cond.selects_spec hsel
  cases hcls.symm.trans q1
  cases (State.methodFound?_of_named hnamed hy).symm.trans q2
  cases hnamed.symm.trans q3
  have hselP : selectMethod e.platform s.vm cellB.cls mk = .method mk := by rw [Launch.admits_selectMethod X.admits]; exact q4
  obtain ⟨vm₁, X₁, hstep₁⟩ := X.invokevirtual hexec hown hlink hnamed hmethM hstM hkP hkPi hy (a := b) (cell := cellB) hcell
    (fun z h => by rw [h] at hobj; cases hobj) hselP hmethM habM hkP hkPi (g := g) hg (argsL := argsL) (rest := rest) (hlen _ hsigM) hstack hdg
  rcases hK m meth c ⟨T.setVm vm₁, locs, cells, slots⟩ { g with stack := rest } (.invokevirtual index) mk (Value.ref b :: argsL).toArray X₁ hg hsize hdg hW (X₁.named hnamed) (hpre vm₁ X₁.warmed) with ⟨v, B, X', hpost, hsteps⟩ | ⟨q, B, X', hpost, hsteps⟩
  · exact Or.inl ⟨v, vm₁, B, X₁.warmed, X', hpost, fun target h => hstep₁ _ fun acts => by rw [doInvoke_state]; exact hsteps.trans h⟩
  · exact Or.inr ⟨q, vm₁, B, X₁.warmed, X', hpost, hstep₁ _ fun acts => by rw [doInvoke_state]; exact hsteps⟩
theorem vx_callSX (X : Stand p l e R s m args below meth c T locs cells slots) (hexec : p.tables.exec = Jvm.exec) {own : String} {index : Nat} {y : MethodName} {bytes : ByteArray} {maxL : Nat} {ret : Option FieldType} {hh : List (Nat × Nat × Nat × Nat)}
    (hown : s.vm.findClass own = some m.cls) (hlink : (Cond.methodLink own index y).before args s = true) (hstat : (Cond.static y).before args s = true) (hinit : (Cond.initialized y.cls).before args s = true)
    (hcode : (Cond.codeWith y bytes maxL ret hh).before args s = true) (hy : y.cls ≠ "java/lang/invoke/MethodHandle" ∧ y.cls ≠ "java/lang/invoke/VarHandle")
    {W9 : Nat} {Pre : Pt → Array Value → Prop} {Post : Pt → Array Value → Option Value → Pt → Prop} {PostX : Pt → Array Value → Addr → Pt → Prop} (hK : vx_Back l R p e below s args y 3 W9 Pre Post PostX)
    {g : JFrame} (hg : g.method = m) (hsize : g.locals.size = c.maxLocals) {argsL rest : List Value} (hlen : ∀ sig, parseMethodDescriptor y.desc = some sig → argsL.length = sig.parameters.length)
    (hstack : g.stack = argsL.reverse ++ rest) (hW : 2 * g.monitorRoom + (rest.map fun v => v.category).sum ≤ W9) (hdg : decode c.code g.pc = .ok (.invokestatic index, 3))
    (hpre : ∀ vm₁, s.WarmedH vm₁ → Pre ⟨T.setVm vm₁, locs, cells, slots⟩ argsL.toArray) :
    (∃ (v : Option Value) (vm₁ : Vm) (B : Pt), s.WarmedH vm₁ ∧ Stand p l e R s m args below meth c B.U B.locs B.cells B.slots ∧ Post ⟨T.setVm vm₁, locs, cells, slots⟩ argsL.toArray v B ∧
      ∀ target, Steps p.tables e below (B.U.setTop { g with pc := g.pc + 3, stack := v.toList ++ rest }) target → Steps p.tables e below (T.setTop g) target) ∨
    (∃ (q : Addr) (vm₁ : Vm) (B : Pt), s.WarmedH vm₁ ∧ Stand p l e R s m args below meth c B.U B.locs B.cells B.slots ∧ PostX ⟨T.setVm vm₁, locs, cells, slots⟩ argsL.toArray q B ∧
      Steps p.tables e below (T.setTop g) ((B.U.setTop { g with stack := rest }).pushFrame (.throwing q))) := by
  obtain ⟨mk, methM, cM, hnamed, hmethM, -, -, -, -, -, -, hsigM⟩ := Cond.codeWith_spec hcode
  have hstatic : methM.isStatic = true := Cond.static_spec hnamed hmethM hstat
  obtain ⟨kP, hkP, -⟩ := className_of_methodNamed hnamed
  have hinitP : kP.init = .initialized := Cond.initialized_spec (findClass_of_methodNamed hnamed) hkP hinit
  obtain ⟨vm₁, X₁, hstep₁⟩ := X.invokestatic hexec hown hlink hnamed hmethM hstatic hkP hinitP hy (g := g) hg (argsL := argsL) (rest := rest) (hlen _ hsigM) hstack hdg
  rcases hK m meth c ⟨T.setVm vm₁, locs, cells, slots⟩ { g with stack := rest } (.invokestatic index) mk argsL.toArray X₁ hg hsize hdg hW (X₁.named hnamed) (hpre vm₁ X₁.warmed) with ⟨v, B, X', hpost, hsteps⟩ | ⟨q, B, X', hpost, hsteps⟩
  · exact Or.inl ⟨v, vm₁, B, X₁.warmed, X', hpost, fun target h => hstep₁ _ fun acts => by rw [doInvoke_state]; exact hsteps.trans h⟩
  · exact Or.inr ⟨q, vm₁, B, X₁.warmed, X', hpost, hstep₁ _ fun acts => by rw [doInvoke_state]; exact hsteps⟩
theorem vx_callVW (X : Stand p l e R s m args below meth c T locs cells slots) (hexec : p.tables.exec = Jvm.exec) {own C : String} {index : Nat} {y : MethodName} {bytes : ByteArray} {maxL : Nat} {ret : Option FieldType} {hh : List (Nat × Nat × Nat × Nat)}
    (hown : s.vm.findClass own = some m.cls) (hlink : (Cond.methodLink own index y).before args s = true) (hinst : (Cond.instanceMethod y).before args s = true) (hsel : (Cond.selects C y y).before args s = true)
    (hcode : (Cond.codeWith y bytes maxL ret hh).before args s = true) (hy : y.cls ≠ "java/lang/invoke/MethodHandle" ∧ y.cls ≠ "java/lang/invoke/VarHandle")
    {W9 : Nat} {Pre : Pt → Array Value → Prop} {Post : Pt → Array Value → Option Value → Pt → Prop} (hK : Back l R p e below s args y 3 W9 Pre Post)
    {b : Addr} {cellB : Cell} (hcell : T.heap[b]? = some cellB) (hobj : cellB.vm.isStatics = false) (hcls : s.vm.findClass C = some cellB.cls)
    {g : JFrame} (hg : g.method = m) (hsize : g.locals.size = c.maxLocals) {argsL rest : List Value} (hlen : ∀ sig, parseMethodDescriptor y.desc = some sig → argsL.length = sig.parameters.length)
    (hstack : g.stack = argsL.reverse ++ .ref b :: rest) (hW : 2 * g.monitorRoom + (rest.map fun v => v.category).sum ≤ W9) (hdg : decode c.code g.pc = .ok (.invokevirtual index, 3))
    (hpre : ∀ vm₁, s.WarmedH vm₁ → Pre ⟨T.setVm vm₁, locs, cells, slots⟩ (Value.ref b :: argsL).toArray) :
    ∃ (v : Option Value) (vm₁ : Vm) (B : Pt), s.WarmedH vm₁ ∧ Stand p l e R s m args below meth c B.U B.locs B.cells B.slots ∧ Post ⟨T.setVm vm₁, locs, cells, slots⟩ (Value.ref b :: argsL).toArray v B ∧
      ∀ target, Steps p.tables e below (B.U.setTop { g with pc := g.pc + 3, stack := v.toList ++ rest }) target → Steps p.tables e below (T.setTop g) target := by
  obtain ⟨mk, methM, hnamed, hmethM, hstM, habM⟩ := Cond.instanceMethod_spec hinst
  obtain ⟨m8, methM', cM, hn8, hmethM', -, -, -, -, -, -, hsigM⟩ := Cond.codeWith_spec hcode
  cases Option.some.inj (hn8.symm.trans hnamed)
  cases hmethM.symm.trans hmethM'
  obtain ⟨c2, r2, m2, q1, q2, q3, q4, kP, hkP, hkPi⟩ := Cond.selects_spec hsel
  cases hcls.symm.trans q1
  cases (State.methodFound?_of_named hnamed hy).symm.trans q2
  cases hnamed.symm.trans q3
  have hselP : selectMethod e.platform s.vm cellB.cls mk = .method mk := by rw [Launch.admits_selectMethod X.admits]; exact q4
  obtain ⟨vm₁, X₁, hstep₁⟩ := X.invokevirtual hexec hown hlink hnamed hmethM hstM hkP hkPi hy (a := b) (cell := cellB) hcell
    (fun z h => by rw [h] at hobj; cases hobj) hselP hmethM habM hkP hkPi (g := g) hg (argsL := argsL) (rest := rest) (hlen _ hsigM) hstack hdg
  obtain ⟨v, B, X', hpost, hsteps⟩ := hK m meth c ⟨T.setVm vm₁, locs, cells, slots⟩ { g with stack := rest } (.invokevirtual index) mk (Value.ref b :: argsL).toArray X₁ hg hsize hdg hW (X₁.named hnamed) (hpre vm₁ X₁.warmed)
  exact ⟨v, vm₁, B, X₁.warmed, X', hpost, fun target h => hstep₁ _ fun acts => by rw [doInvoke_state]; exact hsteps.trans h⟩
abbrev vx_CVW (R : Room) (s : State) (args : Array Value) (own C : String) (index : Nat) (y : MethodName) (bytes : ByteArray) (maxL : Nat) (ret : Option FieldType) (hh : List (Nat × Nat × Nat × Nat)) (ws : List Cond) (rm : Room) (mc ms n : Nat) : Prop :=
  (rm.cells = mc ∧ rm.slots = ms ∧ rm.frames + 1 ≤ R.frames ∧ 8 + (maxL + 11) + rm.locals ≤ R.locals ∧ (∀ w ∈ ws, ∀ (a' : Array Value) (U : State), s.WarmedH U.vm → w.before a' U = true) ∧ Cond.codeWith y bytes maxL ret hh ∈ ws) ∧
  (Cond.codeWith y bytes maxL ret hh).before args s = true ∧ (Cond.initialized y.cls).before args s = true ∧ (y.cls ≠ "java/lang/invoke/MethodHandle" ∧ y.cls ≠ "java/lang/invoke/VarHandle") ∧
  (∀ sig, parseMethodDescriptor y.desc = some sig → n = sig.parameters.length) ∧ (Cond.methodLink own index y).before args s = true ∧ (Cond.instanceMethod y).before args s = true ∧ (Cond.selects C y y).before args s = true
theorem vx_cwVW {own C : String} {index maxL mc ms : Nat} {y : MethodName} {bytes : ByteArray} {ret : Option FieldType} {hh : List (Nat × Nat × Nat × Nat)} {Ts ws ws' : List Cond} {rm : Room} (n : Nat) (ht : ∀ w ∈ Ts, w.before args s = true) (hT : GoodIn Ts (wsV own index C y ws)) (hw : ws = Cond.codeWith y bytes maxL ret hh :: ws') (hrc : rm.cells = mc) (hrs : rm.slots = ms)
    (hd : y.cls = C ∧ y.cls ≠ "java/lang/invoke/MethodHandle" ∧ y.cls ≠ "java/lang/invoke/VarHandle" ∧ (parseMethodDescriptor y.desc).map (fun d => d.parameters.length) = some n) (hR : rm.frames + 1 ≤ R.frames ∧ 8 + (maxL + 11) + rm.locals ≤ R.locals) :
    vx_CVW R s args own C index y bytes maxL ret hh ws rm mc ms n := by
  obtain ⟨hC, hd⟩ := hd
  subst hC
  have ok : ∀ w ∈ wsV own index y.cls y ws, w.before args s = true := fun w h => ht w (hT w h).1
  have hG : GoodIn Ts ws := fun w h => hT w (by unfold wsV; exact List.mem_append_right _ h)
  have hc : Cond.codeWith y bytes maxL ret hh ∈ ws := by rw [hw]; exact List.mem_cons_self
  refine ⟨⟨hrc, hrs, hR.1, hR.2, pay_in ht hG, hc⟩, ht _ (hG _ hc).1, ok _ (by simp [wsV]), ⟨hd.1, hd.2.1⟩, fun sig h => ?_, ok _ (by simp [wsV]), ok _ (by simp [wsV]), ok _ (by simp [wsV])⟩
  have h2 := hd.2.2
  rw [h] at h2
  exact (Option.some.inj h2).symm
theorem vx_runVW {y : MethodName} {bytes cc : ByteArray} {maxL nL mc ms n index : Nat} {ret : Option FieldType} {hh : List (Nat × Nat × Nat × Nat)} {ws : List Cond} {rm : Room} {Pc : Array Value → State → Prop} {Qc : Array Value → State → Outcome → State → Prop} {free : Addr → Prop} {Ts : List Cond} {own C : String} {b : Addr} {As rest : List Value} {g : JFrame}
    (S : CallFix p m c cc nL s args Ts own) (hM : Met l y ws rm Pc Qc mc ms free) (cw : vx_CVW R s args own C index y bytes maxL ret hh ws rm mc ms n) (hp : PreV s H C b Pc As)
    (hg : g.method = m) (hn : As.length = n) (hsize : g.locals.size = nL) (hstack : g.stack = As.reverse ++ .ref b :: rest) (hW : 2 * g.monitorRoom + (rest.map fun v => v.category).sum ≤ 8) (hdg : decode cc g.pc = .ok (.invokevirtual index, 3)) (hf : cells + mc ≤ R.cells ∧ slots + ms ≤ R.slots) :
    va_Run p l e R s m args below meth c H locs cells slots mc ms g rest (Qc (Value.ref b :: As).toArray) free := by
  obtain ⟨⟨hrc, hrs, hfr, hlo, hws, hcw⟩, hcode, hini, hy, hlen, hl, hin, hse⟩ := cw
  have hK : Back l R p e below s args y 3 8 (PreOf R mc ms Pc) (PostOf Qc mc ms free) := va_backW (hh := hh) (bytes := bytes) (maxL := maxL) (ret := ret) hM hp.1 hrc hrs hfr hlo hws hcw (fun a' U hW => word_at hW (Or.inl (by first | rfl | simp [Cond.onTables, Cond.keeps, Cond.steady])) hini)
  obtain ⟨hx, hb, hml, ho, -⟩ := S
  obtain ⟨-, ⟨cellB, hcB, hoB, hclB⟩, hPc⟩ := hp
  intro T hT X
  obtain ⟨v, vm₁, ⟨U', l2, c2, s2⟩, hW₁, X', ⟨g', mk, t, L, e1, e2, hq, h1, hL, h2, h3⟩, st⟩ := vx_callVW X hx (C := C) (hh := hh) (bytes := bytes) (maxL := maxL) (ret := ret) ho hl hin hse hcode hy hK (by rw [hT]; exact hcB) hoB hclB hg (hsize.trans hml.symm) (argsL := As) (rest := rest) (fun sig h => hn.trans (hlen sig h)) hstack hW (by rw [hb]; exact hdg)
    (fun vm₁ hW₁ => ⟨hf.1, hf.2, hPc (T.setVm vm₁) hT hW₁⟩)
  dsimp only [Pt.U, Pt.locs, Pt.cells, Pt.slots] at X' e1 e2 h1 h2 h3 st
  subst h1; subst h2; subst h3
  exact ⟨v, (T.setVm vm₁).calling g' mk (Value.ref b :: As).toArray, t, U', L, hT, X', hL, e1, e2, hq, st⟩
section
variable {y : MethodName} {bytes cc : ByteArray} {maxL nL mc ms n index : Nat} {ret : Option FieldType} {ws : List Cond} {rm : Room} {Pc : Array Value → State → Prop} {Qc : Array Value → State → Outcome → State → Prop} {XC : String → State → State → Prop} {free : Addr → Prop} {Ts : List Cond} {own C : String} {b : Addr} {As rest : List Value} {g : JFrame}
theorem vx_runVX {hh : List (Nat × Nat × Nat × Nat)} (S : CallFix p m c cc nL s args Ts own) (hM : vx_Met l y ws rm Pc Qc XC mc ms free) (cw : vx_CVW R s args own C index y bytes maxL ret hh ws rm mc ms n) (hp : PreV s H C b Pc As)
    (hg : g.method = m) (hn : As.length = n) (hsize : g.locals.size = nL) (hstack : g.stack = As.reverse ++ .ref b :: rest) (hW : 2 * g.monitorRoom + (rest.map fun v => v.category).sum ≤ 8) (hdg : decode cc g.pc = .ok (.invokevirtual index, 3)) (hf : cells + mc ≤ R.cells ∧ slots + ms ≤ R.slots) :
    vx_Run p l e R s m args below meth c H locs cells slots mc ms g rest (Qc (Value.ref b :: As).toArray) XC free := by
  obtain ⟨⟨hrc, hrs, hfr, hlo, hws, hcw⟩, hcode, hini, hy, hlen, hl, hin, hse⟩ := cw
  have hK : vx_Back l R p e below s args y 3 8 (PreOf R mc ms Pc) (PostOf Qc mc ms free) (vx_Post XC mc ms free) := vx_backW (hh := hh) (bytes := bytes) (maxL := maxL) (ret := ret) hM hp.1 hrc hrs hfr hlo hws hcw (fun a' U hW => word_at hW (Or.inl (by first | rfl | simp [Cond.onTables, Cond.keeps, Cond.steady])) hini)
  obtain ⟨hx, hb, hml, ho, -⟩ := S
  obtain ⟨-, ⟨cellB, hcB, hoB, hclB⟩, hPc⟩ := hp
  intro T hT X
  rcases vx_callVX X hx (C := C) (hh := hh) (bytes := bytes) (maxL := maxL) (ret := ret) ho hl hin hse hcode hy hK (by rw [hT]; exact hcB) hoB hclB hg (hsize.trans hml.symm) (argsL := As) (rest := rest) (fun sig h => hn.trans (hlen sig h)) hstack hW (by rw [hb]; exact hdg)
    (fun vm₁ hW₁ => ⟨hf.1, hf.2, hPc (T.setVm vm₁) hT hW₁⟩) with ⟨v, vm₁, ⟨U', l2, c2, s2⟩, hW₁, X', ⟨g', mk, t, L, e1, e2, hq, h1, hL, h2, h3⟩, st⟩ | ⟨q, vm₁, ⟨U', l2, c2, s2⟩, hW₁, X', ⟨g', mk, t, L, E, ce, e1, e2, hq, hce, hcv, hcl, h1, hL, h2, h3⟩, st⟩
  · dsimp only [Pt.U, Pt.locs, Pt.cells, Pt.slots] at X' e1 e2 h1 h2 h3 st
    subst h1; subst h2; subst h3
    exact Or.inl ⟨v, (T.setVm vm₁).calling g' mk (Value.ref b :: As).toArray, t, U', L, hT, X', hL, e1, e2, hq, st⟩
  · dsimp only [Pt.U, Pt.locs, Pt.cells, Pt.slots] at X' e1 e2 h1 h2 h3 st hcl
    subst h1; subst h2; subst h3
    exact Or.inr ⟨q, (T.setVm vm₁).calling g' mk (Value.ref b :: As).toArray, t, U', L, E, ce, hT, X', hL, e1, e2, hq, hce, hcv, vx_cls hW₁ hcl, st⟩
theorem vx_runSX {hh : List (Nat × Nat × Nat × Nat)} (S : CallFix p m c cc nL s args Ts own) (hM : vx_Met l y ws rm Pc Qc XC mc ms free) (cw : vx_CSW R s args own index y bytes maxL ret hh ws rm mc ms n) (hp : PreS s H Pc As)
    (hg : g.method = m) (hn : As.length = n) (hsize : g.locals.size = nL) (hstack : g.stack = As.reverse ++ rest) (hW : 2 * g.monitorRoom + (rest.map fun v => v.category).sum ≤ 8) (hdg : decode cc g.pc = .ok (.invokestatic index, 3)) (hf : cells + mc ≤ R.cells ∧ slots + ms ≤ R.slots) :
    vx_Run p l e R s m args below meth c H locs cells slots mc ms g rest (Qc As.toArray) XC free := by
  obtain ⟨⟨hrc, hrs, hfr, hlo, hws, hcw⟩, hcode, hini, hy, hlen, hl, hstt⟩ := cw
  have hK : vx_Back l R p e below s args y 3 8 (PreOf R mc ms Pc) (PostOf Qc mc ms free) (vx_Post XC mc ms free) := vx_backW (hh := hh) (bytes := bytes) (maxL := maxL) (ret := ret) hM hp.1 hrc hrs hfr hlo hws hcw (fun a' U hW => word_at hW (Or.inl (by first | rfl | simp [Cond.onTables, Cond.keeps, Cond.steady])) hini)
  obtain ⟨hx, hb, hml, ho, -⟩ := S
  intro T hT X
  rcases vx_callSX X hx (hh := hh) (bytes := bytes) (maxL := maxL) (ret := ret) ho hl hstt hini hcode hy hK hg (hsize.trans hml.symm) (argsL := As) (rest := rest) (fun sig h => hn.trans (hlen sig h)) hstack hW (by rw [hb]; exact hdg)
    (fun vm₁ hW₁ => ⟨hf.1, hf.2, hp.2 (T.setVm vm₁) hT hW₁⟩) with ⟨v, vm₁, ⟨U', l2, c2, s2⟩, hW₁, X', ⟨g', mk, t, L, e1, e2, hq, h1, hL, h2, h3⟩, st⟩ | ⟨q, vm₁, ⟨U', l2, c2, s2⟩, hW₁, X', ⟨g', mk, t, L, E, ce, e1, e2, hq, hce, hcv, hcl, h1, hL, h2, h3⟩, st⟩
  · dsimp only [Pt.U, Pt.locs, Pt.cells, Pt.slots] at X' e1 e2 h1 h2 h3 st
    subst h1; subst h2; subst h3
    exact Or.inl ⟨v, (T.setVm vm₁).calling g' mk As.toArray, t, U', L, hT, X', hL, e1, e2, hq, st⟩
  · dsimp only [Pt.U, Pt.locs, Pt.cells, Pt.slots] at X' e1 e2 h1 h2 h3 st hcl
    subst h1; subst h2; subst h3
    exact Or.inr ⟨q, (T.setVm vm₁).calling g' mk As.toArray, t, U', L, E, ce, hT, X', hL, e1, e2, hq, hce, hcv, vx_cls hW₁ hcl, st⟩
end
end VXH
theorem vx_ofWH {l : Launch} {y : MethodName} {ws ws' : List Cond} {rm : Room} {Pc : Array Value → State → Prop} {Qc : Array Value → State → Outcome → State → Prop} {XC : String → State → State → Prop} {mc ms : Nat} {free : Addr → Prop} {cc : ByteArray} {maxL : Nat} {ret : Option FieldType} {hh : List (Nat × Nat × Nat × Nat)}
    (hy : plainName y.cls = true) (hw : ws = Cond.codeWith y cc maxL ret hh :: ws')
    (body : ∀ p e s m args below meth c s₁, BodyLoose p l y (headSpec ws rm) cc maxL ret e s m args below meth c s₁ → c.maxLocals = maxL → Pc args s →
      W p l e (headSpec ws rm).room s m args below meth c s.heap [] 0 0 (vx_MQ below Qc XC args s mc ms free) (entryFrame m args maxL)) : vx_Met l y ws rm Pc Qc XC mc ms free := by
  refine MetFree.of_bodyS (code := cc) (maxLocals := maxL) (ret := ret) hy ?_ ?_
  · intro args s m h hn
    obtain ⟨m9, meth, c, hn9, h1, h2, h3, h4, -, h5, h6, -⟩ := Cond.codeWith_spec (atoms_spec (ws := ws) h _ (by rw [hw]; exact List.mem_cons_self))
    cases hn.symm.trans hn9
    exact ⟨meth, c, h1, h2, h3, h4, h5, h6⟩
  · intro p e s m args below meth c s₁ B hml hP _
    have hh0 : s₁.heap = s.heap := by rw [B.state]; rfl
    obtain ⟨t, a1, o, b1, b2, b3⟩ := body p e s m args below meth c s₁ B hml hP s₁ hh0 (Stand.of_body B)
    exact ⟨t, o, a1, b1, b2, b3⟩
/-! ===== END ===== -/
end
section
def TC : u_T := fun k => match k with
  | 0 => ("RoomHours$Course", "house", "LRoomHours$House;", true)
  | 1 => ("RoomHours$Course", "over", "I", false)
  | 2 => ("RoomHours$Course", "heat", "[J", true)
  | 3 => ("RoomHours$Course", "warmth", "[J", true)
  | 4 => ("RoomHours$Course", "given", "[J", true)
  | 5 => ("RoomHours$Course", "taken", "[J", true)
  | 6 => ("RoomHours$Course", "greatest", "[J", true)
  | 7 => ("RoomHours$Course", "uneasy", "[I", true)
  | 8 => ("RoomHours$Course", "begun", "J", false)
  | 9 => ("RoomHours$Course", "fromSun", "J", false)
  | 10 => ("RoomHours$Course", "fromPersons", "J", false)
  | 11 => ("RoomHours$Course", "goneOut", "J", false)
  | 12 => ("RoomHours$Course", "setRoom", "I", false)
  | 13 => ("RoomHours$Course", "setTried", "I", false)
  | 14 => ("RoomHours$Course", "setFrom", "I", false)
  | 15 => ("RoomHours$Course", "mostRoom", "I", false)
  | 16 => ("RoomHours$Course", "mostTried", "I", false)
  | _ => ("RoomHours$Course", "fellShort", "Z", false)
def tyC : Nat → FieldType := fun k => match k with
  | 0 => .object "RoomHours$House"
  | 1 => .int
  | 2 => .array .long
  | 3 => .array .long
  | 4 => .array .long
  | 5 => .array .long
  | 6 => .array .long
  | 7 => .array .int
  | 8 => .long
  | 9 => .long
  | 10 => .long
  | 11 => .long
  | 12 => .int
  | 13 => .int
  | 14 => .int
  | 15 => .int
  | 16 => .int
  | _ => .boolean
theorem nC : ∀ a, a < 18 → ∀ b, b < 18 → a ≠ b → (TC a).2.1 ≠ (TC b).2.1 := by decide +kernel
theorem tC_ok : ∀ k, k < 18 → parseFieldDescriptor (TC k).2.2.1 = some (tyC k) := by decide +kernel
def TH : u_T := fun k => match k with
  | 0 => ("RoomHours$House", "rooms", "I", false)
  | 1 => ("RoomHours$House", "stores", "[I", true)
  | 2 => ("RoomHours$House", "leadsAt", "[I", true)
  | 3 => ("RoomHours$House", "mosts", "[[I", true)
  | 4 => ("RoomHours$House", "plans", "[[I", true)
  | 5 => ("RoomHours$House", "walls", "I", false)
  | 6 => ("RoomHours$House", "wallFrom", "[I", true)
  | 7 => ("RoomHours$House", "wallTo", "[I", true)
  | 8 => ("RoomHours$House", "wallLeads", "[I", true)
  | 9 => ("RoomHours$House", "windows", "I", false)
  | 10 => ("RoomHours$House", "windowRoom", "[I", true)
  | 11 => ("RoomHours$House", "windowSide", "[I", true)
  | 12 => ("RoomHours$House", "windowArea", "[I", true)
  | 13 => ("RoomHours$House", "windowLimit", "[I", true)
  | 14 => ("RoomHours$House", "outsides", "[I", true)
  | 15 => ("RoomHours$House", "suns", "[[I", true)
  | 16 => ("RoomHours$House", "low", "I", false)
  | _ => ("RoomHours$House", "high", "I", false)
def tyH : Nat → FieldType := fun k => match k with
  | 0 => .int
  | 1 => .array .int
  | 2 => .array .int
  | 3 => .array (.array .int)
  | 4 => .array (.array .int)
  | 5 => .int
  | 6 => .array .int
  | 7 => .array .int
  | 8 => .array .int
  | 9 => .int
  | 10 => .array .int
  | 11 => .array .int
  | 12 => .array .int
  | 13 => .array .int
  | 14 => .array .int
  | 15 => .array (.array .int)
  | 16 => .int
  | _ => .int
theorem nH : ∀ a, a < 18 → ∀ b, b < 18 → a ≠ b → (TH a).2.1 ≠ (TH b).2.1 := by decide +kernel
theorem tH_ok : ∀ k, k < 18 → parseFieldDescriptor (TH k).2.2.1 = some (tyH k) := by decide +kernel
def TR : u_T := fun k => match k with
  | 0 => ("RoomHours", "house", "LRoomHours$House;", true)
  | 1 => ("RoomHours", "now", "LRoomHours$Course;", true)
  | _ => ("RoomHours", "trial", "LRoomHours$Course;", true)
def tyR : Nat → FieldType := fun k => match k with
  | 0 => .object "RoomHours$House"
  | 1 => .object "RoomHours$Course"
  | _ => .object "RoomHours$Course"
theorem nR : ∀ a, a < 3 → ∀ b, b < 3 → a ≠ b → (TR a).2.1 ≠ (TR b).2.1 := by decide +kernel
theorem tR_ok : ∀ k, k < 3 → parseFieldDescriptor (TR k).2.2.1 = some (tyR k) := by decide +kernel
def TM : u_T := fun k => match k with
  | 0 => ("RoomHoursModel", "thrown", "I", false)
  | 1 => ("RoomHoursModel", "rooms", "I", false)
  | 2 => ("RoomHoursModel", "store", "[I", true)
  | 3 => ("RoomHoursModel", "heat", "[J", true)
  | 4 => ("RoomHoursModel", "uneasy", "[I", true)
  | 5 => ("RoomHoursModel", "gave", "[J", true)
  | 6 => ("RoomHoursModel", "taken", "[J", true)
  | 7 => ("RoomHoursModel", "greatest", "[J", true)
  | 8 => ("RoomHoursModel", "mostHeating", "[I", true)
  | 9 => ("RoomHoursModel", "mostCooling", "[I", true)
  | 10 => ("RoomHoursModel", "began", "J", false)
  | 11 => ("RoomHoursModel", "walls", "I", false)
  | 12 => ("RoomHoursModel", "wallRoom", "[I", true)
  | 13 => ("RoomHoursModel", "wallOther", "[I", true)
  | 14 => ("RoomHoursModel", "leads", "[I", true)
  | 15 => ("RoomHoursModel", "windows", "I", false)
  | 16 => ("RoomHoursModel", "windowRoom", "[I", true)
  | 17 => ("RoomHoursModel", "windowSide", "[I", true)
  | 18 => ("RoomHoursModel", "windowArea", "[I", true)
  | 19 => ("RoomHoursModel", "windowLimit", "[I", true)
  | 20 => ("RoomHoursModel", "outside", "[I", true)
  | 21 => ("RoomHoursModel", "sun", "[I", true)
  | 22 => ("RoomHoursModel", "persons", "[I", true)
  | 23 => ("RoomHoursModel", "set", "[I", true)
  | 24 => ("RoomHoursModel", "cool", "[I", true)
  | 25 => ("RoomHoursModel", "low", "I", false)
  | 26 => ("RoomHoursModel", "high", "I", false)
  | 27 => ("RoomHoursModel", "now", "I", false)
  | 28 => ("RoomHoursModel", "bySun", "J", false)
  | 29 => ("RoomHoursModel", "byPersons", "J", false)
  | 30 => ("RoomHoursModel", "out", "J", false)
  | 31 => ("RoomHoursModel", "warmth", "[J", true)
  | 32 => ("RoomHoursModel", "triedRoom", "I", false)
  | 33 => ("RoomHoursModel", "triedWarmth", "I", false)
  | 34 => ("RoomHoursModel", "triedFrom", "I", false)
  | 35 => ("RoomHoursModel", "wasLow", "Z", false)
  | _ => ("RoomHoursModel", "kept", "[J", true)
def tyM : Nat → FieldType := fun k => match k with
  | 0 => .int
  | 1 => .int
  | 2 => .array .int
  | 3 => .array .long
  | 4 => .array .int
  | 5 => .array .long
  | 6 => .array .long
  | 7 => .array .long
  | 8 => .array .int
  | 9 => .array .int
  | 10 => .long
  | 11 => .int
  | 12 => .array .int
  | 13 => .array .int
  | 14 => .array .int
  | 15 => .int
  | 16 => .array .int
  | 17 => .array .int
  | 18 => .array .int
  | 19 => .array .int
  | 20 => .array .int
  | 21 => .array .int
  | 22 => .array .int
  | 23 => .array .int
  | 24 => .array .int
  | 25 => .int
  | 26 => .int
  | 27 => .int
  | 28 => .long
  | 29 => .long
  | 30 => .long
  | 31 => .array .long
  | 32 => .int
  | 33 => .int
  | 34 => .int
  | 35 => .boolean
  | _ => .array .long
theorem nM : ∀ a, a < 37 → ∀ b, b < 37 → a ≠ b → (TM a).2.1 ≠ (TM b).2.1 := by decide +kernel
theorem tM_ok : ∀ k, k < 37 → parseFieldDescriptor (TM k).2.2.1 = some (tyM k) := by decide +kernel
abbrev kcl : List vw_C := [("RoomHours$Course", TC, 18), ("RoomHours$House", TH, 18), ("RoomHours", TR, 3), ("RoomHoursModel", TM, 37)]
abbrev bR_init : ByteArray := prog_1_method_1_code
def yR_init : MethodName := ⟨"RoomHours", "<init>", "()V"⟩
abbrev bR_room : ByteArray := prog_1_method_2_code
def yR_room : MethodName := ⟨"RoomHours", "room", "(II)I"⟩
abbrev bR_wall : ByteArray := prog_1_method_3_code
def yR_wall : MethodName := ⟨"RoomHours", "wall", "(III)I"⟩
abbrev bR_leads : ByteArray := prog_1_method_4_code
def yR_leads : MethodName := ⟨"RoomHours", "leads", "(II)I"⟩
abbrev bR_window : ByteArray := prog_1_method_5_code
def yR_window : MethodName := ⟨"RoomHours", "window", "(IIII)I"⟩
abbrev bR_outside : ByteArray := prog_1_method_6_code
def yR_outside : MethodName := ⟨"RoomHours", "outside", "(II)I"⟩
abbrev bR_sun : ByteArray := prog_1_method_7_code
def yR_sun : MethodName := ⟨"RoomHours", "sun", "(III)I"⟩
abbrev bR_plan : ByteArray := prog_1_method_8_code
def yR_plan : MethodName := ⟨"RoomHours", "plan", "(IIII)I"⟩
abbrev bR_most : ByteArray := prog_1_method_9_code
def yR_most : MethodName := ⟨"RoomHours", "most", "(III)I"⟩
abbrev bR_ease : ByteArray := prog_1_method_10_code
def yR_ease : MethodName := ⟨"RoomHours", "ease", "(II)V"⟩
abbrev bR_run : ByteArray := prog_1_method_11_code
def yR_run : MethodName := ⟨"RoomHours", "run", "(I)I"⟩
abbrev bR_told : ByteArray := prog_1_method_12_code
def yR_told : MethodName := ⟨"RoomHours", "told", "(II)J"⟩
abbrev bR_balance : ByteArray := prog_1_method_13_code
def yR_balance : MethodName := ⟨"RoomHours", "balance", "(I)J"⟩
abbrev bR_early : ByteArray := prog_1_method_14_code
def yR_early : MethodName := ⟨"RoomHours", "early", "(III)I"⟩
abbrev bR_strong : ByteArray := prog_1_method_15_code
def yR_strong : MethodName := ⟨"RoomHours", "strong", "(II)I"⟩
abbrev bR_isWithin : ByteArray := prog_1_method_16_code
def yR_isWithin : MethodName := ⟨"RoomHours", "isWithin", "(III)Z"⟩
abbrev bR_isWarmth : ByteArray := prog_1_method_17_code
def yR_isWarmth : MethodName := ⟨"RoomHours", "isWarmth", "(I)Z"⟩
abbrev bR_isHour : ByteArray := prog_1_method_18_code
def yR_isHour : MethodName := ⟨"RoomHours", "isHour", "(I)Z"⟩
abbrev bR_isSide : ByteArray := prog_1_method_19_code
def yR_isSide : MethodName := ⟨"RoomHours", "isSide", "(I)Z"⟩
abbrev bR_isPlan : ByteArray := prog_1_method_20_code
def yR_isPlan : MethodName := ⟨"RoomHours", "isPlan", "(II)Z"⟩
abbrev bM_init : ByteArray := prog_5_method_1_code
def yM_init : MethodName := ⟨"RoomHoursModel", "<init>", "()V"⟩
abbrev bM_thrown : ByteArray := prog_5_method_2_code
def yM_thrown : MethodName := ⟨"RoomHoursModel", "thrown", "()I"⟩
abbrev bM_in : ByteArray := prog_5_method_3_code
def yM_in : MethodName := ⟨"RoomHoursModel", "in", "(III)Z"⟩
abbrev bM_isWarmth : ByteArray := prog_5_method_4_code
def yM_isWarmth : MethodName := ⟨"RoomHoursModel", "isWarmth", "(I)Z"⟩
abbrev bM_isRoom : ByteArray := prog_5_method_5_code
def yM_isRoom : MethodName := ⟨"RoomHoursModel", "isRoom", "(I)Z"⟩
abbrev bM_floor : ByteArray := prog_5_method_6_code
def yM_floor : MethodName := ⟨"RoomHoursModel", "floor", "(JI)J"⟩
abbrev bM_room : ByteArray := prog_5_method_7_code
def yM_room : MethodName := ⟨"RoomHoursModel", "room", "(II)I"⟩
abbrev bM_isTooMuch : ByteArray := prog_5_method_8_code
def yM_isTooMuch : MethodName := ⟨"RoomHoursModel", "isTooMuch", "(II)Z"⟩
abbrev bM_wall : ByteArray := prog_5_method_9_code
def yM_wall : MethodName := ⟨"RoomHoursModel", "wall", "(III)I"⟩
abbrev bM_leads : ByteArray := prog_5_method_10_code
def yM_leads : MethodName := ⟨"RoomHoursModel", "leads", "(II)I"⟩
abbrev bM_window : ByteArray := prog_5_method_11_code
def yM_window : MethodName := ⟨"RoomHoursModel", "window", "(IIII)I"⟩
abbrev bM_outside : ByteArray := prog_5_method_12_code
def yM_outside : MethodName := ⟨"RoomHoursModel", "outside", "(II)I"⟩
abbrev bM_sun : ByteArray := prog_5_method_13_code
def yM_sun : MethodName := ⟨"RoomHoursModel", "sun", "(III)I"⟩
abbrev bM_plan : ByteArray := prog_5_method_14_code
def yM_plan : MethodName := ⟨"RoomHoursModel", "plan", "(IIII)I"⟩
abbrev bM_most : ByteArray := prog_5_method_15_code
def yM_most : MethodName := ⟨"RoomHoursModel", "most", "(III)I"⟩
abbrev bM_ease : ByteArray := prog_5_method_16_code
def yM_ease : MethodName := ⟨"RoomHoursModel", "ease", "(II)V"⟩
abbrev bM_warmthOf : ByteArray := prog_5_method_17_code
def yM_warmthOf : MethodName := ⟨"RoomHoursModel", "warmthOf", "(I)J"⟩
abbrev bM_flows : ByteArray := prog_5_method_18_code
def yM_flows : MethodName := ⟨"RoomHoursModel", "flows", "(I)V"⟩
abbrev bM_step : ByteArray := prog_5_method_19_code
def yM_step : MethodName := ⟨"RoomHoursModel", "step", "()V"⟩
abbrev bM_run : ByteArray := prog_5_method_20_code
def yM_run : MethodName := ⟨"RoomHoursModel", "run", "(I)I"⟩
abbrev bM_told : ByteArray := prog_5_method_21_code
def yM_told : MethodName := ⟨"RoomHoursModel", "told", "(II)J"⟩
abbrev bM_balance : ByteArray := prog_5_method_22_code
def yM_balance : MethodName := ⟨"RoomHoursModel", "balance", "(I)J"⟩
abbrev bM_keep : ByteArray := prog_5_method_23_code
def yM_keep : MethodName := ⟨"RoomHoursModel", "keep", "()V"⟩
abbrev bM_putBack : ByteArray := prog_5_method_24_code
def yM_putBack : MethodName := ⟨"RoomHoursModel", "putBack", "()V"⟩
abbrev bM_early : ByteArray := prog_5_method_25_code
def yM_early : MethodName := ⟨"RoomHoursModel", "early", "(III)I"⟩
abbrev bM_strong : ByteArray := prog_5_method_26_code
def yM_strong : MethodName := ⟨"RoomHoursModel", "strong", "(II)I"⟩
abbrev bC_init : ByteArray := prog_2_method_1_code
def yC_init : MethodName := ⟨"RoomHours$Course", "<init>", "(LRoomHours$House;)V"⟩
abbrev bC_beginRoom : ByteArray := prog_2_method_2_code
def yC_beginRoom : MethodName := ⟨"RoomHours$Course", "beginRoom", "(IJ)V"⟩
abbrev bC_copyOf : ByteArray := prog_2_method_3_code
def yC_copyOf : MethodName := ⟨"RoomHours$Course", "copyOf", "(LRoomHours$Course;)V"⟩
abbrev bC_trySet : ByteArray := prog_2_method_4_code
def yC_trySet : MethodName := ⟨"RoomHours$Course", "trySet", "(III)V"⟩
abbrev bC_tryMost : ByteArray := prog_2_method_5_code
def yC_tryMost : MethodName := ⟨"RoomHours$Course", "tryMost", "(II)V"⟩
abbrev bC_warmthOf : ByteArray := prog_2_method_6_code
def yC_warmthOf : MethodName := ⟨"RoomHours$Course", "warmthOf", "(I)J"⟩
abbrev bC_sumOf : ByteArray := prog_2_method_7_code
def yC_sumOf : MethodName := ⟨"RoomHours$Course", "sumOf", "([J)J"⟩
abbrev bC_nextBeginning : ByteArray := prog_2_method_8_code
def yC_nextBeginning : MethodName := ⟨"RoomHours$Course", "nextBeginning", "(I)I"⟩
abbrev bC_staysUp : ByteArray := prog_2_method_9_code
def yC_staysUp : MethodName := ⟨"RoomHours$Course", "staysUp", "(II)Z"⟩
abbrev bC_step : ByteArray := prog_2_method_10_code
def yC_step : MethodName := ⟨"RoomHours$Course", "step", "()V"⟩
abbrev bC_hourOfDay : ByteArray := prog_2_method_11_code
def yC_hourOfDay : MethodName := ⟨"RoomHours$Course", "hourOfDay", "()I"⟩
abbrev bC_hourEnds : ByteArray := prog_2_method_12_code
def yC_hourEnds : MethodName := ⟨"RoomHours$Course", "hourEnds", "()Z"⟩
abbrev bC_planned : ByteArray := prog_2_method_13_code
def yC_planned : MethodName := ⟨"RoomHours$Course", "planned", "(III)I"⟩
abbrev bC_hasPersons : ByteArray := prog_2_method_14_code
def yC_hasPersons : MethodName := ⟨"RoomHours$Course", "hasPersons", "(II)Z"⟩
abbrev bC_passWalls : ByteArray := prog_2_method_15_code
def yC_passWalls : MethodName := ⟨"RoomHours$Course", "passWalls", "(I)V"⟩
abbrev bC_passWindows : ByteArray := prog_2_method_16_code
def yC_passWindows : MethodName := ⟨"RoomHours$Course", "passWindows", "(I)V"⟩
abbrev bC_bringPersons : ByteArray := prog_2_method_17_code
def yC_bringPersons : MethodName := ⟨"RoomHours$Course", "bringPersons", "(II)V"⟩
abbrev bC_heatUp : ByteArray := prog_2_method_18_code
def yC_heatUp : MethodName := ⟨"RoomHours$Course", "heatUp", "(II)V"⟩
abbrev bC_setOf : ByteArray := prog_2_method_19_code
def yC_setOf : MethodName := ⟨"RoomHours$Course", "setOf", "(II)I"⟩
abbrev bC_heatingOf : ByteArray := prog_2_method_20_code
def yC_heatingOf : MethodName := ⟨"RoomHours$Course", "heatingOf", "(I)I"⟩
abbrev bC_coolDown : ByteArray := prog_2_method_21_code
def yC_coolDown : MethodName := ⟨"RoomHours$Course", "coolDown", "(II)V"⟩
abbrev bC_countUneasy : ByteArray := prog_2_method_22_code
def yC_countUneasy : MethodName := ⟨"RoomHours$Course", "countUneasy", "(I)V"⟩
abbrev bH_init : ByteArray := prog_3_method_1_code
def yH_init : MethodName := ⟨"RoomHours$House", "<init>", "()V"⟩
abbrev bH_hasRoom : ByteArray := prog_3_method_2_code
def yH_hasRoom : MethodName := ⟨"RoomHours$House", "hasRoom", "(I)Z"⟩
abbrev bH_bears : ByteArray := prog_3_method_3_code
def yH_bears : MethodName := ⟨"RoomHours$House", "bears", "(II)Z"⟩
abbrev bH_addRoom : ByteArray := prog_3_method_4_code
def yH_addRoom : MethodName := ⟨"RoomHours$House", "addRoom", "(I)I"⟩
abbrev bH_addWall : ByteArray := prog_3_method_5_code
def yH_addWall : MethodName := ⟨"RoomHours$House", "addWall", "(III)I"⟩
abbrev bH_addLeads : ByteArray := prog_3_method_6_code
def yH_addLeads : MethodName := ⟨"RoomHours$House", "addLeads", "(II)V"⟩
abbrev bH_addWindow : ByteArray := prog_3_method_7_code
def yH_addWindow : MethodName := ⟨"RoomHours$House", "addWindow", "(IIII)I"⟩
abbrev bL_room : ByteArray := method_3_code
def yL_room : MethodName := ⟨"RoomHoursLaw", "room", "(LRoomHours;II[J)I"⟩
abbrev bL_wall : ByteArray := method_4_code
def yL_wall : MethodName := ⟨"RoomHoursLaw", "wall", "(LRoomHours;III[J)I"⟩
abbrev bL_leads : ByteArray := method_5_code
def yL_leads : MethodName := ⟨"RoomHoursLaw", "leads", "(LRoomHours;II[J)I"⟩
abbrev bL_window : ByteArray := method_6_code
def yL_window : MethodName := ⟨"RoomHoursLaw", "window", "(LRoomHours;IIII[J)I"⟩
abbrev bL_outside : ByteArray := method_7_code
def yL_outside : MethodName := ⟨"RoomHoursLaw", "outside", "(LRoomHours;II[J)I"⟩
abbrev bL_sun : ByteArray := method_8_code
def yL_sun : MethodName := ⟨"RoomHoursLaw", "sun", "(LRoomHours;III[J)I"⟩
abbrev bL_plan : ByteArray := method_9_code
def yL_plan : MethodName := ⟨"RoomHoursLaw", "plan", "(LRoomHours;IIII[J)I"⟩
abbrev bL_most : ByteArray := method_10_code
def yL_most : MethodName := ⟨"RoomHoursLaw", "most", "(LRoomHours;III[J)I"⟩
abbrev bL_ease : ByteArray := method_11_code
def yL_ease : MethodName := ⟨"RoomHoursLaw", "ease", "(LRoomHours;II)I"⟩
abbrev bL_run : ByteArray := method_12_code
def yL_run : MethodName := ⟨"RoomHoursLaw", "run", "(LRoomHours;I[J)I"⟩
abbrev bL_told : ByteArray := method_13_code
def yL_told : MethodName := ⟨"RoomHoursLaw", "told", "(LRoomHours;II[J)I"⟩
abbrev bL_balance : ByteArray := method_14_code
def yL_balance : MethodName := ⟨"RoomHoursLaw", "balance", "(LRoomHours;I[J)I"⟩
abbrev bL_early : ByteArray := method_15_code
def yL_early : MethodName := ⟨"RoomHoursLaw", "early", "(LRoomHours;III[J)I"⟩
abbrev bL_strong : ByteArray := method_16_code
def yL_strong : MethodName := ⟨"RoomHoursLaw", "strong", "(LRoomHours;II[J)I"⟩
abbrev bJ_floorDiv : ByteArray := prog_9_method_49_code
def yJ_floorDiv : MethodName := ⟨"java/lang/Math", "floorDiv", "(JJ)J"⟩
abbrev bJ_floorMod : ByteArray := prog_9_method_50_code
def yJ_floorMod : MethodName := ⟨"java/lang/Math", "floorMod", "(II)I"⟩
abbrev bA_fill : ByteArray := prog_14_method_103_code
def yA_fill : MethodName := ⟨"java/util/Arrays", "fill", "([II)V"⟩
def kT : List Cond := lw_tbl.filter goodWord
theorem kT_in {w : Cond} (h : w ∈ lw_tbl) (g : goodWord w = true) : w ∈ kT := List.mem_filter.mpr ⟨h, g⟩
theorem kT_good : GoodIn kT kT := goodIn_sub (fun _ h => h) (List.all_eq_true.mpr (fun w hw => (List.mem_filter.mp hw).2))
theorem kt_0 : Cond.initialized "RoomHoursLaw" ∈ kT := kT_in (List.mem_append_right _ (List.mem_append_left _ (List.mem_of_getElem? (l := tables_1_1) (i := 0) rfl))) rfl
theorem kt_1 : Cond.initialized "RoomHours" ∈ kT := kT_in (List.mem_append_right _ (List.mem_append_left _ (List.mem_of_getElem? (l := tables_1_1) (i := 1) rfl))) rfl
theorem kt_2 : Cond.initialized "RoomHours$House" ∈ kT := kT_in (List.mem_append_right _ (List.mem_append_left _ (List.mem_of_getElem? (l := tables_1_1) (i := 2) rfl))) rfl
theorem kt_3 : Cond.initialized "java/util/Arrays" ∈ kT := kT_in (List.mem_append_right _ (List.mem_append_left _ (List.mem_of_getElem? (l := tables_1_1) (i := 3) rfl))) rfl
theorem kt_4 : Cond.initialized "RoomHours$Course" ∈ kT := kT_in (List.mem_append_right _ (List.mem_append_left _ (List.mem_of_getElem? (l := tables_1_1) (i := 4) rfl))) rfl
theorem kt_5 : Cond.initialized "RoomHoursModel" ∈ kT := kT_in (List.mem_append_right _ (List.mem_append_left _ (List.mem_of_getElem? (l := tables_1_1) (i := 5) rfl))) rfl
theorem kt_6 : Cond.initialized "java/lang/Throwable" ∈ kT := kT_in (List.mem_append_right _ (List.mem_append_left _ (List.mem_of_getElem? (l := tables_1_1) (i := 6) rfl))) rfl
theorem kt_7 : Cond.initialized "java/lang/Exception" ∈ kT := kT_in (List.mem_append_right _ (List.mem_append_left _ (List.mem_of_getElem? (l := tables_1_1) (i := 7) rfl))) rfl
theorem kt_8 : Cond.initialized "java/lang/RuntimeException" ∈ kT := kT_in (List.mem_append_right _ (List.mem_append_left _ (List.mem_of_getElem? (l := tables_1_1) (i := 8) rfl))) rfl
theorem kt_9 : Cond.initialized "java/lang/IllegalArgumentException" ∈ kT := kT_in (List.mem_append_right _ (List.mem_append_left _ (List.mem_of_getElem? (l := tables_1_1) (i := 9) rfl))) rfl
theorem kt_10 : Cond.initialized "java/lang/IllegalStateException" ∈ kT := kT_in (List.mem_append_right _ (List.mem_append_left _ (List.mem_of_getElem? (l := tables_1_1) (i := 10) rfl))) rfl
theorem kt_11 : Cond.initialized "java/lang/Math" ∈ kT := kT_in (List.mem_append_right _ (List.mem_append_left _ (List.mem_of_getElem? (l := tables_1_1) (i := 11) rfl))) rfl
theorem kt_12 : Cond.initialized "java/lang/System" ∈ kT := kT_in (List.mem_append_right _ (List.mem_append_left _ (List.mem_of_getElem? (l := tables_1_1) (i := 12) rfl))) rfl
theorem kt_13 : Cond.classLink "RoomHoursLaw" 8 "RoomHours" ∈ kT := kT_in (List.mem_append_right _ (List.mem_append_left _ (List.mem_of_getElem? (l := tables_1_1) (i := 13) rfl))) rfl
theorem kt_14 : Cond.instantiable "RoomHours" 3 ∈ kT := kT_in (List.mem_append_right _ (List.mem_append_left _ (List.mem_of_getElem? (l := tables_1_1) (i := 14) rfl))) rfl
theorem kt_15 : Cond.methodLink "RoomHoursLaw" 62 yR_init ∈ kT := kT_in (List.mem_append_right _ (List.mem_append_left _ (List.mem_of_getElem? (l := tables_1_1) (i := 15) rfl))) rfl
theorem kt_16 : Cond.instanceMethod yR_init ∈ kT := kT_in (List.mem_append_right _ (List.mem_append_left _ (List.mem_of_getElem? (l := tables_1_1) (i := 16) rfl))) rfl
theorem kt_17 : Cond.code yR_init prog_1_method_1_code 1 (Option.none : Option Jvm.ClassFile.FieldType) ∈ kT := kT_in (List.mem_append_right _ (List.mem_append_left _ (List.mem_of_getElem? (l := tables_1_1) (i := 17) rfl))) rfl
theorem kt_18 : Cond.methodLink "RoomHours" 3 ⟨"java/lang/Object", "<init>", "()V"⟩ ∈ kT := kT_in (List.mem_append_right _ (List.mem_append_left _ (List.mem_of_getElem? (l := tables_1_1) (i := 18) rfl))) rfl
theorem kt_19 : Cond.instanceMethod ⟨"java/lang/Object", "<init>", "()V"⟩ ∈ kT := kT_in (List.mem_append_right _ (List.mem_append_left _ (List.mem_of_getElem? (l := tables_1_1) (i := 19) rfl))) rfl
theorem kt_20 : Cond.code ⟨"java/lang/Object", "<init>", "()V"⟩ object_method_1_code 1 (Option.none : Option Jvm.ClassFile.FieldType) ∈ kT := kT_in (List.mem_append_right _ (List.mem_append_left _ (List.mem_of_getElem? (l := tables_1_1) (i := 20) rfl))) rfl
theorem kt_21 : Cond.classLink "RoomHours" 9 "RoomHours$House" ∈ kT := kT_in (List.mem_append_right _ (List.mem_append_left _ (List.mem_of_getElem? (l := tables_1_1) (i := 21) rfl))) rfl
theorem kt_22 : Cond.instantiable "RoomHours$House" 18 ∈ kT := kT_in (List.mem_append_right _ (List.mem_append_left _ (List.mem_of_getElem? (l := tables_1_1) (i := 22) rfl))) rfl
theorem kt_23 : Cond.methodLink "RoomHours" 11 yH_init ∈ kT := kT_in (List.mem_append_right _ (List.mem_append_left _ (List.mem_of_getElem? (l := tables_1_1) (i := 23) rfl))) rfl
theorem kt_24 : Cond.instanceMethod yH_init ∈ kT := kT_in (List.mem_append_right _ (List.mem_append_left _ (List.mem_of_getElem? (l := tables_1_1) (i := 24) rfl))) rfl
theorem kt_25 : Cond.code yH_init prog_3_method_1_code 1 (Option.none : Option Jvm.ClassFile.FieldType) ∈ kT := kT_in (List.mem_append_right _ (List.mem_append_left _ (List.mem_of_getElem? (l := tables_1_1) (i := 25) rfl))) rfl
theorem kt_26 : Cond.methodLink "RoomHours$House" 3 ⟨"java/lang/Object", "<init>", "()V"⟩ ∈ kT := kT_in (List.mem_append_right _ (List.mem_append_left _ (List.mem_of_getElem? (l := tables_1_1) (i := 26) rfl))) rfl
theorem kt_27 : Cond.classLink "RoomHours$House" 18 "[[I" ∈ kT := kT_in (List.mem_append_right _ (List.mem_append_left _ (List.mem_of_getElem? (l := tables_1_1) (i := 27) rfl))) rfl
theorem kt_29 : Cond.constant "RoomHours$House" 53 (-1000000) ∈ kT := kT_in (List.mem_append_right _ (List.mem_append_left _ (List.mem_of_getElem? (l := tables_1_1) (i := 29) rfl))) rfl
theorem kt_30 : Cond.methodLink "RoomHours$House" 54 yA_fill ∈ kT := kT_in (List.mem_append_right _ (List.mem_append_left _ (List.mem_of_getElem? (l := tables_1_1) (i := 30) rfl))) rfl
theorem kt_31 : Cond.static yA_fill ∈ kT := kT_in (List.mem_append_right _ (List.mem_append_left _ (List.mem_of_getElem? (l := tables_1_1) (i := 31) rfl))) rfl
theorem kt_32 : Cond.code yA_fill prog_14_method_103_code 4 (Option.none : Option Jvm.ClassFile.FieldType) ∈ kT := kT_in (List.mem_append_right _ (List.mem_append_left _ (List.mem_of_getElem? (l := tables_1_1) (i := 32) rfl))) rfl
theorem kt_33 : Cond.fieldLink "RoomHours$House" 60 "RoomHours$House" "rooms" "I" ∈ kT := kT_in (List.mem_append_right _ (List.mem_append_left _ (List.mem_of_getElem? (l := tables_1_1) (i := 33) rfl))) rfl
theorem kt_34 : Cond.fieldLink "RoomHours" 43 "RoomHours$House" "rooms" "I" ∈ kT := kT_in (List.mem_append_right _ (List.mem_append_left _ (List.mem_of_getElem? (l := tables_1_1) (i := 34) rfl))) rfl
theorem kt_35 : Cond.fieldLink "RoomHours$Course" 79 "RoomHours$House" "rooms" "I" ∈ kT := kT_in (List.mem_append_right _ (List.mem_append_left _ (List.mem_of_getElem? (l := tables_1_1) (i := 35) rfl))) rfl
theorem kt_36 : Cond.fieldLink "RoomHours$House" 9 "RoomHours$House" "stores" "[I" ∈ kT := kT_in (List.mem_append_right _ (List.mem_append_left _ (List.mem_of_getElem? (l := tables_1_1) (i := 36) rfl))) rfl
theorem kt_37 : Cond.fieldLink "RoomHours$Course" 68 "RoomHours$House" "stores" "[I" ∈ kT := kT_in (List.mem_append_right _ (List.mem_append_left _ (List.mem_of_getElem? (l := tables_1_1) (i := 37) rfl))) rfl
theorem kt_38 : Cond.fieldLink "RoomHours$House" 15 "RoomHours$House" "leadsAt" "[I" ∈ kT := kT_in (List.mem_append_right _ (List.mem_append_left _ (List.mem_of_getElem? (l := tables_1_1) (i := 38) rfl))) rfl
theorem kt_39 : Cond.fieldLink "RoomHours$House" 20 "RoomHours$House" "mosts" "[[I" ∈ kT := kT_in (List.mem_append_right _ (List.mem_append_left _ (List.mem_of_getElem? (l := tables_1_1) (i := 39) rfl))) rfl
theorem kt_40 : Cond.fieldLink "RoomHours" 141 "RoomHours$House" "mosts" "[[I" ∈ kT := kT_in (List.mem_append_right _ (List.mem_append_left _ (List.mem_of_getElem? (l := tables_1_1) (i := 40) rfl))) rfl
theorem kt_41 : Cond.fieldLink "RoomHours$Course" 194 "RoomHours$House" "mosts" "[[I" ∈ kT := kT_in (List.mem_append_right _ (List.mem_append_left _ (List.mem_of_getElem? (l := tables_1_1) (i := 41) rfl))) rfl
theorem kt_42 : Cond.fieldLink "RoomHours$House" 23 "RoomHours$House" "plans" "[[I" ∈ kT := kT_in (List.mem_append_right _ (List.mem_append_left _ (List.mem_of_getElem? (l := tables_1_1) (i := 42) rfl))) rfl
theorem kt_43 : Cond.fieldLink "RoomHours" 135 "RoomHours$House" "plans" "[[I" ∈ kT := kT_in (List.mem_append_right _ (List.mem_append_left _ (List.mem_of_getElem? (l := tables_1_1) (i := 43) rfl))) rfl
theorem kt_44 : Cond.fieldLink "RoomHours$Course" 128 "RoomHours$House" "plans" "[[I" ∈ kT := kT_in (List.mem_append_right _ (List.mem_append_left _ (List.mem_of_getElem? (l := tables_1_1) (i := 44) rfl))) rfl
theorem kt_45 : Cond.fieldLink "RoomHours" 67 "RoomHours$House" "walls" "I" ∈ kT := kT_in (List.mem_append_right _ (List.mem_append_left _ (List.mem_of_getElem? (l := tables_1_1) (i := 45) rfl))) rfl
theorem kt_46 : Cond.fieldLink "RoomHours$House" 68 "RoomHours$House" "walls" "I" ∈ kT := kT_in (List.mem_append_right _ (List.mem_append_left _ (List.mem_of_getElem? (l := tables_1_1) (i := 46) rfl))) rfl
theorem kt_47 : Cond.fieldLink "RoomHours$Course" 136 "RoomHours$House" "walls" "I" ∈ kT := kT_in (List.mem_append_right _ (List.mem_append_left _ (List.mem_of_getElem? (l := tables_1_1) (i := 47) rfl))) rfl
theorem kt_48 : Cond.fieldLink "RoomHours$House" 26 "RoomHours$House" "wallFrom" "[I" ∈ kT := kT_in (List.mem_append_right _ (List.mem_append_left _ (List.mem_of_getElem? (l := tables_1_1) (i := 48) rfl))) rfl
theorem kt_49 : Cond.fieldLink "RoomHours" 86 "RoomHours$House" "wallFrom" "[I" ∈ kT := kT_in (List.mem_append_right _ (List.mem_append_left _ (List.mem_of_getElem? (l := tables_1_1) (i := 49) rfl))) rfl
theorem kt_50 : Cond.fieldLink "RoomHours$Course" 139 "RoomHours$House" "wallFrom" "[I" ∈ kT := kT_in (List.mem_append_right _ (List.mem_append_left _ (List.mem_of_getElem? (l := tables_1_1) (i := 50) rfl))) rfl
theorem kt_51 : Cond.fieldLink "RoomHours$House" 29 "RoomHours$House" "wallTo" "[I" ∈ kT := kT_in (List.mem_append_right _ (List.mem_append_left _ (List.mem_of_getElem? (l := tables_1_1) (i := 51) rfl))) rfl
theorem kt_52 : Cond.fieldLink "RoomHours" 89 "RoomHours$House" "wallTo" "[I" ∈ kT := kT_in (List.mem_append_right _ (List.mem_append_left _ (List.mem_of_getElem? (l := tables_1_1) (i := 52) rfl))) rfl
theorem kt_53 : Cond.fieldLink "RoomHours$Course" 142 "RoomHours$House" "wallTo" "[I" ∈ kT := kT_in (List.mem_append_right _ (List.mem_append_left _ (List.mem_of_getElem? (l := tables_1_1) (i := 53) rfl))) rfl
theorem kt_54 : Cond.fieldLink "RoomHours$House" 32 "RoomHours$House" "wallLeads" "[I" ∈ kT := kT_in (List.mem_append_right _ (List.mem_append_left _ (List.mem_of_getElem? (l := tables_1_1) (i := 54) rfl))) rfl
theorem kt_55 : Cond.fieldLink "RoomHours" 82 "RoomHours$House" "wallLeads" "[I" ∈ kT := kT_in (List.mem_append_right _ (List.mem_append_left _ (List.mem_of_getElem? (l := tables_1_1) (i := 55) rfl))) rfl
theorem kt_56 : Cond.fieldLink "RoomHours$Course" 148 "RoomHours$House" "wallLeads" "[I" ∈ kT := kT_in (List.mem_append_right _ (List.mem_append_left _ (List.mem_of_getElem? (l := tables_1_1) (i := 56) rfl))) rfl
theorem kt_57 : Cond.fieldLink "RoomHours" 105 "RoomHours$House" "windows" "I" ∈ kT := kT_in (List.mem_append_right _ (List.mem_append_left _ (List.mem_of_getElem? (l := tables_1_1) (i := 57) rfl))) rfl
theorem kt_58 : Cond.fieldLink "RoomHours$House" 75 "RoomHours$House" "windows" "I" ∈ kT := kT_in (List.mem_append_right _ (List.mem_append_left _ (List.mem_of_getElem? (l := tables_1_1) (i := 58) rfl))) rfl
theorem kt_59 : Cond.fieldLink "RoomHours$Course" 156 "RoomHours$House" "windows" "I" ∈ kT := kT_in (List.mem_append_right _ (List.mem_append_left _ (List.mem_of_getElem? (l := tables_1_1) (i := 59) rfl))) rfl
theorem kt_60 : Cond.fieldLink "RoomHours$House" 35 "RoomHours$House" "windowRoom" "[I" ∈ kT := kT_in (List.mem_append_right _ (List.mem_append_left _ (List.mem_of_getElem? (l := tables_1_1) (i := 60) rfl))) rfl
theorem kt_61 : Cond.fieldLink "RoomHours$Course" 159 "RoomHours$House" "windowRoom" "[I" ∈ kT := kT_in (List.mem_append_right _ (List.mem_append_left _ (List.mem_of_getElem? (l := tables_1_1) (i := 61) rfl))) rfl
theorem kt_62 : Cond.fieldLink "RoomHours$House" 38 "RoomHours$House" "windowSide" "[I" ∈ kT := kT_in (List.mem_append_right _ (List.mem_append_left _ (List.mem_of_getElem? (l := tables_1_1) (i := 62) rfl))) rfl
theorem kt_63 : Cond.fieldLink "RoomHours$Course" 168 "RoomHours$House" "windowSide" "[I" ∈ kT := kT_in (List.mem_append_right _ (List.mem_append_left _ (List.mem_of_getElem? (l := tables_1_1) (i := 63) rfl))) rfl
theorem kt_64 : Cond.fieldLink "RoomHours$House" 41 "RoomHours$House" "windowArea" "[I" ∈ kT := kT_in (List.mem_append_right _ (List.mem_append_left _ (List.mem_of_getElem? (l := tables_1_1) (i := 64) rfl))) rfl
theorem kt_65 : Cond.fieldLink "RoomHours$Course" 162 "RoomHours$House" "windowArea" "[I" ∈ kT := kT_in (List.mem_append_right _ (List.mem_append_left _ (List.mem_of_getElem? (l := tables_1_1) (i := 65) rfl))) rfl
theorem kt_66 : Cond.fieldLink "RoomHours$House" 44 "RoomHours$House" "windowLimit" "[I" ∈ kT := kT_in (List.mem_append_right _ (List.mem_append_left _ (List.mem_of_getElem? (l := tables_1_1) (i := 66) rfl))) rfl
theorem kt_67 : Cond.fieldLink "RoomHours$Course" 171 "RoomHours$House" "windowLimit" "[I" ∈ kT := kT_in (List.mem_append_right _ (List.mem_append_left _ (List.mem_of_getElem? (l := tables_1_1) (i := 67) rfl))) rfl
theorem kt_68 : Cond.fieldLink "RoomHours$House" 47 "RoomHours$House" "outsides" "[I" ∈ kT := kT_in (List.mem_append_right _ (List.mem_append_left _ (List.mem_of_getElem? (l := tables_1_1) (i := 68) rfl))) rfl
theorem kt_69 : Cond.fieldLink "RoomHours" 119 "RoomHours$House" "outsides" "[I" ∈ kT := kT_in (List.mem_append_right _ (List.mem_append_left _ (List.mem_of_getElem? (l := tables_1_1) (i := 69) rfl))) rfl
theorem kt_70 : Cond.fieldLink "RoomHours$Course" 145 "RoomHours$House" "outsides" "[I" ∈ kT := kT_in (List.mem_append_right _ (List.mem_append_left _ (List.mem_of_getElem? (l := tables_1_1) (i := 70) rfl))) rfl
theorem kt_71 : Cond.fieldLink "RoomHours$House" 50 "RoomHours$House" "suns" "[[I" ∈ kT := kT_in (List.mem_append_right _ (List.mem_append_left _ (List.mem_of_getElem? (l := tables_1_1) (i := 71) rfl))) rfl
theorem kt_72 : Cond.fieldLink "RoomHours" 124 "RoomHours$House" "suns" "[[I" ∈ kT := kT_in (List.mem_append_right _ (List.mem_append_left _ (List.mem_of_getElem? (l := tables_1_1) (i := 72) rfl))) rfl
theorem kt_73 : Cond.fieldLink "RoomHours$Course" 165 "RoomHours$House" "suns" "[[I" ∈ kT := kT_in (List.mem_append_right _ (List.mem_append_left _ (List.mem_of_getElem? (l := tables_1_1) (i := 73) rfl))) rfl
theorem kt_74 : Cond.fieldLink "RoomHours$Course" 105 "RoomHours$House" "low" "I" ∈ kT := kT_in (List.mem_append_right _ (List.mem_append_left _ (List.mem_of_getElem? (l := tables_1_1) (i := 74) rfl))) rfl
theorem kt_75 : Cond.fieldLink "RoomHours" 146 "RoomHours$House" "low" "I" ∈ kT := kT_in (List.mem_append_right _ (List.mem_append_left _ (List.mem_of_getElem? (l := tables_1_1) (i := 75) rfl))) rfl
theorem kt_76 : Cond.fieldLink "RoomHours" 149 "RoomHours$House" "high" "I" ∈ kT := kT_in (List.mem_append_right _ (List.mem_append_left _ (List.mem_of_getElem? (l := tables_1_1) (i := 76) rfl))) rfl
theorem kt_77 : Cond.fieldLink "RoomHours$Course" 197 "RoomHours$House" "high" "I" ∈ kT := kT_in (List.mem_append_right _ (List.mem_append_left _ (List.mem_of_getElem? (l := tables_1_1) (i := 77) rfl))) rfl
theorem kt_115 : Cond.arrayClass Jvm.ClassFile.FieldType.int ∈ kT := kT_in (List.mem_append_right _ (List.mem_append_left _ (List.mem_of_getElem? (l := tables_1_1) (i := 115) rfl))) rfl
theorem kt_116 : Cond.classLink "RoomHours" 16 "RoomHours$Course" ∈ kT := kT_in (List.mem_append_right _ (List.mem_append_left _ (List.mem_of_getElem? (l := tables_1_1) (i := 116) rfl))) rfl
theorem kt_117 : Cond.instantiable "RoomHours$Course" 18 ∈ kT := kT_in (List.mem_append_right _ (List.mem_append_left _ (List.mem_of_getElem? (l := tables_1_1) (i := 117) rfl))) rfl
theorem kt_118 : Cond.methodLink "RoomHours" 18 yC_init ∈ kT := kT_in (List.mem_append_right _ (List.mem_append_left _ (List.mem_of_getElem? (l := tables_1_1) (i := 118) rfl))) rfl
theorem kt_119 : Cond.instanceMethod yC_init ∈ kT := kT_in (List.mem_append_right _ (List.mem_append_left _ (List.mem_of_getElem? (l := tables_1_1) (i := 119) rfl))) rfl
theorem kt_120 : Cond.code yC_init prog_2_method_1_code 2 (Option.none : Option Jvm.ClassFile.FieldType) ∈ kT := kT_in (List.mem_append_right _ (List.mem_append_left _ (List.mem_of_getElem? (l := tables_1_1) (i := 120) rfl))) rfl
theorem kt_121 : Cond.methodLink "RoomHours$Course" 3 ⟨"java/lang/Object", "<init>", "()V"⟩ ∈ kT := kT_in (List.mem_append_right _ (List.mem_append_left _ (List.mem_of_getElem? (l := tables_1_1) (i := 121) rfl))) rfl
theorem kt_122 : Cond.fieldLink "RoomHours$Course" 38 "RoomHours$Course" "house" "LRoomHours$House;" ∈ kT := kT_in (List.mem_append_right _ (List.mem_append_left _ (List.mem_of_getElem? (l := tables_1_1) (i := 122) rfl))) rfl
theorem kt_123 : Cond.fieldLink "RoomHours$Course" 46 "RoomHours$Course" "over" "I" ∈ kT := kT_in (List.mem_append_right _ (List.mem_append_left _ (List.mem_of_getElem? (l := tables_1_1) (i := 123) rfl))) rfl
theorem kt_124 : Cond.fieldLink "RoomHours" 154 "RoomHours$Course" "over" "I" ∈ kT := kT_in (List.mem_append_right _ (List.mem_append_left _ (List.mem_of_getElem? (l := tables_1_1) (i := 124) rfl))) rfl
theorem kt_125 : Cond.fieldLink "RoomHours$Course" 9 "RoomHours$Course" "heat" "[J" ∈ kT := kT_in (List.mem_append_right _ (List.mem_append_left _ (List.mem_of_getElem? (l := tables_1_1) (i := 125) rfl))) rfl
theorem kt_126 : Cond.fieldLink "RoomHours" 169 "RoomHours$Course" "heat" "[J" ∈ kT := kT_in (List.mem_append_right _ (List.mem_append_left _ (List.mem_of_getElem? (l := tables_1_1) (i := 126) rfl))) rfl
theorem kt_127 : Cond.fieldLink "RoomHours$Course" 15 "RoomHours$Course" "warmth" "[J" ∈ kT := kT_in (List.mem_append_right _ (List.mem_append_left _ (List.mem_of_getElem? (l := tables_1_1) (i := 127) rfl))) rfl
theorem kt_128 : Cond.fieldLink "RoomHours$Course" 18 "RoomHours$Course" "given" "[J" ∈ kT := kT_in (List.mem_append_right _ (List.mem_append_left _ (List.mem_of_getElem? (l := tables_1_1) (i := 128) rfl))) rfl
theorem kt_129 : Cond.fieldLink "RoomHours" 176 "RoomHours$Course" "given" "[J" ∈ kT := kT_in (List.mem_append_right _ (List.mem_append_left _ (List.mem_of_getElem? (l := tables_1_1) (i := 129) rfl))) rfl
theorem kt_130 : Cond.fieldLink "RoomHours$Course" 21 "RoomHours$Course" "taken" "[J" ∈ kT := kT_in (List.mem_append_right _ (List.mem_append_left _ (List.mem_of_getElem? (l := tables_1_1) (i := 130) rfl))) rfl
theorem kt_131 : Cond.fieldLink "RoomHours" 179 "RoomHours$Course" "taken" "[J" ∈ kT := kT_in (List.mem_append_right _ (List.mem_append_left _ (List.mem_of_getElem? (l := tables_1_1) (i := 131) rfl))) rfl
theorem kt_132 : Cond.fieldLink "RoomHours$Course" 24 "RoomHours$Course" "greatest" "[J" ∈ kT := kT_in (List.mem_append_right _ (List.mem_append_left _ (List.mem_of_getElem? (l := tables_1_1) (i := 132) rfl))) rfl
theorem kt_133 : Cond.fieldLink "RoomHours" 182 "RoomHours$Course" "greatest" "[J" ∈ kT := kT_in (List.mem_append_right _ (List.mem_append_left _ (List.mem_of_getElem? (l := tables_1_1) (i := 133) rfl))) rfl
theorem kt_134 : Cond.fieldLink "RoomHours$Course" 27 "RoomHours$Course" "uneasy" "[I" ∈ kT := kT_in (List.mem_append_right _ (List.mem_append_left _ (List.mem_of_getElem? (l := tables_1_1) (i := 134) rfl))) rfl
theorem kt_135 : Cond.fieldLink "RoomHours" 173 "RoomHours$Course" "uneasy" "[I" ∈ kT := kT_in (List.mem_append_right _ (List.mem_append_left _ (List.mem_of_getElem? (l := tables_1_1) (i := 135) rfl))) rfl
theorem kt_136 : Cond.fieldLink "RoomHours$Course" 42 "RoomHours$Course" "begun" "J" ∈ kT := kT_in (List.mem_append_right _ (List.mem_append_left _ (List.mem_of_getElem? (l := tables_1_1) (i := 136) rfl))) rfl
theorem kt_137 : Cond.fieldLink "RoomHours" 191 "RoomHours$Course" "begun" "J" ∈ kT := kT_in (List.mem_append_right _ (List.mem_append_left _ (List.mem_of_getElem? (l := tables_1_1) (i := 137) rfl))) rfl
theorem kt_138 : Cond.fieldLink "RoomHours" 195 "RoomHours$Course" "fromSun" "J" ∈ kT := kT_in (List.mem_append_right _ (List.mem_append_left _ (List.mem_of_getElem? (l := tables_1_1) (i := 138) rfl))) rfl
theorem kt_139 : Cond.fieldLink "RoomHours$Course" 174 "RoomHours$Course" "fromSun" "J" ∈ kT := kT_in (List.mem_append_right _ (List.mem_append_left _ (List.mem_of_getElem? (l := tables_1_1) (i := 139) rfl))) rfl
theorem kt_140 : Cond.fieldLink "RoomHours" 198 "RoomHours$Course" "fromPersons" "J" ∈ kT := kT_in (List.mem_append_right _ (List.mem_append_left _ (List.mem_of_getElem? (l := tables_1_1) (i := 140) rfl))) rfl
theorem kt_141 : Cond.fieldLink "RoomHours$Course" 177 "RoomHours$Course" "fromPersons" "J" ∈ kT := kT_in (List.mem_append_right _ (List.mem_append_left _ (List.mem_of_getElem? (l := tables_1_1) (i := 141) rfl))) rfl
theorem kt_142 : Cond.fieldLink "RoomHours" 201 "RoomHours$Course" "goneOut" "J" ∈ kT := kT_in (List.mem_append_right _ (List.mem_append_left _ (List.mem_of_getElem? (l := tables_1_1) (i := 142) rfl))) rfl
theorem kt_143 : Cond.fieldLink "RoomHours$Course" 153 "RoomHours$Course" "goneOut" "J" ∈ kT := kT_in (List.mem_append_right _ (List.mem_append_left _ (List.mem_of_getElem? (l := tables_1_1) (i := 143) rfl))) rfl
theorem kt_144 : Cond.fieldLink "RoomHours$Course" 31 "RoomHours$Course" "setRoom" "I" ∈ kT := kT_in (List.mem_append_right _ (List.mem_append_left _ (List.mem_of_getElem? (l := tables_1_1) (i := 144) rfl))) rfl
theorem kt_145 : Cond.fieldLink "RoomHours$Course" 59 "RoomHours$Course" "setTried" "I" ∈ kT := kT_in (List.mem_append_right _ (List.mem_append_left _ (List.mem_of_getElem? (l := tables_1_1) (i := 145) rfl))) rfl
theorem kt_146 : Cond.fieldLink "RoomHours$Course" 62 "RoomHours$Course" "setFrom" "I" ∈ kT := kT_in (List.mem_append_right _ (List.mem_append_left _ (List.mem_of_getElem? (l := tables_1_1) (i := 146) rfl))) rfl
theorem kt_147 : Cond.fieldLink "RoomHours$Course" 35 "RoomHours$Course" "mostRoom" "I" ∈ kT := kT_in (List.mem_append_right _ (List.mem_append_left _ (List.mem_of_getElem? (l := tables_1_1) (i := 147) rfl))) rfl
theorem kt_148 : Cond.fieldLink "RoomHours$Course" 65 "RoomHours$Course" "mostTried" "I" ∈ kT := kT_in (List.mem_append_right _ (List.mem_append_left _ (List.mem_of_getElem? (l := tables_1_1) (i := 148) rfl))) rfl
theorem kt_149 : Cond.fieldLink "RoomHours$Course" 55 "RoomHours$Course" "fellShort" "Z" ∈ kT := kT_in (List.mem_append_right _ (List.mem_append_left _ (List.mem_of_getElem? (l := tables_1_1) (i := 149) rfl))) rfl
theorem kt_150 : Cond.fieldLink "RoomHours" 226 "RoomHours$Course" "fellShort" "Z" ∈ kT := kT_in (List.mem_append_right _ (List.mem_append_left _ (List.mem_of_getElem? (l := tables_1_1) (i := 150) rfl))) rfl
theorem kt_188 : Cond.arrayClass Jvm.ClassFile.FieldType.long ∈ kT := kT_in (List.mem_append_right _ (List.mem_append_left _ (List.mem_of_getElem? (l := tables_1_1) (i := 188) rfl))) rfl
theorem kt_189 : Cond.fieldLink "RoomHours" 12 "RoomHours" "house" "LRoomHours$House;" ∈ kT := kT_in (List.mem_append_right _ (List.mem_append_left _ (List.mem_of_getElem? (l := tables_1_1) (i := 189) rfl))) rfl
theorem kt_190 : Cond.fieldLink "RoomHours" 21 "RoomHours" "now" "LRoomHours$Course;" ∈ kT := kT_in (List.mem_append_right _ (List.mem_append_left _ (List.mem_of_getElem? (l := tables_1_1) (i := 190) rfl))) rfl
theorem kt_191 : Cond.fieldLink "RoomHours" 25 "RoomHours" "trial" "LRoomHours$Course;" ∈ kT := kT_in (List.mem_append_right _ (List.mem_append_left _ (List.mem_of_getElem? (l := tables_1_1) (i := 191) rfl))) rfl
theorem kt_199 : Cond.methodLink "RoomHoursLaw" 66 yL_room ∈ kT := kT_in (List.mem_append_right _ (List.mem_append_left _ (List.mem_of_getElem? (l := tables_1_1) (i := 199) rfl))) rfl
theorem kt_200 : Cond.static yL_room ∈ kT := kT_in (List.mem_append_right _ (List.mem_append_left _ (List.mem_of_getElem? (l := tables_1_1) (i := 200) rfl))) rfl
theorem kt_201 : Cond.codeWith yL_room method_3_code 5 (Option.some Jvm.ClassFile.FieldType.int) [(0, 10, 13, 13), (0, 10, 17, 15)] ∈ kT := kT_in (List.mem_append_right _ (List.mem_append_left _ (List.mem_of_getElem? (l := tables_1_1) (i := 201) rfl))) rfl
theorem kt_202 : Cond.classLink "RoomHoursLaw" 13 "java/lang/IllegalArgumentException" ∈ kT := kT_in (List.mem_append_right _ (List.mem_append_left _ (List.mem_of_getElem? (l := tables_1_1) (i := 202) rfl))) rfl
theorem kt_203 : Cond.classLink "RoomHoursLaw" 15 "java/lang/IllegalStateException" ∈ kT := kT_in (List.mem_append_right _ (List.mem_append_left _ (List.mem_of_getElem? (l := tables_1_1) (i := 203) rfl))) rfl
theorem kt_204 : Cond.methodLink "RoomHoursLaw" 7 yR_room ∈ kT := kT_in (List.mem_append_right _ (List.mem_append_left _ (List.mem_of_getElem? (l := tables_1_1) (i := 204) rfl))) rfl
theorem kt_205 : Cond.instanceMethod yR_room ∈ kT := kT_in (List.mem_append_right _ (List.mem_append_left _ (List.mem_of_getElem? (l := tables_1_1) (i := 205) rfl))) rfl
theorem kt_206 : Cond.selects "RoomHours" yR_room yR_room ∈ kT := kT_in (List.mem_append_right _ (List.mem_append_left _ (List.mem_of_getElem? (l := tables_1_1) (i := 206) rfl))) rfl
theorem kt_207 : Cond.code yR_room prog_1_method_2_code 4 (Option.some Jvm.ClassFile.FieldType.int) ∈ kT := kT_in (List.mem_append_right _ (List.mem_append_left _ (List.mem_of_getElem? (l := tables_1_1) (i := 207) rfl))) rfl
theorem kt_208 : Cond.methodLink "RoomHours" 28 yR_isWithin ∈ kT := kT_in (List.mem_append_right _ (List.mem_append_left _ (List.mem_of_getElem? (l := tables_1_1) (i := 208) rfl))) rfl
theorem kt_209 : Cond.static yR_isWithin ∈ kT := kT_in (List.mem_append_right _ (List.mem_append_left _ (List.mem_of_getElem? (l := tables_1_1) (i := 209) rfl))) rfl
theorem kt_210 : Cond.code yR_isWithin prog_1_method_16_code 3 (Option.some Jvm.ClassFile.FieldType.boolean) ∈ kT := kT_in (List.mem_append_right _ (List.mem_append_left _ (List.mem_of_getElem? (l := tables_1_1) (i := 210) rfl))) rfl
theorem kt_211 : Cond.methodLink "RoomHours" 32 yR_isWarmth ∈ kT := kT_in (List.mem_append_right _ (List.mem_append_left _ (List.mem_of_getElem? (l := tables_1_1) (i := 211) rfl))) rfl
theorem kt_212 : Cond.static yR_isWarmth ∈ kT := kT_in (List.mem_append_right _ (List.mem_append_left _ (List.mem_of_getElem? (l := tables_1_1) (i := 212) rfl))) rfl
theorem kt_213 : Cond.code yR_isWarmth prog_1_method_17_code 1 (Option.some Jvm.ClassFile.FieldType.boolean) ∈ kT := kT_in (List.mem_append_right _ (List.mem_append_left _ (List.mem_of_getElem? (l := tables_1_1) (i := 213) rfl))) rfl
theorem kt_214 : Cond.classLink "RoomHours" 36 "java/lang/IllegalArgumentException" ∈ kT := kT_in (List.mem_append_right _ (List.mem_append_left _ (List.mem_of_getElem? (l := tables_1_1) (i := 214) rfl))) rfl
theorem kt_215 : Cond.instantiable "java/lang/IllegalArgumentException" 6 ∈ kT := kT_in (List.mem_append_right _ (List.mem_append_left _ (List.mem_of_getElem? (l := tables_1_1) (i := 215) rfl))) rfl
theorem kt_223 : Cond.selects "java/lang/IllegalArgumentException" ⟨"java/lang/Throwable", "fillInStackTrace", "(I)Ljava/lang/Throwable;"⟩ ⟨"java/lang/Throwable", "fillInStackTrace", "(I)Ljava/lang/Throwable;"⟩ ∈ kT := kT_in (List.mem_append_right _ (List.mem_append_left _ (List.mem_of_getElem? (l := tables_1_1) (i := 223) rfl))) rfl
theorem kt_224 : Cond.selects "java/lang/IllegalArgumentException" ⟨"java/lang/Throwable", "fillInStackTrace", "()Ljava/lang/Throwable;"⟩ ⟨"java/lang/Throwable", "fillInStackTrace", "()Ljava/lang/Throwable;"⟩ ∈ kT := kT_in (List.mem_append_right _ (List.mem_append_left _ (List.mem_of_getElem? (l := tables_1_1) (i := 224) rfl))) rfl
theorem kt_235 : Cond.fieldLink "java/lang/Throwable" 198 "java/lang/Throwable" "backtrace" "Ljava/lang/Object;" ∈ kT := kT_in (List.mem_append_right _ (List.mem_append_left _ (List.mem_of_getElem? (l := tables_1_1) (i := 235) rfl))) rfl
theorem kt_237 : Cond.instanceMethod ⟨"java/lang/Throwable", "<init>", "()V"⟩ ∈ kT := kT_in (List.mem_append_right _ (List.mem_append_left _ (List.mem_of_getElem? (l := tables_1_1) (i := 237) rfl))) rfl
theorem kt_238 : Cond.code ⟨"java/lang/Throwable", "<init>", "()V"⟩ prog_13_method_1_code 1 (Option.none : Option Jvm.ClassFile.FieldType) ∈ kT := kT_in (List.mem_append_right _ (List.mem_append_left _ (List.mem_of_getElem? (l := tables_1_1) (i := 238) rfl))) rfl
theorem kt_239 : Cond.methodLink "java/lang/Throwable" 1 ⟨"java/lang/Object", "<init>", "()V"⟩ ∈ kT := kT_in (List.mem_append_right _ (List.mem_append_left _ (List.mem_of_getElem? (l := tables_1_1) (i := 239) rfl))) rfl
theorem kt_240 : Cond.fieldLink "java/lang/Throwable" 13 "java/lang/Throwable" "UNASSIGNED_STACK" "[Ljava/lang/StackTraceElement;" ∈ kT := kT_in (List.mem_append_right _ (List.mem_append_right _ (List.mem_append_left _ (List.mem_of_getElem? (l := tables_1_2) (i := 0) rfl)))) rfl
theorem kt_242 : Cond.fieldLink "java/lang/Throwable" 20 "java/lang/Throwable" "SUPPRESSED_SENTINEL" "Ljava/util/List;" ∈ kT := kT_in (List.mem_append_right _ (List.mem_append_right _ (List.mem_append_left _ (List.mem_of_getElem? (l := tables_1_2) (i := 2) rfl)))) rfl
theorem kt_244 : Cond.methodLink "java/lang/Throwable" 27 ⟨"java/lang/Throwable", "fillInStackTrace", "()Ljava/lang/Throwable;"⟩ ∈ kT := kT_in (List.mem_append_right _ (List.mem_append_right _ (List.mem_append_left _ (List.mem_of_getElem? (l := tables_1_2) (i := 4) rfl)))) rfl
theorem kt_245 : Cond.instanceMethod ⟨"java/lang/Throwable", "fillInStackTrace", "()Ljava/lang/Throwable;"⟩ ∈ kT := kT_in (List.mem_append_right _ (List.mem_append_right _ (List.mem_append_left _ (List.mem_of_getElem? (l := tables_1_2) (i := 5) rfl)))) rfl
theorem kt_246 : Cond.sameMethod "java/lang/Throwable" "java/lang/Throwable" "fillInStackTrace" "()Ljava/lang/Throwable;" ∈ kT := kT_in (List.mem_append_right _ (List.mem_append_right _ (List.mem_append_left _ (List.mem_of_getElem? (l := tables_1_2) (i := 6) rfl)))) rfl
theorem kt_247 : Cond.selects "java/lang/IllegalStateException" ⟨"java/lang/Throwable", "fillInStackTrace", "()Ljava/lang/Throwable;"⟩ ⟨"java/lang/Throwable", "fillInStackTrace", "()Ljava/lang/Throwable;"⟩ ∈ kT := kT_in (List.mem_append_right _ (List.mem_append_right _ (List.mem_append_left _ (List.mem_of_getElem? (l := tables_1_2) (i := 7) rfl)))) rfl
theorem kt_249 : Cond.methodLink "java/lang/Throwable" 202 ⟨"java/lang/Throwable", "fillInStackTrace", "(I)Ljava/lang/Throwable;"⟩ ∈ kT := kT_in (List.mem_append_right _ (List.mem_append_right _ (List.mem_append_left _ (List.mem_of_getElem? (l := tables_1_2) (i := 9) rfl)))) rfl
theorem kt_251 : Cond.instanceMethod ⟨"java/lang/Throwable", "fillInStackTrace", "(I)Ljava/lang/Throwable;"⟩ ∈ kT := kT_in (List.mem_append_right _ (List.mem_append_right _ (List.mem_append_left _ (List.mem_of_getElem? (l := tables_1_2) (i := 11) rfl)))) rfl
theorem kt_252 : Cond.instantiable "java/lang/Throwable" 6 ∈ kT := kT_in (List.mem_append_right _ (List.mem_append_right _ (List.mem_append_left _ (List.mem_of_getElem? (l := tables_1_2) (i := 12) rfl)))) rfl
theorem kt_253 : Cond.native ⟨"java/lang/Throwable", "fillInStackTrace", "(I)Ljava/lang/Throwable;"⟩ ∈ kT := kT_in (List.mem_append_right _ (List.mem_append_right _ (List.mem_append_left _ (List.mem_of_getElem? (l := tables_1_2) (i := 13) rfl)))) rfl
theorem kt_255 : Cond.methodLink "RoomHours" 40 ⟨"java/lang/IllegalArgumentException", "<init>", "(Ljava/lang/String;)V"⟩ ∈ kT := kT_in (List.mem_append_right _ (List.mem_append_right _ (List.mem_append_left _ (List.mem_of_getElem? (l := tables_1_2) (i := 15) rfl)))) rfl
theorem kt_256 : Cond.instanceMethod ⟨"java/lang/IllegalArgumentException", "<init>", "(Ljava/lang/String;)V"⟩ ∈ kT := kT_in (List.mem_append_right _ (List.mem_append_right _ (List.mem_append_left _ (List.mem_of_getElem? (l := tables_1_2) (i := 16) rfl)))) rfl
theorem kt_257 : Cond.code ⟨"java/lang/IllegalArgumentException", "<init>", "(Ljava/lang/String;)V"⟩ prog_7_method_2_code 2 (Option.none : Option Jvm.ClassFile.FieldType) ∈ kT := kT_in (List.mem_append_right _ (List.mem_append_right _ (List.mem_append_left _ (List.mem_of_getElem? (l := tables_1_2) (i := 17) rfl)))) rfl
theorem kt_258 : Cond.methodLink "java/lang/IllegalArgumentException" 7 ⟨"java/lang/RuntimeException", "<init>", "(Ljava/lang/String;)V"⟩ ∈ kT := kT_in (List.mem_append_right _ (List.mem_append_right _ (List.mem_append_left _ (List.mem_of_getElem? (l := tables_1_2) (i := 18) rfl)))) rfl
theorem kt_259 : Cond.instanceMethod ⟨"java/lang/RuntimeException", "<init>", "(Ljava/lang/String;)V"⟩ ∈ kT := kT_in (List.mem_append_right _ (List.mem_append_right _ (List.mem_append_left _ (List.mem_of_getElem? (l := tables_1_2) (i := 19) rfl)))) rfl
theorem kt_260 : Cond.code ⟨"java/lang/RuntimeException", "<init>", "(Ljava/lang/String;)V"⟩ prog_10_method_2_code 2 (Option.none : Option Jvm.ClassFile.FieldType) ∈ kT := kT_in (List.mem_append_right _ (List.mem_append_right _ (List.mem_append_left _ (List.mem_of_getElem? (l := tables_1_2) (i := 20) rfl)))) rfl
theorem kt_261 : Cond.methodLink "java/lang/RuntimeException" 7 ⟨"java/lang/Exception", "<init>", "(Ljava/lang/String;)V"⟩ ∈ kT := kT_in (List.mem_append_right _ (List.mem_append_right _ (List.mem_append_left _ (List.mem_of_getElem? (l := tables_1_2) (i := 21) rfl)))) rfl
theorem kt_262 : Cond.instanceMethod ⟨"java/lang/Exception", "<init>", "(Ljava/lang/String;)V"⟩ ∈ kT := kT_in (List.mem_append_right _ (List.mem_append_right _ (List.mem_append_left _ (List.mem_of_getElem? (l := tables_1_2) (i := 22) rfl)))) rfl
theorem kt_263 : Cond.code ⟨"java/lang/Exception", "<init>", "(Ljava/lang/String;)V"⟩ prog_6_method_2_code 2 (Option.none : Option Jvm.ClassFile.FieldType) ∈ kT := kT_in (List.mem_append_right _ (List.mem_append_right _ (List.mem_append_left _ (List.mem_of_getElem? (l := tables_1_2) (i := 23) rfl)))) rfl
theorem kt_264 : Cond.methodLink "java/lang/Exception" 7 ⟨"java/lang/Throwable", "<init>", "(Ljava/lang/String;)V"⟩ ∈ kT := kT_in (List.mem_append_right _ (List.mem_append_right _ (List.mem_append_left _ (List.mem_of_getElem? (l := tables_1_2) (i := 24) rfl)))) rfl
theorem kt_265 : Cond.instanceMethod ⟨"java/lang/Throwable", "<init>", "(Ljava/lang/String;)V"⟩ ∈ kT := kT_in (List.mem_append_right _ (List.mem_append_right _ (List.mem_append_left _ (List.mem_of_getElem? (l := tables_1_2) (i := 25) rfl)))) rfl
theorem kt_266 : Cond.code ⟨"java/lang/Throwable", "<init>", "(Ljava/lang/String;)V"⟩ prog_13_method_2_code 2 (Option.none : Option Jvm.ClassFile.FieldType) ∈ kT := kT_in (List.mem_append_right _ (List.mem_append_right _ (List.mem_append_left _ (List.mem_of_getElem? (l := tables_1_2) (i := 26) rfl)))) rfl
theorem kt_267 : Cond.fieldLink "java/lang/Throwable" 198 "java/lang/Throwable" "backtrace" "Ljava/lang/Object;" ∈ kT := kT_in (List.mem_append_right _ (List.mem_append_right _ (List.mem_append_left _ (List.mem_of_getElem? (l := tables_1_2) (i := 27) rfl)))) rfl
theorem kt_268 : Cond.fieldLink "java/lang/Throwable" 31 "java/lang/Throwable" "detailMessage" "Ljava/lang/String;" ∈ kT := kT_in (List.mem_append_right _ (List.mem_append_right _ (List.mem_append_left _ (List.mem_of_getElem? (l := tables_1_2) (i := 28) rfl)))) rfl
theorem kt_269 : Cond.fieldLink "java/lang/Throwable" 7 "java/lang/Throwable" "cause" "Ljava/lang/Throwable;" ∈ kT := kT_in (List.mem_append_right _ (List.mem_append_right _ (List.mem_append_left _ (List.mem_of_getElem? (l := tables_1_2) (i := 29) rfl)))) rfl
theorem kt_270 : Cond.fieldLink "java/lang/Throwable" 17 "java/lang/Throwable" "stackTrace" "[Ljava/lang/StackTraceElement;" ∈ kT := kT_in (List.mem_append_right _ (List.mem_append_right _ (List.mem_append_left _ (List.mem_of_getElem? (l := tables_1_2) (i := 30) rfl)))) rfl
theorem kt_271 : Cond.fieldLink "java/lang/Throwable" 24 "java/lang/Throwable" "suppressedExceptions" "Ljava/util/List;" ∈ kT := kT_in (List.mem_append_right _ (List.mem_append_right _ (List.mem_append_left _ (List.mem_of_getElem? (l := tables_1_2) (i := 31) rfl)))) rfl
theorem kt_280 : Cond.arrayClass Jvm.ClassFile.FieldType.byte ∈ kT := kT_in (List.mem_append_right _ (List.mem_append_right _ (List.mem_append_left _ (List.mem_of_getElem? (l := tables_1_2) (i := 40) rfl)))) rfl
theorem kt_281 : Cond.classLink "RoomHours" 47 "java/lang/IllegalStateException" ∈ kT := kT_in (List.mem_append_right _ (List.mem_append_right _ (List.mem_append_left _ (List.mem_of_getElem? (l := tables_1_2) (i := 41) rfl)))) rfl
theorem kt_282 : Cond.instantiable "java/lang/IllegalStateException" 6 ∈ kT := kT_in (List.mem_append_right _ (List.mem_append_right _ (List.mem_append_left _ (List.mem_of_getElem? (l := tables_1_2) (i := 42) rfl)))) rfl
theorem kt_284 : Cond.selects "java/lang/IllegalStateException" ⟨"java/lang/Throwable", "fillInStackTrace", "(I)Ljava/lang/Throwable;"⟩ ⟨"java/lang/Throwable", "fillInStackTrace", "(I)Ljava/lang/Throwable;"⟩ ∈ kT := kT_in (List.mem_append_right _ (List.mem_append_right _ (List.mem_append_left _ (List.mem_of_getElem? (l := tables_1_2) (i := 44) rfl)))) rfl
theorem kt_291 : Cond.methodLink "RoomHours" 51 ⟨"java/lang/IllegalStateException", "<init>", "(Ljava/lang/String;)V"⟩ ∈ kT := kT_in (List.mem_append_right _ (List.mem_append_right _ (List.mem_append_left _ (List.mem_of_getElem? (l := tables_1_2) (i := 51) rfl)))) rfl
theorem kt_292 : Cond.instanceMethod ⟨"java/lang/IllegalStateException", "<init>", "(Ljava/lang/String;)V"⟩ ∈ kT := kT_in (List.mem_append_right _ (List.mem_append_right _ (List.mem_append_left _ (List.mem_of_getElem? (l := tables_1_2) (i := 52) rfl)))) rfl
theorem kt_293 : Cond.code ⟨"java/lang/IllegalStateException", "<init>", "(Ljava/lang/String;)V"⟩ prog_8_method_2_code 2 (Option.none : Option Jvm.ClassFile.FieldType) ∈ kT := kT_in (List.mem_append_right _ (List.mem_append_right _ (List.mem_append_left _ (List.mem_of_getElem? (l := tables_1_2) (i := 53) rfl)))) rfl
theorem kt_294 : Cond.methodLink "java/lang/IllegalStateException" 7 ⟨"java/lang/RuntimeException", "<init>", "(Ljava/lang/String;)V"⟩ ∈ kT := kT_in (List.mem_append_right _ (List.mem_append_right _ (List.mem_append_left _ (List.mem_of_getElem? (l := tables_1_2) (i := 54) rfl)))) rfl
theorem kt_297 : Cond.methodLink "RoomHours" 52 yH_addRoom ∈ kT := kT_in (List.mem_append_right _ (List.mem_append_right _ (List.mem_append_left _ (List.mem_of_getElem? (l := tables_1_2) (i := 57) rfl)))) rfl
theorem kt_298 : Cond.instanceMethod yH_addRoom ∈ kT := kT_in (List.mem_append_right _ (List.mem_append_right _ (List.mem_append_left _ (List.mem_of_getElem? (l := tables_1_2) (i := 58) rfl)))) rfl
theorem kt_299 : Cond.selects "RoomHours$House" yH_addRoom yH_addRoom ∈ kT := kT_in (List.mem_append_right _ (List.mem_append_right _ (List.mem_append_left _ (List.mem_of_getElem? (l := tables_1_2) (i := 59) rfl)))) rfl
theorem kt_300 : Cond.code yH_addRoom prog_3_method_4_code 3 (Option.some Jvm.ClassFile.FieldType.int) ∈ kT := kT_in (List.mem_append_right _ (List.mem_append_right _ (List.mem_append_left _ (List.mem_of_getElem? (l := tables_1_2) (i := 60) rfl)))) rfl
theorem kt_301 : Cond.methodLink "RoomHours" 56 yC_beginRoom ∈ kT := kT_in (List.mem_append_right _ (List.mem_append_right _ (List.mem_append_left _ (List.mem_of_getElem? (l := tables_1_2) (i := 61) rfl)))) rfl
theorem kt_302 : Cond.instanceMethod yC_beginRoom ∈ kT := kT_in (List.mem_append_right _ (List.mem_append_right _ (List.mem_append_left _ (List.mem_of_getElem? (l := tables_1_2) (i := 62) rfl)))) rfl
theorem kt_303 : Cond.selects "RoomHours$Course" yC_beginRoom yC_beginRoom ∈ kT := kT_in (List.mem_append_right _ (List.mem_append_right _ (List.mem_append_left _ (List.mem_of_getElem? (l := tables_1_2) (i := 63) rfl)))) rfl
theorem kt_304 : Cond.code yC_beginRoom prog_2_method_2_code 4 (Option.none : Option Jvm.ClassFile.FieldType) ∈ kT := kT_in (List.mem_append_right _ (List.mem_append_right _ (List.mem_append_left _ (List.mem_of_getElem? (l := tables_1_2) (i := 64) rfl)))) rfl
theorem kt_305 : Cond.methodLink "RoomHoursLaw" 76 yL_wall ∈ kT := kT_in (List.mem_append_right _ (List.mem_append_right _ (List.mem_append_left _ (List.mem_of_getElem? (l := tables_1_2) (i := 65) rfl)))) rfl
theorem kt_306 : Cond.static yL_wall ∈ kT := kT_in (List.mem_append_right _ (List.mem_append_right _ (List.mem_append_left _ (List.mem_of_getElem? (l := tables_1_2) (i := 66) rfl)))) rfl
theorem kt_307 : Cond.codeWith yL_wall method_4_code 6 (Option.some Jvm.ClassFile.FieldType.int) [(0, 12, 15, 13), (0, 12, 19, 15)] ∈ kT := kT_in (List.mem_append_right _ (List.mem_append_right _ (List.mem_append_left _ (List.mem_of_getElem? (l := tables_1_2) (i := 67) rfl)))) rfl
theorem kt_308 : Cond.methodLink "RoomHoursLaw" 17 yR_wall ∈ kT := kT_in (List.mem_append_right _ (List.mem_append_right _ (List.mem_append_left _ (List.mem_of_getElem? (l := tables_1_2) (i := 68) rfl)))) rfl
theorem kt_309 : Cond.instanceMethod yR_wall ∈ kT := kT_in (List.mem_append_right _ (List.mem_append_right _ (List.mem_append_left _ (List.mem_of_getElem? (l := tables_1_2) (i := 69) rfl)))) rfl
theorem kt_310 : Cond.selects "RoomHours" yR_wall yR_wall ∈ kT := kT_in (List.mem_append_right _ (List.mem_append_right _ (List.mem_append_left _ (List.mem_of_getElem? (l := tables_1_2) (i := 70) rfl)))) rfl
theorem kt_311 : Cond.code yR_wall prog_1_method_3_code 4 (Option.some Jvm.ClassFile.FieldType.int) ∈ kT := kT_in (List.mem_append_right _ (List.mem_append_right _ (List.mem_append_left _ (List.mem_of_getElem? (l := tables_1_2) (i := 71) rfl)))) rfl
theorem kt_312 : Cond.methodLink "RoomHours" 60 yH_hasRoom ∈ kT := kT_in (List.mem_append_right _ (List.mem_append_right _ (List.mem_append_left _ (List.mem_of_getElem? (l := tables_1_2) (i := 72) rfl)))) rfl
theorem kt_313 : Cond.instanceMethod yH_hasRoom ∈ kT := kT_in (List.mem_append_right _ (List.mem_append_right _ (List.mem_append_left _ (List.mem_of_getElem? (l := tables_1_2) (i := 73) rfl)))) rfl
theorem kt_314 : Cond.selects "RoomHours$House" yH_hasRoom yH_hasRoom ∈ kT := kT_in (List.mem_append_right _ (List.mem_append_right _ (List.mem_append_left _ (List.mem_of_getElem? (l := tables_1_2) (i := 74) rfl)))) rfl
theorem kt_315 : Cond.code yH_hasRoom prog_3_method_2_code 2 (Option.some Jvm.ClassFile.FieldType.boolean) ∈ kT := kT_in (List.mem_append_right _ (List.mem_append_right _ (List.mem_append_left _ (List.mem_of_getElem? (l := tables_1_2) (i := 75) rfl)))) rfl
theorem kt_318 : Cond.methodLink "RoomHours" 70 yH_bears ∈ kT := kT_in (List.mem_append_right _ (List.mem_append_right _ (List.mem_append_left _ (List.mem_of_getElem? (l := tables_1_2) (i := 78) rfl)))) rfl
theorem kt_319 : Cond.instanceMethod yH_bears ∈ kT := kT_in (List.mem_append_right _ (List.mem_append_right _ (List.mem_append_left _ (List.mem_of_getElem? (l := tables_1_2) (i := 79) rfl)))) rfl
theorem kt_320 : Cond.selects "RoomHours$House" yH_bears yH_bears ∈ kT := kT_in (List.mem_append_right _ (List.mem_append_right _ (List.mem_append_left _ (List.mem_of_getElem? (l := tables_1_2) (i := 80) rfl)))) rfl
theorem kt_321 : Cond.code yH_bears prog_3_method_3_code 3 (Option.some Jvm.ClassFile.FieldType.boolean) ∈ kT := kT_in (List.mem_append_right _ (List.mem_append_right _ (List.mem_append_left _ (List.mem_of_getElem? (l := tables_1_2) (i := 81) rfl)))) rfl
theorem kt_322 : Cond.methodLink "RoomHours$House" 64 yH_hasRoom ∈ kT := kT_in (List.mem_append_right _ (List.mem_append_right _ (List.mem_append_left _ (List.mem_of_getElem? (l := tables_1_2) (i := 82) rfl)))) rfl
theorem kt_324 : Cond.methodLink "RoomHours" 76 yH_addWall ∈ kT := kT_in (List.mem_append_right _ (List.mem_append_right _ (List.mem_append_left _ (List.mem_of_getElem? (l := tables_1_2) (i := 84) rfl)))) rfl
theorem kt_325 : Cond.instanceMethod yH_addWall ∈ kT := kT_in (List.mem_append_right _ (List.mem_append_right _ (List.mem_append_left _ (List.mem_of_getElem? (l := tables_1_2) (i := 85) rfl)))) rfl
theorem kt_326 : Cond.selects "RoomHours$House" yH_addWall yH_addWall ∈ kT := kT_in (List.mem_append_right _ (List.mem_append_right _ (List.mem_append_left _ (List.mem_of_getElem? (l := tables_1_2) (i := 86) rfl)))) rfl
theorem kt_327 : Cond.code yH_addWall prog_3_method_5_code 5 (Option.some Jvm.ClassFile.FieldType.int) ∈ kT := kT_in (List.mem_append_right _ (List.mem_append_right _ (List.mem_append_left _ (List.mem_of_getElem? (l := tables_1_2) (i := 87) rfl)))) rfl
theorem kt_328 : Cond.methodLink "RoomHours$House" 71 yH_addLeads ∈ kT := kT_in (List.mem_append_right _ (List.mem_append_right _ (List.mem_append_left _ (List.mem_of_getElem? (l := tables_1_2) (i := 88) rfl)))) rfl
theorem kt_329 : Cond.instanceMethod yH_addLeads ∈ kT := kT_in (List.mem_append_right _ (List.mem_append_right _ (List.mem_append_left _ (List.mem_of_getElem? (l := tables_1_2) (i := 89) rfl)))) rfl
theorem kt_330 : Cond.selects "RoomHours$House" yH_addLeads yH_addLeads ∈ kT := kT_in (List.mem_append_right _ (List.mem_append_right _ (List.mem_append_left _ (List.mem_of_getElem? (l := tables_1_2) (i := 90) rfl)))) rfl
theorem kt_331 : Cond.code yH_addLeads prog_3_method_6_code 3 (Option.none : Option Jvm.ClassFile.FieldType) ∈ kT := kT_in (List.mem_append_right _ (List.mem_append_right _ (List.mem_append_left _ (List.mem_of_getElem? (l := tables_1_2) (i := 91) rfl)))) rfl
theorem kt_332 : Cond.methodLink "RoomHoursLaw" 80 yL_leads ∈ kT := kT_in (List.mem_append_right _ (List.mem_append_right _ (List.mem_append_left _ (List.mem_of_getElem? (l := tables_1_2) (i := 92) rfl)))) rfl
theorem kt_333 : Cond.static yL_leads ∈ kT := kT_in (List.mem_append_right _ (List.mem_append_right _ (List.mem_append_left _ (List.mem_of_getElem? (l := tables_1_2) (i := 93) rfl)))) rfl
theorem kt_334 : Cond.codeWith yL_leads method_5_code 5 (Option.some Jvm.ClassFile.FieldType.int) [(0, 10, 13, 13), (0, 10, 17, 15)] ∈ kT := kT_in (List.mem_append_right _ (List.mem_append_right _ (List.mem_append_left _ (List.mem_of_getElem? (l := tables_1_2) (i := 94) rfl)))) rfl
theorem kt_335 : Cond.methodLink "RoomHoursLaw" 21 yR_leads ∈ kT := kT_in (List.mem_append_right _ (List.mem_append_right _ (List.mem_append_left _ (List.mem_of_getElem? (l := tables_1_2) (i := 95) rfl)))) rfl
theorem kt_336 : Cond.instanceMethod yR_leads ∈ kT := kT_in (List.mem_append_right _ (List.mem_append_right _ (List.mem_append_left _ (List.mem_of_getElem? (l := tables_1_2) (i := 96) rfl)))) rfl
theorem kt_337 : Cond.selects "RoomHours" yR_leads yR_leads ∈ kT := kT_in (List.mem_append_right _ (List.mem_append_right _ (List.mem_append_left _ (List.mem_of_getElem? (l := tables_1_2) (i := 97) rfl)))) rfl
theorem kt_338 : Cond.code yR_leads prog_1_method_4_code 5 (Option.some Jvm.ClassFile.FieldType.int) ∈ kT := kT_in (List.mem_append_right _ (List.mem_append_right _ (List.mem_append_left _ (List.mem_of_getElem? (l := tables_1_2) (i := 98) rfl)))) rfl
theorem kt_341 : Cond.methodLink "RoomHours" 94 yH_addLeads ∈ kT := kT_in (List.mem_append_right _ (List.mem_append_right _ (List.mem_append_left _ (List.mem_of_getElem? (l := tables_1_2) (i := 101) rfl)))) rfl
theorem kt_342 : Cond.methodLink "RoomHoursLaw" 83 yL_window ∈ kT := kT_in (List.mem_append_right _ (List.mem_append_right _ (List.mem_append_left _ (List.mem_of_getElem? (l := tables_1_2) (i := 102) rfl)))) rfl
theorem kt_343 : Cond.static yL_window ∈ kT := kT_in (List.mem_append_right _ (List.mem_append_right _ (List.mem_append_left _ (List.mem_of_getElem? (l := tables_1_2) (i := 103) rfl)))) rfl
theorem kt_344 : Cond.codeWith yL_window method_6_code 7 (Option.some Jvm.ClassFile.FieldType.int) [(0, 14, 17, 13), (0, 14, 21, 15)] ∈ kT := kT_in (List.mem_append_right _ (List.mem_append_right _ (List.mem_append_left _ (List.mem_of_getElem? (l := tables_1_2) (i := 104) rfl)))) rfl
theorem kt_345 : Cond.methodLink "RoomHoursLaw" 24 yR_window ∈ kT := kT_in (List.mem_append_right _ (List.mem_append_right _ (List.mem_append_left _ (List.mem_of_getElem? (l := tables_1_2) (i := 105) rfl)))) rfl
theorem kt_346 : Cond.instanceMethod yR_window ∈ kT := kT_in (List.mem_append_right _ (List.mem_append_right _ (List.mem_append_left _ (List.mem_of_getElem? (l := tables_1_2) (i := 106) rfl)))) rfl
theorem kt_347 : Cond.selects "RoomHours" yR_window yR_window ∈ kT := kT_in (List.mem_append_right _ (List.mem_append_right _ (List.mem_append_left _ (List.mem_of_getElem? (l := tables_1_2) (i := 107) rfl)))) rfl
theorem kt_348 : Cond.code yR_window prog_1_method_5_code 5 (Option.some Jvm.ClassFile.FieldType.int) ∈ kT := kT_in (List.mem_append_right _ (List.mem_append_right _ (List.mem_append_left _ (List.mem_of_getElem? (l := tables_1_2) (i := 108) rfl)))) rfl
theorem kt_349 : Cond.methodLink "RoomHours" 98 yR_isSide ∈ kT := kT_in (List.mem_append_right _ (List.mem_append_right _ (List.mem_append_left _ (List.mem_of_getElem? (l := tables_1_2) (i := 109) rfl)))) rfl
theorem kt_350 : Cond.static yR_isSide ∈ kT := kT_in (List.mem_append_right _ (List.mem_append_right _ (List.mem_append_left _ (List.mem_of_getElem? (l := tables_1_2) (i := 110) rfl)))) rfl
theorem kt_351 : Cond.code yR_isSide prog_1_method_19_code 1 (Option.some Jvm.ClassFile.FieldType.boolean) ∈ kT := kT_in (List.mem_append_right _ (List.mem_append_right _ (List.mem_append_left _ (List.mem_of_getElem? (l := tables_1_2) (i := 111) rfl)))) rfl
theorem kt_355 : Cond.methodLink "RoomHours" 110 yH_addWindow ∈ kT := kT_in (List.mem_append_right _ (List.mem_append_right _ (List.mem_append_left _ (List.mem_of_getElem? (l := tables_1_2) (i := 115) rfl)))) rfl
theorem kt_356 : Cond.instanceMethod yH_addWindow ∈ kT := kT_in (List.mem_append_right _ (List.mem_append_right _ (List.mem_append_left _ (List.mem_of_getElem? (l := tables_1_2) (i := 116) rfl)))) rfl
theorem kt_357 : Cond.selects "RoomHours$House" yH_addWindow yH_addWindow ∈ kT := kT_in (List.mem_append_right _ (List.mem_append_right _ (List.mem_append_left _ (List.mem_of_getElem? (l := tables_1_2) (i := 117) rfl)))) rfl
theorem kt_358 : Cond.code yH_addWindow prog_3_method_7_code 6 (Option.some Jvm.ClassFile.FieldType.int) ∈ kT := kT_in (List.mem_append_right _ (List.mem_append_right _ (List.mem_append_left _ (List.mem_of_getElem? (l := tables_1_2) (i := 118) rfl)))) rfl
theorem kt_359 : Cond.methodLink "RoomHoursLaw" 87 yL_outside ∈ kT := kT_in (List.mem_append_right _ (List.mem_append_right _ (List.mem_append_left _ (List.mem_of_getElem? (l := tables_1_2) (i := 119) rfl)))) rfl
theorem kt_360 : Cond.static yL_outside ∈ kT := kT_in (List.mem_append_right _ (List.mem_append_right _ (List.mem_append_left _ (List.mem_of_getElem? (l := tables_1_2) (i := 120) rfl)))) rfl
theorem kt_361 : Cond.codeWith yL_outside method_7_code 5 (Option.some Jvm.ClassFile.FieldType.int) [(0, 10, 13, 13)] ∈ kT := kT_in (List.mem_append_right _ (List.mem_append_right _ (List.mem_append_left _ (List.mem_of_getElem? (l := tables_1_2) (i := 121) rfl)))) rfl
theorem kt_362 : Cond.methodLink "RoomHoursLaw" 28 yR_outside ∈ kT := kT_in (List.mem_append_right _ (List.mem_append_right _ (List.mem_append_left _ (List.mem_of_getElem? (l := tables_1_2) (i := 122) rfl)))) rfl
theorem kt_363 : Cond.instanceMethod yR_outside ∈ kT := kT_in (List.mem_append_right _ (List.mem_append_right _ (List.mem_append_left _ (List.mem_of_getElem? (l := tables_1_2) (i := 123) rfl)))) rfl
theorem kt_364 : Cond.selects "RoomHours" yR_outside yR_outside ∈ kT := kT_in (List.mem_append_right _ (List.mem_append_right _ (List.mem_append_left _ (List.mem_of_getElem? (l := tables_1_2) (i := 124) rfl)))) rfl
theorem kt_365 : Cond.code yR_outside prog_1_method_6_code 4 (Option.some Jvm.ClassFile.FieldType.int) ∈ kT := kT_in (List.mem_append_right _ (List.mem_append_right _ (List.mem_append_left _ (List.mem_of_getElem? (l := tables_1_2) (i := 125) rfl)))) rfl
theorem kt_366 : Cond.methodLink "RoomHours" 114 yR_isHour ∈ kT := kT_in (List.mem_append_right _ (List.mem_append_right _ (List.mem_append_left _ (List.mem_of_getElem? (l := tables_1_2) (i := 126) rfl)))) rfl
theorem kt_367 : Cond.static yR_isHour ∈ kT := kT_in (List.mem_append_right _ (List.mem_append_right _ (List.mem_append_left _ (List.mem_of_getElem? (l := tables_1_2) (i := 127) rfl)))) rfl
theorem kt_368 : Cond.code yR_isHour prog_1_method_18_code 1 (Option.some Jvm.ClassFile.FieldType.boolean) ∈ kT := kT_in (List.mem_append_right _ (List.mem_append_right _ (List.mem_append_left _ (List.mem_of_getElem? (l := tables_1_2) (i := 128) rfl)))) rfl
theorem kt_370 : Cond.methodLink "RoomHoursLaw" 90 yL_sun ∈ kT := kT_in (List.mem_append_right _ (List.mem_append_right _ (List.mem_append_left _ (List.mem_of_getElem? (l := tables_1_2) (i := 130) rfl)))) rfl
theorem kt_371 : Cond.static yL_sun ∈ kT := kT_in (List.mem_append_right _ (List.mem_append_right _ (List.mem_append_left _ (List.mem_of_getElem? (l := tables_1_2) (i := 131) rfl)))) rfl
theorem kt_372 : Cond.codeWith yL_sun method_8_code 6 (Option.some Jvm.ClassFile.FieldType.int) [(0, 12, 15, 13)] ∈ kT := kT_in (List.mem_append_right _ (List.mem_append_right _ (List.mem_append_left _ (List.mem_of_getElem? (l := tables_1_2) (i := 132) rfl)))) rfl
theorem kt_373 : Cond.methodLink "RoomHoursLaw" 31 yR_sun ∈ kT := kT_in (List.mem_append_right _ (List.mem_append_right _ (List.mem_append_left _ (List.mem_of_getElem? (l := tables_1_2) (i := 133) rfl)))) rfl
theorem kt_374 : Cond.instanceMethod yR_sun ∈ kT := kT_in (List.mem_append_right _ (List.mem_append_right _ (List.mem_append_left _ (List.mem_of_getElem? (l := tables_1_2) (i := 134) rfl)))) rfl
theorem kt_375 : Cond.selects "RoomHours" yR_sun yR_sun ∈ kT := kT_in (List.mem_append_right _ (List.mem_append_right _ (List.mem_append_left _ (List.mem_of_getElem? (l := tables_1_2) (i := 135) rfl)))) rfl
theorem kt_376 : Cond.code yR_sun prog_1_method_7_code 5 (Option.some Jvm.ClassFile.FieldType.int) ∈ kT := kT_in (List.mem_append_right _ (List.mem_append_right _ (List.mem_append_left _ (List.mem_of_getElem? (l := tables_1_2) (i := 136) rfl)))) rfl
theorem kt_378 : Cond.methodLink "RoomHoursLaw" 93 yL_plan ∈ kT := kT_in (List.mem_append_right _ (List.mem_append_right _ (List.mem_append_left _ (List.mem_of_getElem? (l := tables_1_2) (i := 138) rfl)))) rfl
theorem kt_379 : Cond.static yL_plan ∈ kT := kT_in (List.mem_append_right _ (List.mem_append_right _ (List.mem_append_left _ (List.mem_of_getElem? (l := tables_1_2) (i := 139) rfl)))) rfl
theorem kt_380 : Cond.codeWith yL_plan method_9_code 7 (Option.some Jvm.ClassFile.FieldType.int) [(0, 14, 17, 13)] ∈ kT := kT_in (List.mem_append_right _ (List.mem_append_right _ (List.mem_append_left _ (List.mem_of_getElem? (l := tables_1_2) (i := 140) rfl)))) rfl
theorem kt_381 : Cond.methodLink "RoomHoursLaw" 34 yR_plan ∈ kT := kT_in (List.mem_append_right _ (List.mem_append_right _ (List.mem_append_left _ (List.mem_of_getElem? (l := tables_1_2) (i := 141) rfl)))) rfl
theorem kt_382 : Cond.instanceMethod yR_plan ∈ kT := kT_in (List.mem_append_right _ (List.mem_append_right _ (List.mem_append_left _ (List.mem_of_getElem? (l := tables_1_2) (i := 142) rfl)))) rfl
theorem kt_383 : Cond.selects "RoomHours" yR_plan yR_plan ∈ kT := kT_in (List.mem_append_right _ (List.mem_append_right _ (List.mem_append_left _ (List.mem_of_getElem? (l := tables_1_2) (i := 143) rfl)))) rfl
theorem kt_384 : Cond.code yR_plan prog_1_method_8_code 7 (Option.some Jvm.ClassFile.FieldType.int) ∈ kT := kT_in (List.mem_append_right _ (List.mem_append_right _ (List.mem_append_left _ (List.mem_of_getElem? (l := tables_1_2) (i := 144) rfl)))) rfl
theorem kt_386 : Cond.methodLink "RoomHours" 130 yR_isPlan ∈ kT := kT_in (List.mem_append_right _ (List.mem_append_right _ (List.mem_append_left _ (List.mem_of_getElem? (l := tables_1_2) (i := 146) rfl)))) rfl
theorem kt_387 : Cond.static yR_isPlan ∈ kT := kT_in (List.mem_append_right _ (List.mem_append_right _ (List.mem_append_left _ (List.mem_of_getElem? (l := tables_1_2) (i := 147) rfl)))) rfl
theorem kt_388 : Cond.code yR_isPlan prog_1_method_20_code 2 (Option.some Jvm.ClassFile.FieldType.boolean) ∈ kT := kT_in (List.mem_append_right _ (List.mem_append_right _ (List.mem_append_left _ (List.mem_of_getElem? (l := tables_1_2) (i := 148) rfl)))) rfl
theorem kt_389 : Cond.constant "RoomHours" 217 (-1000000) ∈ kT := kT_in (List.mem_append_right _ (List.mem_append_right _ (List.mem_append_left _ (List.mem_of_getElem? (l := tables_1_2) (i := 149) rfl)))) rfl
theorem kt_391 : Cond.methodLink "RoomHoursLaw" 96 yL_most ∈ kT := kT_in (List.mem_append_right _ (List.mem_append_right _ (List.mem_append_left _ (List.mem_of_getElem? (l := tables_1_2) (i := 151) rfl)))) rfl
theorem kt_392 : Cond.static yL_most ∈ kT := kT_in (List.mem_append_right _ (List.mem_append_right _ (List.mem_append_left _ (List.mem_of_getElem? (l := tables_1_2) (i := 152) rfl)))) rfl
theorem kt_393 : Cond.codeWith yL_most method_10_code 6 (Option.some Jvm.ClassFile.FieldType.int) [(0, 12, 15, 13)] ∈ kT := kT_in (List.mem_append_right _ (List.mem_append_right _ (List.mem_append_left _ (List.mem_of_getElem? (l := tables_1_2) (i := 153) rfl)))) rfl
theorem kt_394 : Cond.methodLink "RoomHoursLaw" 37 yR_most ∈ kT := kT_in (List.mem_append_right _ (List.mem_append_right _ (List.mem_append_left _ (List.mem_of_getElem? (l := tables_1_2) (i := 154) rfl)))) rfl
theorem kt_395 : Cond.instanceMethod yR_most ∈ kT := kT_in (List.mem_append_right _ (List.mem_append_right _ (List.mem_append_left _ (List.mem_of_getElem? (l := tables_1_2) (i := 155) rfl)))) rfl
theorem kt_396 : Cond.selects "RoomHours" yR_most yR_most ∈ kT := kT_in (List.mem_append_right _ (List.mem_append_right _ (List.mem_append_left _ (List.mem_of_getElem? (l := tables_1_2) (i := 156) rfl)))) rfl
theorem kt_397 : Cond.code yR_most prog_1_method_9_code 5 (Option.some Jvm.ClassFile.FieldType.int) ∈ kT := kT_in (List.mem_append_right _ (List.mem_append_right _ (List.mem_append_left _ (List.mem_of_getElem? (l := tables_1_2) (i := 157) rfl)))) rfl
theorem kt_398 : Cond.constant "RoomHours" 138 (1000000) ∈ kT := kT_in (List.mem_append_right _ (List.mem_append_right _ (List.mem_append_left _ (List.mem_of_getElem? (l := tables_1_2) (i := 158) rfl)))) rfl
theorem kt_400 : Cond.methodLink "RoomHoursLaw" 99 yL_ease ∈ kT := kT_in (List.mem_append_right _ (List.mem_append_right _ (List.mem_append_left _ (List.mem_of_getElem? (l := tables_1_2) (i := 160) rfl)))) rfl
theorem kt_401 : Cond.static yL_ease ∈ kT := kT_in (List.mem_append_right _ (List.mem_append_right _ (List.mem_append_left _ (List.mem_of_getElem? (l := tables_1_2) (i := 161) rfl)))) rfl
theorem kt_402 : Cond.codeWith yL_ease method_11_code 4 (Option.some Jvm.ClassFile.FieldType.int) [(0, 6, 9, 13)] ∈ kT := kT_in (List.mem_append_right _ (List.mem_append_right _ (List.mem_append_left _ (List.mem_of_getElem? (l := tables_1_2) (i := 162) rfl)))) rfl
theorem kt_403 : Cond.methodLink "RoomHoursLaw" 40 yR_ease ∈ kT := kT_in (List.mem_append_right _ (List.mem_append_right _ (List.mem_append_left _ (List.mem_of_getElem? (l := tables_1_2) (i := 163) rfl)))) rfl
theorem kt_404 : Cond.instanceMethod yR_ease ∈ kT := kT_in (List.mem_append_right _ (List.mem_append_right _ (List.mem_append_left _ (List.mem_of_getElem? (l := tables_1_2) (i := 164) rfl)))) rfl
theorem kt_405 : Cond.selects "RoomHours" yR_ease yR_ease ∈ kT := kT_in (List.mem_append_right _ (List.mem_append_right _ (List.mem_append_left _ (List.mem_of_getElem? (l := tables_1_2) (i := 165) rfl)))) rfl
theorem kt_406 : Cond.code yR_ease prog_1_method_10_code 3 (Option.none : Option Jvm.ClassFile.FieldType) ∈ kT := kT_in (List.mem_append_right _ (List.mem_append_right _ (List.mem_append_left _ (List.mem_of_getElem? (l := tables_1_2) (i := 166) rfl)))) rfl
theorem kt_408 : Cond.methodLink "RoomHoursLaw" 103 yL_run ∈ kT := kT_in (List.mem_append_right _ (List.mem_append_right _ (List.mem_append_left _ (List.mem_of_getElem? (l := tables_1_2) (i := 168) rfl)))) rfl
theorem kt_409 : Cond.static yL_run ∈ kT := kT_in (List.mem_append_right _ (List.mem_append_right _ (List.mem_append_left _ (List.mem_of_getElem? (l := tables_1_2) (i := 169) rfl)))) rfl
theorem kt_410 : Cond.codeWith yL_run method_12_code 4 (Option.some Jvm.ClassFile.FieldType.int) [(0, 9, 12, 13), (0, 9, 15, 15)] ∈ kT := kT_in (List.mem_append_right _ (List.mem_append_right _ (List.mem_append_left _ (List.mem_of_getElem? (l := tables_1_2) (i := 170) rfl)))) rfl
theorem kt_411 : Cond.methodLink "RoomHoursLaw" 44 yR_run ∈ kT := kT_in (List.mem_append_right _ (List.mem_append_right _ (List.mem_append_left _ (List.mem_of_getElem? (l := tables_1_2) (i := 171) rfl)))) rfl
theorem kt_412 : Cond.instanceMethod yR_run ∈ kT := kT_in (List.mem_append_right _ (List.mem_append_right _ (List.mem_append_left _ (List.mem_of_getElem? (l := tables_1_2) (i := 172) rfl)))) rfl
theorem kt_413 : Cond.selects "RoomHours" yR_run yR_run ∈ kT := kT_in (List.mem_append_right _ (List.mem_append_right _ (List.mem_append_left _ (List.mem_of_getElem? (l := tables_1_2) (i := 173) rfl)))) rfl
theorem kt_414 : Cond.code yR_run prog_1_method_11_code 3 (Option.some Jvm.ClassFile.FieldType.int) ∈ kT := kT_in (List.mem_append_right _ (List.mem_append_right _ (List.mem_append_left _ (List.mem_of_getElem? (l := tables_1_2) (i := 174) rfl)))) rfl
theorem kt_416 : Cond.constant "RoomHours" 157 (100000) ∈ kT := kT_in (List.mem_append_right _ (List.mem_append_right _ (List.mem_append_left _ (List.mem_of_getElem? (l := tables_1_2) (i := 176) rfl)))) rfl
theorem kt_418 : Cond.methodLink "RoomHours" 160 yC_step ∈ kT := kT_in (List.mem_append_right _ (List.mem_append_right _ (List.mem_append_left _ (List.mem_of_getElem? (l := tables_1_2) (i := 178) rfl)))) rfl
theorem kt_419 : Cond.instanceMethod yC_step ∈ kT := kT_in (List.mem_append_right _ (List.mem_append_right _ (List.mem_append_left _ (List.mem_of_getElem? (l := tables_1_2) (i := 179) rfl)))) rfl
theorem kt_420 : Cond.selects "RoomHours$Course" yC_step yC_step ∈ kT := kT_in (List.mem_append_right _ (List.mem_append_right _ (List.mem_append_left _ (List.mem_of_getElem? (l := tables_1_2) (i := 180) rfl)))) rfl
theorem kt_421 : Cond.code yC_step prog_2_method_10_code 3 (Option.none : Option Jvm.ClassFile.FieldType) ∈ kT := kT_in (List.mem_append_right _ (List.mem_append_right _ (List.mem_append_left _ (List.mem_of_getElem? (l := tables_1_2) (i := 181) rfl)))) rfl
theorem kt_422 : Cond.methodLink "RoomHours$Course" 86 yC_hourOfDay ∈ kT := kT_in (List.mem_append_right _ (List.mem_append_right _ (List.mem_append_left _ (List.mem_of_getElem? (l := tables_1_2) (i := 182) rfl)))) rfl
theorem kt_424 : Cond.instanceMethod yC_hourOfDay ∈ kT := kT_in (List.mem_append_right _ (List.mem_append_right _ (List.mem_append_left _ (List.mem_of_getElem? (l := tables_1_2) (i := 184) rfl)))) rfl
theorem kt_425 : Cond.code yC_hourOfDay prog_2_method_11_code 1 (Option.some Jvm.ClassFile.FieldType.int) ∈ kT := kT_in (List.mem_append_right _ (List.mem_append_right _ (List.mem_append_left _ (List.mem_of_getElem? (l := tables_1_2) (i := 185) rfl)))) rfl
theorem kt_426 : Cond.methodLink "RoomHours$Course" 101 yC_warmthOf ∈ kT := kT_in (List.mem_append_right _ (List.mem_append_right _ (List.mem_append_left _ (List.mem_of_getElem? (l := tables_1_2) (i := 186) rfl)))) rfl
theorem kt_427 : Cond.instanceMethod yC_warmthOf ∈ kT := kT_in (List.mem_append_right _ (List.mem_append_right _ (List.mem_append_left _ (List.mem_of_getElem? (l := tables_1_2) (i := 187) rfl)))) rfl
theorem kt_428 : Cond.selects "RoomHours$Course" yC_warmthOf yC_warmthOf ∈ kT := kT_in (List.mem_append_right _ (List.mem_append_right _ (List.mem_append_left _ (List.mem_of_getElem? (l := tables_1_2) (i := 188) rfl)))) rfl
theorem kt_429 : Cond.code yC_warmthOf prog_2_method_6_code 4 (Option.some Jvm.ClassFile.FieldType.long) ∈ kT := kT_in (List.mem_append_right _ (List.mem_append_right _ (List.mem_append_left _ (List.mem_of_getElem? (l := tables_1_2) (i := 189) rfl)))) rfl
theorem kt_430 : Cond.methodLink "RoomHours$Course" 73 yJ_floorDiv ∈ kT := kT_in (List.mem_append_right _ (List.mem_append_right _ (List.mem_append_left _ (List.mem_of_getElem? (l := tables_1_2) (i := 190) rfl)))) rfl
theorem kt_431 : Cond.static yJ_floorDiv ∈ kT := kT_in (List.mem_append_right _ (List.mem_append_right _ (List.mem_append_left _ (List.mem_of_getElem? (l := tables_1_2) (i := 191) rfl)))) rfl
theorem kt_432 : Cond.code yJ_floorDiv prog_9_method_49_code 6 (Option.some Jvm.ClassFile.FieldType.long) ∈ kT := kT_in (List.mem_append_right _ (List.mem_append_right _ (List.mem_append_left _ (List.mem_of_getElem? (l := tables_1_2) (i := 192) rfl)))) rfl
theorem kt_433 : Cond.methodLink "RoomHours$Course" 108 yC_passWalls ∈ kT := kT_in (List.mem_append_right _ (List.mem_append_right _ (List.mem_append_left _ (List.mem_of_getElem? (l := tables_1_2) (i := 193) rfl)))) rfl
theorem kt_435 : Cond.instanceMethod yC_passWalls ∈ kT := kT_in (List.mem_append_right _ (List.mem_append_right _ (List.mem_append_left _ (List.mem_of_getElem? (l := tables_1_2) (i := 195) rfl)))) rfl
theorem kt_436 : Cond.code yC_passWalls prog_2_method_15_code 9 (Option.none : Option Jvm.ClassFile.FieldType) ∈ kT := kT_in (List.mem_append_right _ (List.mem_append_right _ (List.mem_append_left _ (List.mem_of_getElem? (l := tables_1_2) (i := 196) rfl)))) rfl
theorem kt_437 : Cond.constantLong "RoomHours$Course" 151 (100 : Int64) ∈ kT := kT_in (List.mem_append_right _ (List.mem_append_right _ (List.mem_append_left _ (List.mem_of_getElem? (l := tables_1_2) (i := 197) rfl)))) rfl
theorem kt_438 : Cond.methodLink "RoomHours$Course" 112 yC_passWindows ∈ kT := kT_in (List.mem_append_right _ (List.mem_append_right _ (List.mem_append_left _ (List.mem_of_getElem? (l := tables_1_2) (i := 198) rfl)))) rfl
theorem kt_440 : Cond.instanceMethod yC_passWindows ∈ kT := kT_in (List.mem_append_right _ (List.mem_append_right _ (List.mem_append_left _ (List.mem_of_getElem? (l := tables_1_2) (i := 200) rfl)))) rfl
theorem kt_441 : Cond.code yC_passWindows prog_2_method_16_code 5 (Option.none : Option Jvm.ClassFile.FieldType) ∈ kT := kT_in (List.mem_append_right _ (List.mem_append_right _ (List.mem_append_left _ (List.mem_of_getElem? (l := tables_1_2) (i := 201) rfl)))) rfl
theorem kt_442 : Cond.methodLink "RoomHours$Course" 115 yC_bringPersons ∈ kT := kT_in (List.mem_append_right _ (List.mem_append_right _ (List.mem_append_left _ (List.mem_of_getElem? (l := tables_1_2) (i := 202) rfl)))) rfl
theorem kt_444 : Cond.instanceMethod yC_bringPersons ∈ kT := kT_in (List.mem_append_right _ (List.mem_append_right _ (List.mem_append_left _ (List.mem_of_getElem? (l := tables_1_2) (i := 204) rfl)))) rfl
theorem kt_445 : Cond.code yC_bringPersons prog_2_method_17_code 4 (Option.none : Option Jvm.ClassFile.FieldType) ∈ kT := kT_in (List.mem_append_right _ (List.mem_append_right _ (List.mem_append_left _ (List.mem_of_getElem? (l := tables_1_2) (i := 205) rfl)))) rfl
theorem kt_446 : Cond.methodLink "RoomHours$Course" 132 yC_planned ∈ kT := kT_in (List.mem_append_right _ (List.mem_append_right _ (List.mem_append_left _ (List.mem_of_getElem? (l := tables_1_2) (i := 206) rfl)))) rfl
theorem kt_448 : Cond.instanceMethod yC_planned ∈ kT := kT_in (List.mem_append_right _ (List.mem_append_right _ (List.mem_append_left _ (List.mem_of_getElem? (l := tables_1_2) (i := 208) rfl)))) rfl
theorem kt_449 : Cond.code yC_planned prog_2_method_13_code 4 (Option.some Jvm.ClassFile.FieldType.int) ∈ kT := kT_in (List.mem_append_right _ (List.mem_append_right _ (List.mem_append_left _ (List.mem_of_getElem? (l := tables_1_2) (i := 209) rfl)))) rfl
theorem kt_450 : Cond.methodLink "RoomHours$Course" 119 yC_heatUp ∈ kT := kT_in (List.mem_append_right _ (List.mem_append_right _ (List.mem_append_left _ (List.mem_of_getElem? (l := tables_1_2) (i := 210) rfl)))) rfl
theorem kt_452 : Cond.instanceMethod yC_heatUp ∈ kT := kT_in (List.mem_append_right _ (List.mem_append_right _ (List.mem_append_left _ (List.mem_of_getElem? (l := tables_1_2) (i := 212) rfl)))) rfl
theorem kt_453 : Cond.code yC_heatUp prog_2_method_18_code 10 (Option.none : Option Jvm.ClassFile.FieldType) ∈ kT := kT_in (List.mem_append_right _ (List.mem_append_right _ (List.mem_append_left _ (List.mem_of_getElem? (l := tables_1_2) (i := 213) rfl)))) rfl
theorem kt_454 : Cond.methodLink "RoomHours$Course" 180 yC_setOf ∈ kT := kT_in (List.mem_append_right _ (List.mem_append_right _ (List.mem_append_left _ (List.mem_of_getElem? (l := tables_1_2) (i := 214) rfl)))) rfl
theorem kt_456 : Cond.instanceMethod yC_setOf ∈ kT := kT_in (List.mem_append_right _ (List.mem_append_right _ (List.mem_append_left _ (List.mem_of_getElem? (l := tables_1_2) (i := 216) rfl)))) rfl
theorem kt_457 : Cond.code yC_setOf prog_2_method_19_code 3 (Option.some Jvm.ClassFile.FieldType.int) ∈ kT := kT_in (List.mem_append_right _ (List.mem_append_right _ (List.mem_append_left _ (List.mem_of_getElem? (l := tables_1_2) (i := 217) rfl)))) rfl
theorem kt_458 : Cond.constant "RoomHours$Course" 183 (-1000000) ∈ kT := kT_in (List.mem_append_right _ (List.mem_append_right _ (List.mem_append_left _ (List.mem_of_getElem? (l := tables_1_2) (i := 218) rfl)))) rfl
theorem kt_459 : Cond.methodLink "RoomHours$Course" 184 yC_heatingOf ∈ kT := kT_in (List.mem_append_right _ (List.mem_append_right _ (List.mem_append_left _ (List.mem_of_getElem? (l := tables_1_2) (i := 219) rfl)))) rfl
theorem kt_461 : Cond.instanceMethod yC_heatingOf ∈ kT := kT_in (List.mem_append_right _ (List.mem_append_right _ (List.mem_append_left _ (List.mem_of_getElem? (l := tables_1_2) (i := 221) rfl)))) rfl
theorem kt_462 : Cond.code yC_heatingOf prog_2_method_20_code 2 (Option.some Jvm.ClassFile.FieldType.int) ∈ kT := kT_in (List.mem_append_right _ (List.mem_append_right _ (List.mem_append_left _ (List.mem_of_getElem? (l := tables_1_2) (i := 222) rfl)))) rfl
theorem kt_463 : Cond.methodLink "RoomHours$Course" 188 ⟨"java/lang/Math", "min", "(JJ)J"⟩ ∈ kT := kT_in (List.mem_append_right _ (List.mem_append_right _ (List.mem_append_left _ (List.mem_of_getElem? (l := tables_1_2) (i := 223) rfl)))) rfl
theorem kt_464 : Cond.static ⟨"java/lang/Math", "min", "(JJ)J"⟩ ∈ kT := kT_in (List.mem_append_right _ (List.mem_append_right _ (List.mem_append_left _ (List.mem_of_getElem? (l := tables_1_2) (i := 224) rfl)))) rfl
theorem kt_465 : Cond.code ⟨"java/lang/Math", "min", "(JJ)J"⟩ prog_9_method_70_code 4 (Option.some Jvm.ClassFile.FieldType.long) ∈ kT := kT_in (List.mem_append_right _ (List.mem_append_right _ (List.mem_append_left _ (List.mem_of_getElem? (l := tables_1_2) (i := 225) rfl)))) rfl
theorem kt_466 : Cond.methodLink "RoomHours$Course" 191 ⟨"java/lang/Math", "max", "(JJ)J"⟩ ∈ kT := kT_in (List.mem_append_right _ (List.mem_append_right _ (List.mem_append_left _ (List.mem_of_getElem? (l := tables_1_2) (i := 226) rfl)))) rfl
theorem kt_467 : Cond.static ⟨"java/lang/Math", "max", "(JJ)J"⟩ ∈ kT := kT_in (List.mem_append_right _ (List.mem_append_right _ (List.mem_append_left _ (List.mem_of_getElem? (l := tables_1_2) (i := 227) rfl)))) rfl
theorem kt_468 : Cond.code ⟨"java/lang/Math", "max", "(JJ)J"⟩ prog_9_method_66_code 4 (Option.some Jvm.ClassFile.FieldType.long) ∈ kT := kT_in (List.mem_append_right _ (List.mem_append_right _ (List.mem_append_left _ (List.mem_of_getElem? (l := tables_1_2) (i := 228) rfl)))) rfl
theorem kt_469 : Cond.methodLink "RoomHours$Course" 122 yC_coolDown ∈ kT := kT_in (List.mem_append_right _ (List.mem_append_right _ (List.mem_append_left _ (List.mem_of_getElem? (l := tables_1_2) (i := 229) rfl)))) rfl
theorem kt_471 : Cond.instanceMethod yC_coolDown ∈ kT := kT_in (List.mem_append_right _ (List.mem_append_right _ (List.mem_append_left _ (List.mem_of_getElem? (l := tables_1_2) (i := 231) rfl)))) rfl
theorem kt_472 : Cond.code yC_coolDown prog_2_method_21_code 8 (Option.none : Option Jvm.ClassFile.FieldType) ∈ kT := kT_in (List.mem_append_right _ (List.mem_append_right _ (List.mem_append_left _ (List.mem_of_getElem? (l := tables_1_2) (i := 232) rfl)))) rfl
theorem kt_473 : Cond.methodLink "RoomHours$Course" 93 yC_hourEnds ∈ kT := kT_in (List.mem_append_right _ (List.mem_append_right _ (List.mem_append_left _ (List.mem_of_getElem? (l := tables_1_2) (i := 233) rfl)))) rfl
theorem kt_475 : Cond.instanceMethod yC_hourEnds ∈ kT := kT_in (List.mem_append_right _ (List.mem_append_right _ (List.mem_append_left _ (List.mem_of_getElem? (l := tables_1_2) (i := 235) rfl)))) rfl
theorem kt_476 : Cond.code yC_hourEnds prog_2_method_12_code 1 (Option.some Jvm.ClassFile.FieldType.boolean) ∈ kT := kT_in (List.mem_append_right _ (List.mem_append_right _ (List.mem_append_left _ (List.mem_of_getElem? (l := tables_1_2) (i := 236) rfl)))) rfl
theorem kt_477 : Cond.methodLink "RoomHours$Course" 125 yC_countUneasy ∈ kT := kT_in (List.mem_append_right _ (List.mem_append_right _ (List.mem_append_left _ (List.mem_of_getElem? (l := tables_1_2) (i := 237) rfl)))) rfl
theorem kt_479 : Cond.instanceMethod yC_countUneasy ∈ kT := kT_in (List.mem_append_right _ (List.mem_append_right _ (List.mem_append_left _ (List.mem_of_getElem? (l := tables_1_2) (i := 239) rfl)))) rfl
theorem kt_480 : Cond.code yC_countUneasy prog_2_method_22_code 5 (Option.none : Option Jvm.ClassFile.FieldType) ∈ kT := kT_in (List.mem_append_right _ (List.mem_append_right _ (List.mem_append_right _ (List.mem_append_left _ (List.mem_of_getElem? (l := tables_1_3) (i := 0) rfl))))) rfl
theorem kt_481 : Cond.methodLink "RoomHours$Course" 97 yC_hasPersons ∈ kT := kT_in (List.mem_append_right _ (List.mem_append_right _ (List.mem_append_right _ (List.mem_append_left _ (List.mem_of_getElem? (l := tables_1_3) (i := 1) rfl))))) rfl
theorem kt_483 : Cond.instanceMethod yC_hasPersons ∈ kT := kT_in (List.mem_append_right _ (List.mem_append_right _ (List.mem_append_right _ (List.mem_append_left _ (List.mem_of_getElem? (l := tables_1_3) (i := 3) rfl))))) rfl
theorem kt_484 : Cond.code yC_hasPersons prog_2_method_14_code 3 (Option.some Jvm.ClassFile.FieldType.boolean) ∈ kT := kT_in (List.mem_append_right _ (List.mem_append_right _ (List.mem_append_right _ (List.mem_append_left _ (List.mem_of_getElem? (l := tables_1_3) (i := 4) rfl))))) rfl
theorem kt_485 : Cond.methodLink "RoomHoursLaw" 107 yL_told ∈ kT := kT_in (List.mem_append_right _ (List.mem_append_right _ (List.mem_append_right _ (List.mem_append_left _ (List.mem_of_getElem? (l := tables_1_3) (i := 5) rfl))))) rfl
theorem kt_486 : Cond.static yL_told ∈ kT := kT_in (List.mem_append_right _ (List.mem_append_right _ (List.mem_append_right _ (List.mem_append_left _ (List.mem_of_getElem? (l := tables_1_3) (i := 6) rfl))))) rfl
theorem kt_487 : Cond.codeWith yL_told method_13_code 5 (Option.some Jvm.ClassFile.FieldType.int) [(0, 9, 12, 13)] ∈ kT := kT_in (List.mem_append_right _ (List.mem_append_right _ (List.mem_append_right _ (List.mem_append_left _ (List.mem_of_getElem? (l := tables_1_3) (i := 7) rfl))))) rfl
theorem kt_488 : Cond.methodLink "RoomHoursLaw" 48 yR_told ∈ kT := kT_in (List.mem_append_right _ (List.mem_append_right _ (List.mem_append_right _ (List.mem_append_left _ (List.mem_of_getElem? (l := tables_1_3) (i := 8) rfl))))) rfl
theorem kt_489 : Cond.instanceMethod yR_told ∈ kT := kT_in (List.mem_append_right _ (List.mem_append_right _ (List.mem_append_right _ (List.mem_append_left _ (List.mem_of_getElem? (l := tables_1_3) (i := 9) rfl))))) rfl
theorem kt_490 : Cond.selects "RoomHours" yR_told yR_told ∈ kT := kT_in (List.mem_append_right _ (List.mem_append_right _ (List.mem_append_right _ (List.mem_append_left _ (List.mem_of_getElem? (l := tables_1_3) (i := 10) rfl))))) rfl
theorem kt_491 : Cond.code yR_told prog_1_method_12_code 3 (Option.some Jvm.ClassFile.FieldType.long) ∈ kT := kT_in (List.mem_append_right _ (List.mem_append_right _ (List.mem_append_right _ (List.mem_append_left _ (List.mem_of_getElem? (l := tables_1_3) (i := 11) rfl))))) rfl
theorem kt_493 : Cond.methodLink "RoomHours" 165 yC_warmthOf ∈ kT := kT_in (List.mem_append_right _ (List.mem_append_right _ (List.mem_append_right _ (List.mem_append_left _ (List.mem_of_getElem? (l := tables_1_3) (i := 13) rfl))))) rfl
theorem kt_494 : Cond.methodLink "RoomHoursLaw" 110 yL_balance ∈ kT := kT_in (List.mem_append_right _ (List.mem_append_right _ (List.mem_append_right _ (List.mem_append_left _ (List.mem_of_getElem? (l := tables_1_3) (i := 14) rfl))))) rfl
theorem kt_495 : Cond.static yL_balance ∈ kT := kT_in (List.mem_append_right _ (List.mem_append_right _ (List.mem_append_right _ (List.mem_append_left _ (List.mem_of_getElem? (l := tables_1_3) (i := 15) rfl))))) rfl
theorem kt_496 : Cond.codeWith yL_balance method_14_code 4 (Option.some Jvm.ClassFile.FieldType.int) [(0, 8, 11, 13)] ∈ kT := kT_in (List.mem_append_right _ (List.mem_append_right _ (List.mem_append_right _ (List.mem_append_left _ (List.mem_of_getElem? (l := tables_1_3) (i := 16) rfl))))) rfl
theorem kt_497 : Cond.methodLink "RoomHoursLaw" 52 yR_balance ∈ kT := kT_in (List.mem_append_right _ (List.mem_append_right _ (List.mem_append_right _ (List.mem_append_left _ (List.mem_of_getElem? (l := tables_1_3) (i := 17) rfl))))) rfl
theorem kt_498 : Cond.instanceMethod yR_balance ∈ kT := kT_in (List.mem_append_right _ (List.mem_append_right _ (List.mem_append_right _ (List.mem_append_left _ (List.mem_of_getElem? (l := tables_1_3) (i := 18) rfl))))) rfl
theorem kt_499 : Cond.selects "RoomHours" yR_balance yR_balance ∈ kT := kT_in (List.mem_append_right _ (List.mem_append_right _ (List.mem_append_right _ (List.mem_append_left _ (List.mem_of_getElem? (l := tables_1_3) (i := 19) rfl))))) rfl
theorem kt_500 : Cond.code yR_balance prog_1_method_13_code 2 (Option.some Jvm.ClassFile.FieldType.long) ∈ kT := kT_in (List.mem_append_right _ (List.mem_append_right _ (List.mem_append_right _ (List.mem_append_left _ (List.mem_of_getElem? (l := tables_1_3) (i := 20) rfl))))) rfl
theorem kt_502 : Cond.methodLink "RoomHours" 187 yC_sumOf ∈ kT := kT_in (List.mem_append_right _ (List.mem_append_right _ (List.mem_append_right _ (List.mem_append_left _ (List.mem_of_getElem? (l := tables_1_3) (i := 22) rfl))))) rfl
theorem kt_503 : Cond.instanceMethod yC_sumOf ∈ kT := kT_in (List.mem_append_right _ (List.mem_append_right _ (List.mem_append_right _ (List.mem_append_left _ (List.mem_of_getElem? (l := tables_1_3) (i := 23) rfl))))) rfl
theorem kt_504 : Cond.selects "RoomHours$Course" yC_sumOf yC_sumOf ∈ kT := kT_in (List.mem_append_right _ (List.mem_append_right _ (List.mem_append_right _ (List.mem_append_left _ (List.mem_of_getElem? (l := tables_1_3) (i := 24) rfl))))) rfl
theorem kt_505 : Cond.code yC_sumOf prog_2_method_7_code 5 (Option.some Jvm.ClassFile.FieldType.long) ∈ kT := kT_in (List.mem_append_right _ (List.mem_append_right _ (List.mem_append_right _ (List.mem_append_left _ (List.mem_of_getElem? (l := tables_1_3) (i := 25) rfl))))) rfl
theorem kt_506 : Cond.methodLink "RoomHoursLaw" 113 yL_early ∈ kT := kT_in (List.mem_append_right _ (List.mem_append_right _ (List.mem_append_right _ (List.mem_append_left _ (List.mem_of_getElem? (l := tables_1_3) (i := 26) rfl))))) rfl
theorem kt_507 : Cond.static yL_early ∈ kT := kT_in (List.mem_append_right _ (List.mem_append_right _ (List.mem_append_right _ (List.mem_append_left _ (List.mem_of_getElem? (l := tables_1_3) (i := 27) rfl))))) rfl
theorem kt_508 : Cond.codeWith yL_early method_15_code 6 (Option.some Jvm.ClassFile.FieldType.int) [(0, 12, 15, 13)] ∈ kT := kT_in (List.mem_append_right _ (List.mem_append_right _ (List.mem_append_right _ (List.mem_append_left _ (List.mem_of_getElem? (l := tables_1_3) (i := 28) rfl))))) rfl
theorem kt_509 : Cond.methodLink "RoomHoursLaw" 56 yR_early ∈ kT := kT_in (List.mem_append_right _ (List.mem_append_right _ (List.mem_append_right _ (List.mem_append_left _ (List.mem_of_getElem? (l := tables_1_3) (i := 29) rfl))))) rfl
theorem kt_510 : Cond.instanceMethod yR_early ∈ kT := kT_in (List.mem_append_right _ (List.mem_append_right _ (List.mem_append_right _ (List.mem_append_left _ (List.mem_of_getElem? (l := tables_1_3) (i := 30) rfl))))) rfl
theorem kt_511 : Cond.selects "RoomHours" yR_early yR_early ∈ kT := kT_in (List.mem_append_right _ (List.mem_append_right _ (List.mem_append_right _ (List.mem_append_left _ (List.mem_of_getElem? (l := tables_1_3) (i := 31) rfl))))) rfl
theorem kt_512 : Cond.code yR_early prog_1_method_14_code 8 (Option.some Jvm.ClassFile.FieldType.int) ∈ kT := kT_in (List.mem_append_right _ (List.mem_append_right _ (List.mem_append_right _ (List.mem_append_left _ (List.mem_of_getElem? (l := tables_1_3) (i := 32) rfl))))) rfl
theorem kt_514 : Cond.methodLink "RoomHours" 206 yC_nextBeginning ∈ kT := kT_in (List.mem_append_right _ (List.mem_append_right _ (List.mem_append_right _ (List.mem_append_left _ (List.mem_of_getElem? (l := tables_1_3) (i := 34) rfl))))) rfl
theorem kt_515 : Cond.instanceMethod yC_nextBeginning ∈ kT := kT_in (List.mem_append_right _ (List.mem_append_right _ (List.mem_append_right _ (List.mem_append_left _ (List.mem_of_getElem? (l := tables_1_3) (i := 35) rfl))))) rfl
theorem kt_516 : Cond.selects "RoomHours$Course" yC_nextBeginning yC_nextBeginning ∈ kT := kT_in (List.mem_append_right _ (List.mem_append_right _ (List.mem_append_right _ (List.mem_append_left _ (List.mem_of_getElem? (l := tables_1_3) (i := 36) rfl))))) rfl
theorem kt_517 : Cond.code yC_nextBeginning prog_2_method_8_code 3 (Option.some Jvm.ClassFile.FieldType.int) ∈ kT := kT_in (List.mem_append_right _ (List.mem_append_right _ (List.mem_append_right _ (List.mem_append_left _ (List.mem_of_getElem? (l := tables_1_3) (i := 37) rfl))))) rfl
theorem kt_518 : Cond.methodLink "RoomHours$Course" 82 yJ_floorMod ∈ kT := kT_in (List.mem_append_right _ (List.mem_append_right _ (List.mem_append_right _ (List.mem_append_left _ (List.mem_of_getElem? (l := tables_1_3) (i := 38) rfl))))) rfl
theorem kt_519 : Cond.static yJ_floorMod ∈ kT := kT_in (List.mem_append_right _ (List.mem_append_right _ (List.mem_append_right _ (List.mem_append_left _ (List.mem_of_getElem? (l := tables_1_3) (i := 39) rfl))))) rfl
theorem kt_520 : Cond.code yJ_floorMod prog_9_method_50_code 3 (Option.some Jvm.ClassFile.FieldType.int) ∈ kT := kT_in (List.mem_append_right _ (List.mem_append_right _ (List.mem_append_right _ (List.mem_append_left _ (List.mem_of_getElem? (l := tables_1_3) (i := 40) rfl))))) rfl
theorem kt_521 : Cond.methodLink "RoomHours" 209 yC_copyOf ∈ kT := kT_in (List.mem_append_right _ (List.mem_append_right _ (List.mem_append_right _ (List.mem_append_left _ (List.mem_of_getElem? (l := tables_1_3) (i := 41) rfl))))) rfl
theorem kt_522 : Cond.instanceMethod yC_copyOf ∈ kT := kT_in (List.mem_append_right _ (List.mem_append_right _ (List.mem_append_right _ (List.mem_append_left _ (List.mem_of_getElem? (l := tables_1_3) (i := 42) rfl))))) rfl
theorem kt_523 : Cond.selects "RoomHours$Course" yC_copyOf yC_copyOf ∈ kT := kT_in (List.mem_append_right _ (List.mem_append_right _ (List.mem_append_right _ (List.mem_append_left _ (List.mem_of_getElem? (l := tables_1_3) (i := 43) rfl))))) rfl
theorem kt_524 : Cond.code yC_copyOf prog_2_method_3_code 2 (Option.none : Option Jvm.ClassFile.FieldType) ∈ kT := kT_in (List.mem_append_right _ (List.mem_append_right _ (List.mem_append_right _ (List.mem_append_left _ (List.mem_of_getElem? (l := tables_1_3) (i := 44) rfl))))) rfl
theorem kt_525 : Cond.methodLink "RoomHours$Course" 49 ⟨"java/lang/System", "arraycopy", "(Ljava/lang/Object;ILjava/lang/Object;II)V"⟩ ∈ kT := kT_in (List.mem_append_right _ (List.mem_append_right _ (List.mem_append_right _ (List.mem_append_left _ (List.mem_of_getElem? (l := tables_1_3) (i := 45) rfl))))) rfl
theorem kt_526 : Cond.static ⟨"java/lang/System", "arraycopy", "(Ljava/lang/Object;ILjava/lang/Object;II)V"⟩ ∈ kT := kT_in (List.mem_append_right _ (List.mem_append_right _ (List.mem_append_right _ (List.mem_append_left _ (List.mem_of_getElem? (l := tables_1_3) (i := 46) rfl))))) rfl
theorem kt_527 : Cond.native ⟨"java/lang/System", "arraycopy", "(Ljava/lang/Object;ILjava/lang/Object;II)V"⟩ ∈ kT := kT_in (List.mem_append_right _ (List.mem_append_right _ (List.mem_append_right _ (List.mem_append_left _ (List.mem_of_getElem? (l := tables_1_3) (i := 47) rfl))))) rfl
theorem kt_528 : Cond.methodLink "RoomHours" 213 yC_trySet ∈ kT := kT_in (List.mem_append_right _ (List.mem_append_right _ (List.mem_append_right _ (List.mem_append_left _ (List.mem_of_getElem? (l := tables_1_3) (i := 48) rfl))))) rfl
theorem kt_529 : Cond.instanceMethod yC_trySet ∈ kT := kT_in (List.mem_append_right _ (List.mem_append_right _ (List.mem_append_right _ (List.mem_append_left _ (List.mem_of_getElem? (l := tables_1_3) (i := 49) rfl))))) rfl
theorem kt_530 : Cond.selects "RoomHours$Course" yC_trySet yC_trySet ∈ kT := kT_in (List.mem_append_right _ (List.mem_append_right _ (List.mem_append_right _ (List.mem_append_left _ (List.mem_of_getElem? (l := tables_1_3) (i := 50) rfl))))) rfl
theorem kt_531 : Cond.code yC_trySet prog_2_method_4_code 4 (Option.none : Option Jvm.ClassFile.FieldType) ∈ kT := kT_in (List.mem_append_right _ (List.mem_append_right _ (List.mem_append_right _ (List.mem_append_left _ (List.mem_of_getElem? (l := tables_1_3) (i := 51) rfl))))) rfl
theorem kt_532 : Cond.methodLink "RoomHoursLaw" 116 yL_strong ∈ kT := kT_in (List.mem_append_right _ (List.mem_append_right _ (List.mem_append_right _ (List.mem_append_left _ (List.mem_of_getElem? (l := tables_1_3) (i := 52) rfl))))) rfl
theorem kt_533 : Cond.static yL_strong ∈ kT := kT_in (List.mem_append_right _ (List.mem_append_right _ (List.mem_append_right _ (List.mem_append_left _ (List.mem_of_getElem? (l := tables_1_3) (i := 53) rfl))))) rfl
theorem kt_534 : Cond.codeWith yL_strong method_16_code 5 (Option.some Jvm.ClassFile.FieldType.int) [(0, 10, 13, 13)] ∈ kT := kT_in (List.mem_append_right _ (List.mem_append_right _ (List.mem_append_right _ (List.mem_append_left _ (List.mem_of_getElem? (l := tables_1_3) (i := 54) rfl))))) rfl
theorem kt_535 : Cond.methodLink "RoomHoursLaw" 59 yR_strong ∈ kT := kT_in (List.mem_append_right _ (List.mem_append_right _ (List.mem_append_right _ (List.mem_append_left _ (List.mem_of_getElem? (l := tables_1_3) (i := 55) rfl))))) rfl
theorem kt_536 : Cond.instanceMethod yR_strong ∈ kT := kT_in (List.mem_append_right _ (List.mem_append_right _ (List.mem_append_right _ (List.mem_append_left _ (List.mem_of_getElem? (l := tables_1_3) (i := 56) rfl))))) rfl
theorem kt_537 : Cond.selects "RoomHours" yR_strong yR_strong ∈ kT := kT_in (List.mem_append_right _ (List.mem_append_right _ (List.mem_append_right _ (List.mem_append_left _ (List.mem_of_getElem? (l := tables_1_3) (i := 57) rfl))))) rfl
theorem kt_538 : Cond.code yR_strong prog_1_method_15_code 4 (Option.some Jvm.ClassFile.FieldType.int) ∈ kT := kT_in (List.mem_append_right _ (List.mem_append_right _ (List.mem_append_right _ (List.mem_append_left _ (List.mem_of_getElem? (l := tables_1_3) (i := 58) rfl))))) rfl
theorem kt_540 : Cond.methodLink "RoomHours" 220 yC_tryMost ∈ kT := kT_in (List.mem_append_right _ (List.mem_append_right _ (List.mem_append_right _ (List.mem_append_left _ (List.mem_of_getElem? (l := tables_1_3) (i := 60) rfl))))) rfl
theorem kt_541 : Cond.instanceMethod yC_tryMost ∈ kT := kT_in (List.mem_append_right _ (List.mem_append_right _ (List.mem_append_right _ (List.mem_append_left _ (List.mem_of_getElem? (l := tables_1_3) (i := 61) rfl))))) rfl
theorem kt_542 : Cond.selects "RoomHours$Course" yC_tryMost yC_tryMost ∈ kT := kT_in (List.mem_append_right _ (List.mem_append_right _ (List.mem_append_right _ (List.mem_append_left _ (List.mem_of_getElem? (l := tables_1_3) (i := 62) rfl))))) rfl
theorem kt_543 : Cond.code yC_tryMost prog_2_method_5_code 3 (Option.none : Option Jvm.ClassFile.FieldType) ∈ kT := kT_in (List.mem_append_right _ (List.mem_append_right _ (List.mem_append_right _ (List.mem_append_left _ (List.mem_of_getElem? (l := tables_1_3) (i := 63) rfl))))) rfl
theorem kt_544 : Cond.methodLink "RoomHours" 223 yC_staysUp ∈ kT := kT_in (List.mem_append_right _ (List.mem_append_right _ (List.mem_append_right _ (List.mem_append_left _ (List.mem_of_getElem? (l := tables_1_3) (i := 64) rfl))))) rfl
theorem kt_545 : Cond.instanceMethod yC_staysUp ∈ kT := kT_in (List.mem_append_right _ (List.mem_append_right _ (List.mem_append_right _ (List.mem_append_left _ (List.mem_of_getElem? (l := tables_1_3) (i := 65) rfl))))) rfl
theorem kt_546 : Cond.selects "RoomHours$Course" yC_staysUp yC_staysUp ∈ kT := kT_in (List.mem_append_right _ (List.mem_append_right _ (List.mem_append_right _ (List.mem_append_left _ (List.mem_of_getElem? (l := tables_1_3) (i := 66) rfl))))) rfl
theorem kt_547 : Cond.code yC_staysUp prog_2_method_9_code 5 (Option.some Jvm.ClassFile.FieldType.boolean) ∈ kT := kT_in (List.mem_append_right _ (List.mem_append_right _ (List.mem_append_right _ (List.mem_append_left _ (List.mem_of_getElem? (l := tables_1_3) (i := 67) rfl))))) rfl
theorem kt_548 : Cond.methodLink "RoomHours$Course" 90 yC_step ∈ kT := kT_in (List.mem_append_right _ (List.mem_append_right _ (List.mem_append_right _ (List.mem_append_left _ (List.mem_of_getElem? (l := tables_1_3) (i := 68) rfl))))) rfl
theorem kt_549 : Cond.classLink "RoomHoursLaw" 63 "RoomHoursModel" ∈ kT := kT_in (List.mem_append_right _ (List.mem_append_right _ (List.mem_append_right _ (List.mem_append_left _ (List.mem_of_getElem? (l := tables_1_3) (i := 69) rfl))))) rfl
theorem kt_550 : Cond.instantiable "RoomHoursModel" 37 ∈ kT := kT_in (List.mem_append_right _ (List.mem_append_right _ (List.mem_append_right _ (List.mem_append_left _ (List.mem_of_getElem? (l := tables_1_3) (i := 70) rfl))))) rfl
theorem kt_551 : Cond.methodLink "RoomHoursLaw" 65 yM_init ∈ kT := kT_in (List.mem_append_right _ (List.mem_append_right _ (List.mem_append_right _ (List.mem_append_left _ (List.mem_of_getElem? (l := tables_1_3) (i := 71) rfl))))) rfl
theorem kt_552 : Cond.instanceMethod yM_init ∈ kT := kT_in (List.mem_append_right _ (List.mem_append_right _ (List.mem_append_right _ (List.mem_append_left _ (List.mem_of_getElem? (l := tables_1_3) (i := 72) rfl))))) rfl
theorem kt_553 : Cond.code yM_init prog_5_method_1_code 2 (Option.none : Option Jvm.ClassFile.FieldType) ∈ kT := kT_in (List.mem_append_right _ (List.mem_append_right _ (List.mem_append_right _ (List.mem_append_left _ (List.mem_of_getElem? (l := tables_1_3) (i := 73) rfl))))) rfl
theorem kt_554 : Cond.methodLink "RoomHoursModel" 1 ⟨"java/lang/Object", "<init>", "()V"⟩ ∈ kT := kT_in (List.mem_append_right _ (List.mem_append_right _ (List.mem_append_right _ (List.mem_append_left _ (List.mem_of_getElem? (l := tables_1_3) (i := 74) rfl))))) rfl
theorem kt_555 : Cond.constant "RoomHoursModel" 81 (-1000000) ∈ kT := kT_in (List.mem_append_right _ (List.mem_append_right _ (List.mem_append_right _ (List.mem_append_left _ (List.mem_of_getElem? (l := tables_1_3) (i := 75) rfl))))) rfl
theorem kt_556 : Cond.fieldLink "RoomHoursModel" 82 "RoomHoursModel" "thrown" "I" ∈ kT := kT_in (List.mem_append_right _ (List.mem_append_right _ (List.mem_append_right _ (List.mem_append_left _ (List.mem_of_getElem? (l := tables_1_3) (i := 76) rfl))))) rfl
theorem kt_557 : Cond.fieldLink "RoomHoursModel" 89 "RoomHoursModel" "rooms" "I" ∈ kT := kT_in (List.mem_append_right _ (List.mem_append_right _ (List.mem_append_right _ (List.mem_append_left _ (List.mem_of_getElem? (l := tables_1_3) (i := 77) rfl))))) rfl
theorem kt_558 : Cond.fieldLink "RoomHoursModel" 7 "RoomHoursModel" "store" "[I" ∈ kT := kT_in (List.mem_append_right _ (List.mem_append_right _ (List.mem_append_right _ (List.mem_append_left _ (List.mem_of_getElem? (l := tables_1_3) (i := 78) rfl))))) rfl
theorem kt_559 : Cond.fieldLink "RoomHoursModel" 13 "RoomHoursModel" "heat" "[J" ∈ kT := kT_in (List.mem_append_right _ (List.mem_append_right _ (List.mem_append_right _ (List.mem_append_left _ (List.mem_of_getElem? (l := tables_1_3) (i := 79) rfl))))) rfl
theorem kt_560 : Cond.fieldLink "RoomHoursModel" 17 "RoomHoursModel" "uneasy" "[I" ∈ kT := kT_in (List.mem_append_right _ (List.mem_append_right _ (List.mem_append_right _ (List.mem_append_left _ (List.mem_of_getElem? (l := tables_1_3) (i := 80) rfl))))) rfl
theorem kt_561 : Cond.fieldLink "RoomHoursModel" 20 "RoomHoursModel" "gave" "[J" ∈ kT := kT_in (List.mem_append_right _ (List.mem_append_right _ (List.mem_append_right _ (List.mem_append_left _ (List.mem_of_getElem? (l := tables_1_3) (i := 81) rfl))))) rfl
theorem kt_562 : Cond.fieldLink "RoomHoursModel" 23 "RoomHoursModel" "taken" "[J" ∈ kT := kT_in (List.mem_append_right _ (List.mem_append_right _ (List.mem_append_right _ (List.mem_append_left _ (List.mem_of_getElem? (l := tables_1_3) (i := 82) rfl))))) rfl
theorem kt_563 : Cond.fieldLink "RoomHoursModel" 26 "RoomHoursModel" "greatest" "[J" ∈ kT := kT_in (List.mem_append_right _ (List.mem_append_right _ (List.mem_append_right _ (List.mem_append_left _ (List.mem_of_getElem? (l := tables_1_3) (i := 83) rfl))))) rfl
theorem kt_564 : Cond.fieldLink "RoomHoursModel" 29 "RoomHoursModel" "mostHeating" "[I" ∈ kT := kT_in (List.mem_append_right _ (List.mem_append_right _ (List.mem_append_right _ (List.mem_append_left _ (List.mem_of_getElem? (l := tables_1_3) (i := 84) rfl))))) rfl
theorem kt_565 : Cond.fieldLink "RoomHoursModel" 32 "RoomHoursModel" "mostCooling" "[I" ∈ kT := kT_in (List.mem_append_right _ (List.mem_append_right _ (List.mem_append_right _ (List.mem_append_left _ (List.mem_of_getElem? (l := tables_1_3) (i := 85) rfl))))) rfl
theorem kt_566 : Cond.fieldLink "RoomHoursModel" 96 "RoomHoursModel" "began" "J" ∈ kT := kT_in (List.mem_append_right _ (List.mem_append_right _ (List.mem_append_right _ (List.mem_append_left _ (List.mem_of_getElem? (l := tables_1_3) (i := 86) rfl))))) rfl
theorem kt_567 : Cond.fieldLink "RoomHoursModel" 100 "RoomHoursModel" "walls" "I" ∈ kT := kT_in (List.mem_append_right _ (List.mem_append_right _ (List.mem_append_right _ (List.mem_append_left _ (List.mem_of_getElem? (l := tables_1_3) (i := 87) rfl))))) rfl
theorem kt_568 : Cond.fieldLink "RoomHoursModel" 35 "RoomHoursModel" "wallRoom" "[I" ∈ kT := kT_in (List.mem_append_right _ (List.mem_append_right _ (List.mem_append_right _ (List.mem_append_left _ (List.mem_of_getElem? (l := tables_1_3) (i := 88) rfl))))) rfl
theorem kt_569 : Cond.fieldLink "RoomHoursModel" 38 "RoomHoursModel" "wallOther" "[I" ∈ kT := kT_in (List.mem_append_right _ (List.mem_append_right _ (List.mem_append_right _ (List.mem_append_left _ (List.mem_of_getElem? (l := tables_1_3) (i := 89) rfl))))) rfl
theorem kt_570 : Cond.fieldLink "RoomHoursModel" 41 "RoomHoursModel" "leads" "[I" ∈ kT := kT_in (List.mem_append_right _ (List.mem_append_right _ (List.mem_append_right _ (List.mem_append_left _ (List.mem_of_getElem? (l := tables_1_3) (i := 90) rfl))))) rfl
theorem kt_571 : Cond.fieldLink "RoomHoursModel" 112 "RoomHoursModel" "windows" "I" ∈ kT := kT_in (List.mem_append_right _ (List.mem_append_right _ (List.mem_append_right _ (List.mem_append_left _ (List.mem_of_getElem? (l := tables_1_3) (i := 91) rfl))))) rfl
theorem kt_572 : Cond.fieldLink "RoomHoursModel" 44 "RoomHoursModel" "windowRoom" "[I" ∈ kT := kT_in (List.mem_append_right _ (List.mem_append_right _ (List.mem_append_right _ (List.mem_append_left _ (List.mem_of_getElem? (l := tables_1_3) (i := 92) rfl))))) rfl
theorem kt_573 : Cond.fieldLink "RoomHoursModel" 47 "RoomHoursModel" "windowSide" "[I" ∈ kT := kT_in (List.mem_append_right _ (List.mem_append_right _ (List.mem_append_right _ (List.mem_append_left _ (List.mem_of_getElem? (l := tables_1_3) (i := 93) rfl))))) rfl
theorem kt_574 : Cond.fieldLink "RoomHoursModel" 50 "RoomHoursModel" "windowArea" "[I" ∈ kT := kT_in (List.mem_append_right _ (List.mem_append_right _ (List.mem_append_right _ (List.mem_append_left _ (List.mem_of_getElem? (l := tables_1_3) (i := 94) rfl))))) rfl
theorem kt_575 : Cond.fieldLink "RoomHoursModel" 53 "RoomHoursModel" "windowLimit" "[I" ∈ kT := kT_in (List.mem_append_right _ (List.mem_append_right _ (List.mem_append_right _ (List.mem_append_left _ (List.mem_of_getElem? (l := tables_1_3) (i := 95) rfl))))) rfl
theorem kt_576 : Cond.fieldLink "RoomHoursModel" 56 "RoomHoursModel" "outside" "[I" ∈ kT := kT_in (List.mem_append_right _ (List.mem_append_right _ (List.mem_append_right _ (List.mem_append_left _ (List.mem_of_getElem? (l := tables_1_3) (i := 96) rfl))))) rfl
theorem kt_577 : Cond.fieldLink "RoomHoursModel" 59 "RoomHoursModel" "sun" "[I" ∈ kT := kT_in (List.mem_append_right _ (List.mem_append_right _ (List.mem_append_right _ (List.mem_append_left _ (List.mem_of_getElem? (l := tables_1_3) (i := 97) rfl))))) rfl
theorem kt_578 : Cond.fieldLink "RoomHoursModel" 62 "RoomHoursModel" "persons" "[I" ∈ kT := kT_in (List.mem_append_right _ (List.mem_append_right _ (List.mem_append_right _ (List.mem_append_left _ (List.mem_of_getElem? (l := tables_1_3) (i := 98) rfl))))) rfl
theorem kt_579 : Cond.fieldLink "RoomHoursModel" 65 "RoomHoursModel" "set" "[I" ∈ kT := kT_in (List.mem_append_right _ (List.mem_append_right _ (List.mem_append_right _ (List.mem_append_left _ (List.mem_of_getElem? (l := tables_1_3) (i := 99) rfl))))) rfl
theorem kt_580 : Cond.fieldLink "RoomHoursModel" 68 "RoomHoursModel" "cool" "[I" ∈ kT := kT_in (List.mem_append_right _ (List.mem_append_right _ (List.mem_append_right _ (List.mem_append_left _ (List.mem_of_getElem? (l := tables_1_3) (i := 100) rfl))))) rfl
theorem kt_581 : Cond.fieldLink "RoomHoursModel" 116 "RoomHoursModel" "low" "I" ∈ kT := kT_in (List.mem_append_right _ (List.mem_append_right _ (List.mem_append_right _ (List.mem_append_left _ (List.mem_of_getElem? (l := tables_1_3) (i := 101) rfl))))) rfl
theorem kt_582 : Cond.fieldLink "RoomHoursModel" 119 "RoomHoursModel" "high" "I" ∈ kT := kT_in (List.mem_append_right _ (List.mem_append_right _ (List.mem_append_right _ (List.mem_append_left _ (List.mem_of_getElem? (l := tables_1_3) (i := 102) rfl))))) rfl
theorem kt_583 : Cond.fieldLink "RoomHoursModel" 139 "RoomHoursModel" "now" "I" ∈ kT := kT_in (List.mem_append_right _ (List.mem_append_right _ (List.mem_append_right _ (List.mem_append_left _ (List.mem_of_getElem? (l := tables_1_3) (i := 103) rfl))))) rfl
theorem kt_584 : Cond.fieldLink "RoomHoursModel" 133 "RoomHoursModel" "bySun" "J" ∈ kT := kT_in (List.mem_append_right _ (List.mem_append_right _ (List.mem_append_right _ (List.mem_append_left _ (List.mem_of_getElem? (l := tables_1_3) (i := 104) rfl))))) rfl
theorem kt_585 : Cond.fieldLink "RoomHoursModel" 136 "RoomHoursModel" "byPersons" "J" ∈ kT := kT_in (List.mem_append_right _ (List.mem_append_right _ (List.mem_append_right _ (List.mem_append_left _ (List.mem_of_getElem? (l := tables_1_3) (i := 105) rfl))))) rfl
theorem kt_586 : Cond.fieldLink "RoomHoursModel" 130 "RoomHoursModel" "out" "J" ∈ kT := kT_in (List.mem_append_right _ (List.mem_append_right _ (List.mem_append_right _ (List.mem_append_left _ (List.mem_of_getElem? (l := tables_1_3) (i := 106) rfl))))) rfl
theorem kt_587 : Cond.fieldLink "RoomHoursModel" 71 "RoomHoursModel" "warmth" "[J" ∈ kT := kT_in (List.mem_append_right _ (List.mem_append_right _ (List.mem_append_right _ (List.mem_append_left _ (List.mem_of_getElem? (l := tables_1_3) (i := 107) rfl))))) rfl
theorem kt_588 : Cond.fieldLink "RoomHoursModel" 74 "RoomHoursModel" "triedRoom" "I" ∈ kT := kT_in (List.mem_append_right _ (List.mem_append_right _ (List.mem_append_right _ (List.mem_append_left _ (List.mem_of_getElem? (l := tables_1_3) (i := 108) rfl))))) rfl
theorem kt_589 : Cond.fieldLink "RoomHoursModel" 149 "RoomHoursModel" "triedWarmth" "I" ∈ kT := kT_in (List.mem_append_right _ (List.mem_append_right _ (List.mem_append_right _ (List.mem_append_left _ (List.mem_of_getElem? (l := tables_1_3) (i := 109) rfl))))) rfl
theorem kt_590 : Cond.fieldLink "RoomHoursModel" 146 "RoomHoursModel" "triedFrom" "I" ∈ kT := kT_in (List.mem_append_right _ (List.mem_append_right _ (List.mem_append_right _ (List.mem_append_left _ (List.mem_of_getElem? (l := tables_1_3) (i := 110) rfl))))) rfl
theorem kt_591 : Cond.fieldLink "RoomHoursModel" 152 "RoomHoursModel" "wasLow" "Z" ∈ kT := kT_in (List.mem_append_right _ (List.mem_append_right _ (List.mem_append_right _ (List.mem_append_left _ (List.mem_of_getElem? (l := tables_1_3) (i := 111) rfl))))) rfl
theorem kt_592 : Cond.fieldLink "RoomHoursModel" 78 "RoomHoursModel" "kept" "[J" ∈ kT := kT_in (List.mem_append_right _ (List.mem_append_right _ (List.mem_append_right _ (List.mem_append_left _ (List.mem_of_getElem? (l := tables_1_3) (i := 112) rfl))))) rfl
theorem kt_668 : Cond.methodLink "RoomHoursLaw" 72 yM_thrown ∈ kT := kT_in (List.mem_append_right _ (List.mem_append_right _ (List.mem_append_right _ (List.mem_append_left _ (List.mem_of_getElem? (l := tables_1_3) (i := 188) rfl))))) rfl
theorem kt_669 : Cond.instanceMethod yM_thrown ∈ kT := kT_in (List.mem_append_right _ (List.mem_append_right _ (List.mem_append_right _ (List.mem_append_left _ (List.mem_of_getElem? (l := tables_1_3) (i := 189) rfl))))) rfl
theorem kt_670 : Cond.selects "RoomHoursModel" yM_thrown yM_thrown ∈ kT := kT_in (List.mem_append_right _ (List.mem_append_right _ (List.mem_append_right _ (List.mem_append_left _ (List.mem_of_getElem? (l := tables_1_3) (i := 190) rfl))))) rfl
theorem kt_671 : Cond.code yM_thrown prog_5_method_2_code 1 (Option.some Jvm.ClassFile.FieldType.int) ∈ kT := kT_in (List.mem_append_right _ (List.mem_append_right _ (List.mem_append_right _ (List.mem_append_left _ (List.mem_of_getElem? (l := tables_1_3) (i := 191) rfl))))) rfl
theorem kt_672 : Cond.methodLink "RoomHoursLaw" 71 yM_room ∈ kT := kT_in (List.mem_append_right _ (List.mem_append_right _ (List.mem_append_right _ (List.mem_append_left _ (List.mem_of_getElem? (l := tables_1_3) (i := 192) rfl))))) rfl
theorem kt_673 : Cond.instanceMethod yM_room ∈ kT := kT_in (List.mem_append_right _ (List.mem_append_right _ (List.mem_append_right _ (List.mem_append_left _ (List.mem_of_getElem? (l := tables_1_3) (i := 193) rfl))))) rfl
theorem kt_674 : Cond.selects "RoomHoursModel" yM_room yM_room ∈ kT := kT_in (List.mem_append_right _ (List.mem_append_right _ (List.mem_append_right _ (List.mem_append_left _ (List.mem_of_getElem? (l := tables_1_3) (i := 194) rfl))))) rfl
theorem kt_675 : Cond.code yM_room prog_5_method_7_code 3 (Option.some Jvm.ClassFile.FieldType.int) ∈ kT := kT_in (List.mem_append_right _ (List.mem_append_right _ (List.mem_append_right _ (List.mem_append_left _ (List.mem_of_getElem? (l := tables_1_3) (i := 195) rfl))))) rfl
theorem kt_676 : Cond.methodLink "RoomHoursModel" 85 yM_in ∈ kT := kT_in (List.mem_append_right _ (List.mem_append_right _ (List.mem_append_right _ (List.mem_append_left _ (List.mem_of_getElem? (l := tables_1_3) (i := 196) rfl))))) rfl
theorem kt_677 : Cond.static yM_in ∈ kT := kT_in (List.mem_append_right _ (List.mem_append_right _ (List.mem_append_right _ (List.mem_append_left _ (List.mem_of_getElem? (l := tables_1_3) (i := 197) rfl))))) rfl
theorem kt_678 : Cond.code yM_in prog_5_method_3_code 3 (Option.some Jvm.ClassFile.FieldType.boolean) ∈ kT := kT_in (List.mem_append_right _ (List.mem_append_right _ (List.mem_append_right _ (List.mem_append_left _ (List.mem_of_getElem? (l := tables_1_3) (i := 198) rfl))))) rfl
theorem kt_679 : Cond.methodLink "RoomHoursModel" 92 yM_isWarmth ∈ kT := kT_in (List.mem_append_right _ (List.mem_append_right _ (List.mem_append_right _ (List.mem_append_left _ (List.mem_of_getElem? (l := tables_1_3) (i := 199) rfl))))) rfl
theorem kt_680 : Cond.static yM_isWarmth ∈ kT := kT_in (List.mem_append_right _ (List.mem_append_right _ (List.mem_append_right _ (List.mem_append_left _ (List.mem_of_getElem? (l := tables_1_3) (i := 200) rfl))))) rfl
theorem kt_681 : Cond.code yM_isWarmth prog_5_method_4_code 1 (Option.some Jvm.ClassFile.FieldType.boolean) ∈ kT := kT_in (List.mem_append_right _ (List.mem_append_right _ (List.mem_append_right _ (List.mem_append_left _ (List.mem_of_getElem? (l := tables_1_3) (i := 201) rfl))))) rfl
theorem kt_682 : Cond.methodLink "RoomHoursLaw" 79 yM_wall ∈ kT := kT_in (List.mem_append_right _ (List.mem_append_right _ (List.mem_append_right _ (List.mem_append_left _ (List.mem_of_getElem? (l := tables_1_3) (i := 202) rfl))))) rfl
theorem kt_683 : Cond.instanceMethod yM_wall ∈ kT := kT_in (List.mem_append_right _ (List.mem_append_right _ (List.mem_append_right _ (List.mem_append_left _ (List.mem_of_getElem? (l := tables_1_3) (i := 203) rfl))))) rfl
theorem kt_684 : Cond.selects "RoomHoursModel" yM_wall yM_wall ∈ kT := kT_in (List.mem_append_right _ (List.mem_append_right _ (List.mem_append_right _ (List.mem_append_left _ (List.mem_of_getElem? (l := tables_1_3) (i := 204) rfl))))) rfl
theorem kt_685 : Cond.code yM_wall prog_5_method_9_code 5 (Option.some Jvm.ClassFile.FieldType.int) ∈ kT := kT_in (List.mem_append_right _ (List.mem_append_right _ (List.mem_append_right _ (List.mem_append_left _ (List.mem_of_getElem? (l := tables_1_3) (i := 205) rfl))))) rfl
theorem kt_686 : Cond.methodLink "RoomHoursModel" 105 yM_isRoom ∈ kT := kT_in (List.mem_append_right _ (List.mem_append_right _ (List.mem_append_right _ (List.mem_append_left _ (List.mem_of_getElem? (l := tables_1_3) (i := 206) rfl))))) rfl
theorem kt_688 : Cond.instanceMethod yM_isRoom ∈ kT := kT_in (List.mem_append_right _ (List.mem_append_right _ (List.mem_append_right _ (List.mem_append_left _ (List.mem_of_getElem? (l := tables_1_3) (i := 208) rfl))))) rfl
theorem kt_689 : Cond.code yM_isRoom prog_5_method_5_code 2 (Option.some Jvm.ClassFile.FieldType.boolean) ∈ kT := kT_in (List.mem_append_right _ (List.mem_append_right _ (List.mem_append_right _ (List.mem_append_left _ (List.mem_of_getElem? (l := tables_1_3) (i := 209) rfl))))) rfl
theorem kt_690 : Cond.methodLink "RoomHoursModel" 108 yM_isTooMuch ∈ kT := kT_in (List.mem_append_right _ (List.mem_append_right _ (List.mem_append_right _ (List.mem_append_left _ (List.mem_of_getElem? (l := tables_1_3) (i := 210) rfl))))) rfl
theorem kt_692 : Cond.instanceMethod yM_isTooMuch ∈ kT := kT_in (List.mem_append_right _ (List.mem_append_right _ (List.mem_append_right _ (List.mem_append_left _ (List.mem_of_getElem? (l := tables_1_3) (i := 212) rfl))))) rfl
theorem kt_693 : Cond.code yM_isTooMuch prog_5_method_8_code 6 (Option.some Jvm.ClassFile.FieldType.boolean) ∈ kT := kT_in (List.mem_append_right _ (List.mem_append_right _ (List.mem_append_right _ (List.mem_append_left _ (List.mem_of_getElem? (l := tables_1_3) (i := 213) rfl))))) rfl
theorem kt_694 : Cond.constantLong "RoomHoursModel" 103 (100 : Int64) ∈ kT := kT_in (List.mem_append_right _ (List.mem_append_right _ (List.mem_append_right _ (List.mem_append_left _ (List.mem_of_getElem? (l := tables_1_3) (i := 214) rfl))))) rfl
theorem kt_695 : Cond.methodLink "RoomHoursLaw" 82 yM_leads ∈ kT := kT_in (List.mem_append_right _ (List.mem_append_right _ (List.mem_append_right _ (List.mem_append_left _ (List.mem_of_getElem? (l := tables_1_3) (i := 215) rfl))))) rfl
theorem kt_696 : Cond.instanceMethod yM_leads ∈ kT := kT_in (List.mem_append_right _ (List.mem_append_right _ (List.mem_append_right _ (List.mem_append_left _ (List.mem_of_getElem? (l := tables_1_3) (i := 216) rfl))))) rfl
theorem kt_697 : Cond.selects "RoomHoursModel" yM_leads yM_leads ∈ kT := kT_in (List.mem_append_right _ (List.mem_append_right _ (List.mem_append_right _ (List.mem_append_left _ (List.mem_of_getElem? (l := tables_1_3) (i := 217) rfl))))) rfl
theorem kt_698 : Cond.code yM_leads prog_5_method_10_code 5 (Option.some Jvm.ClassFile.FieldType.int) ∈ kT := kT_in (List.mem_append_right _ (List.mem_append_right _ (List.mem_append_right _ (List.mem_append_left _ (List.mem_of_getElem? (l := tables_1_3) (i := 218) rfl))))) rfl
theorem kt_699 : Cond.methodLink "RoomHoursLaw" 86 yM_window ∈ kT := kT_in (List.mem_append_right _ (List.mem_append_right _ (List.mem_append_right _ (List.mem_append_left _ (List.mem_of_getElem? (l := tables_1_3) (i := 219) rfl))))) rfl
theorem kt_700 : Cond.instanceMethod yM_window ∈ kT := kT_in (List.mem_append_right _ (List.mem_append_right _ (List.mem_append_right _ (List.mem_append_left _ (List.mem_of_getElem? (l := tables_1_3) (i := 220) rfl))))) rfl
theorem kt_701 : Cond.selects "RoomHoursModel" yM_window yM_window ∈ kT := kT_in (List.mem_append_right _ (List.mem_append_right _ (List.mem_append_right _ (List.mem_append_left _ (List.mem_of_getElem? (l := tables_1_3) (i := 221) rfl))))) rfl
theorem kt_702 : Cond.code yM_window prog_5_method_11_code 6 (Option.some Jvm.ClassFile.FieldType.int) ∈ kT := kT_in (List.mem_append_right _ (List.mem_append_right _ (List.mem_append_right _ (List.mem_append_left _ (List.mem_of_getElem? (l := tables_1_3) (i := 222) rfl))))) rfl
theorem kt_703 : Cond.methodLink "RoomHoursLaw" 89 yM_outside ∈ kT := kT_in (List.mem_append_right _ (List.mem_append_right _ (List.mem_append_right _ (List.mem_append_left _ (List.mem_of_getElem? (l := tables_1_3) (i := 223) rfl))))) rfl
theorem kt_704 : Cond.instanceMethod yM_outside ∈ kT := kT_in (List.mem_append_right _ (List.mem_append_right _ (List.mem_append_right _ (List.mem_append_left _ (List.mem_of_getElem? (l := tables_1_3) (i := 224) rfl))))) rfl
theorem kt_705 : Cond.selects "RoomHoursModel" yM_outside yM_outside ∈ kT := kT_in (List.mem_append_right _ (List.mem_append_right _ (List.mem_append_right _ (List.mem_append_left _ (List.mem_of_getElem? (l := tables_1_3) (i := 225) rfl))))) rfl
theorem kt_706 : Cond.code yM_outside prog_5_method_12_code 4 (Option.some Jvm.ClassFile.FieldType.int) ∈ kT := kT_in (List.mem_append_right _ (List.mem_append_right _ (List.mem_append_right _ (List.mem_append_left _ (List.mem_of_getElem? (l := tables_1_3) (i := 226) rfl))))) rfl
theorem kt_707 : Cond.methodLink "RoomHoursLaw" 92 yM_sun ∈ kT := kT_in (List.mem_append_right _ (List.mem_append_right _ (List.mem_append_right _ (List.mem_append_left _ (List.mem_of_getElem? (l := tables_1_3) (i := 227) rfl))))) rfl
theorem kt_708 : Cond.instanceMethod yM_sun ∈ kT := kT_in (List.mem_append_right _ (List.mem_append_right _ (List.mem_append_right _ (List.mem_append_left _ (List.mem_of_getElem? (l := tables_1_3) (i := 228) rfl))))) rfl
theorem kt_709 : Cond.selects "RoomHoursModel" yM_sun yM_sun ∈ kT := kT_in (List.mem_append_right _ (List.mem_append_right _ (List.mem_append_right _ (List.mem_append_left _ (List.mem_of_getElem? (l := tables_1_3) (i := 229) rfl))))) rfl
theorem kt_710 : Cond.code yM_sun prog_5_method_13_code 5 (Option.some Jvm.ClassFile.FieldType.int) ∈ kT := kT_in (List.mem_append_right _ (List.mem_append_right _ (List.mem_append_right _ (List.mem_append_left _ (List.mem_of_getElem? (l := tables_1_3) (i := 230) rfl))))) rfl
theorem kt_711 : Cond.methodLink "RoomHoursLaw" 95 yM_plan ∈ kT := kT_in (List.mem_append_right _ (List.mem_append_right _ (List.mem_append_right _ (List.mem_append_left _ (List.mem_of_getElem? (l := tables_1_3) (i := 231) rfl))))) rfl
theorem kt_712 : Cond.instanceMethod yM_plan ∈ kT := kT_in (List.mem_append_right _ (List.mem_append_right _ (List.mem_append_right _ (List.mem_append_left _ (List.mem_of_getElem? (l := tables_1_3) (i := 232) rfl))))) rfl
theorem kt_713 : Cond.selects "RoomHoursModel" yM_plan yM_plan ∈ kT := kT_in (List.mem_append_right _ (List.mem_append_right _ (List.mem_append_right _ (List.mem_append_left _ (List.mem_of_getElem? (l := tables_1_3) (i := 233) rfl))))) rfl
theorem kt_714 : Cond.code yM_plan prog_5_method_14_code 8 (Option.some Jvm.ClassFile.FieldType.int) ∈ kT := kT_in (List.mem_append_right _ (List.mem_append_right _ (List.mem_append_right _ (List.mem_append_left _ (List.mem_of_getElem? (l := tables_1_3) (i := 234) rfl))))) rfl
theorem kt_715 : Cond.methodLink "RoomHoursLaw" 98 yM_most ∈ kT := kT_in (List.mem_append_right _ (List.mem_append_right _ (List.mem_append_right _ (List.mem_append_left _ (List.mem_of_getElem? (l := tables_1_3) (i := 235) rfl))))) rfl
theorem kt_716 : Cond.instanceMethod yM_most ∈ kT := kT_in (List.mem_append_right _ (List.mem_append_right _ (List.mem_append_right _ (List.mem_append_left _ (List.mem_of_getElem? (l := tables_1_3) (i := 236) rfl))))) rfl
theorem kt_717 : Cond.selects "RoomHoursModel" yM_most yM_most ∈ kT := kT_in (List.mem_append_right _ (List.mem_append_right _ (List.mem_append_right _ (List.mem_append_left _ (List.mem_of_getElem? (l := tables_1_3) (i := 237) rfl))))) rfl
theorem kt_718 : Cond.code yM_most prog_5_method_15_code 5 (Option.some Jvm.ClassFile.FieldType.int) ∈ kT := kT_in (List.mem_append_right _ (List.mem_append_right _ (List.mem_append_right _ (List.mem_append_left _ (List.mem_of_getElem? (l := tables_1_3) (i := 238) rfl))))) rfl
theorem kt_719 : Cond.constant "RoomHoursModel" 115 (1000000) ∈ kT := kT_in (List.mem_append_right _ (List.mem_append_right _ (List.mem_append_right _ (List.mem_append_left _ (List.mem_of_getElem? (l := tables_1_3) (i := 239) rfl))))) rfl
theorem kt_720 : Cond.methodLink "RoomHoursLaw" 102 yM_ease ∈ kT := kT_in (List.mem_append_right _ (List.mem_append_right _ (List.mem_append_right _ (List.mem_append_right _ (List.mem_of_getElem? (l := tables_1_4) (i := 0) rfl))))) rfl
theorem kt_721 : Cond.instanceMethod yM_ease ∈ kT := kT_in (List.mem_append_right _ (List.mem_append_right _ (List.mem_append_right _ (List.mem_append_right _ (List.mem_of_getElem? (l := tables_1_4) (i := 1) rfl))))) rfl
theorem kt_722 : Cond.selects "RoomHoursModel" yM_ease yM_ease ∈ kT := kT_in (List.mem_append_right _ (List.mem_append_right _ (List.mem_append_right _ (List.mem_append_right _ (List.mem_of_getElem? (l := tables_1_4) (i := 2) rfl))))) rfl
theorem kt_723 : Cond.code yM_ease prog_5_method_16_code 3 (Option.none : Option Jvm.ClassFile.FieldType) ∈ kT := kT_in (List.mem_append_right _ (List.mem_append_right _ (List.mem_append_right _ (List.mem_append_right _ (List.mem_of_getElem? (l := tables_1_4) (i := 3) rfl))))) rfl
theorem kt_724 : Cond.methodLink "RoomHoursLaw" 106 yM_run ∈ kT := kT_in (List.mem_append_right _ (List.mem_append_right _ (List.mem_append_right _ (List.mem_append_right _ (List.mem_of_getElem? (l := tables_1_4) (i := 4) rfl))))) rfl
theorem kt_725 : Cond.instanceMethod yM_run ∈ kT := kT_in (List.mem_append_right _ (List.mem_append_right _ (List.mem_append_right _ (List.mem_append_right _ (List.mem_of_getElem? (l := tables_1_4) (i := 5) rfl))))) rfl
theorem kt_726 : Cond.selects "RoomHoursModel" yM_run yM_run ∈ kT := kT_in (List.mem_append_right _ (List.mem_append_right _ (List.mem_append_right _ (List.mem_append_right _ (List.mem_of_getElem? (l := tables_1_4) (i := 6) rfl))))) rfl
theorem kt_727 : Cond.code yM_run prog_5_method_20_code 3 (Option.some Jvm.ClassFile.FieldType.int) ∈ kT := kT_in (List.mem_append_right _ (List.mem_append_right _ (List.mem_append_right _ (List.mem_append_right _ (List.mem_of_getElem? (l := tables_1_4) (i := 7) rfl))))) rfl
theorem kt_728 : Cond.constant "RoomHoursModel" 156 (100000) ∈ kT := kT_in (List.mem_append_right _ (List.mem_append_right _ (List.mem_append_right _ (List.mem_append_right _ (List.mem_of_getElem? (l := tables_1_4) (i := 8) rfl))))) rfl
theorem kt_729 : Cond.methodLink "RoomHoursModel" 157 yM_step ∈ kT := kT_in (List.mem_append_right _ (List.mem_append_right _ (List.mem_append_right _ (List.mem_append_right _ (List.mem_of_getElem? (l := tables_1_4) (i := 9) rfl))))) rfl
theorem kt_731 : Cond.instanceMethod yM_step ∈ kT := kT_in (List.mem_append_right _ (List.mem_append_right _ (List.mem_append_right _ (List.mem_append_right _ (List.mem_of_getElem? (l := tables_1_4) (i := 11) rfl))))) rfl
theorem kt_732 : Cond.code yM_step prog_5_method_19_code 13 (Option.none : Option Jvm.ClassFile.FieldType) ∈ kT := kT_in (List.mem_append_right _ (List.mem_append_right _ (List.mem_append_right _ (List.mem_append_right _ (List.mem_of_getElem? (l := tables_1_4) (i := 12) rfl))))) rfl
theorem kt_733 : Cond.methodLink "RoomHoursModel" 142 yM_flows ∈ kT := kT_in (List.mem_append_right _ (List.mem_append_right _ (List.mem_append_right _ (List.mem_append_right _ (List.mem_of_getElem? (l := tables_1_4) (i := 13) rfl))))) rfl
theorem kt_735 : Cond.instanceMethod yM_flows ∈ kT := kT_in (List.mem_append_right _ (List.mem_append_right _ (List.mem_append_right _ (List.mem_append_right _ (List.mem_of_getElem? (l := tables_1_4) (i := 15) rfl))))) rfl
theorem kt_736 : Cond.code yM_flows prog_5_method_18_code 7 (Option.none : Option Jvm.ClassFile.FieldType) ∈ kT := kT_in (List.mem_append_right _ (List.mem_append_right _ (List.mem_append_right _ (List.mem_append_right _ (List.mem_of_getElem? (l := tables_1_4) (i := 16) rfl))))) rfl
theorem kt_737 : Cond.methodLink "RoomHoursModel" 126 yM_warmthOf ∈ kT := kT_in (List.mem_append_right _ (List.mem_append_right _ (List.mem_append_right _ (List.mem_append_right _ (List.mem_of_getElem? (l := tables_1_4) (i := 17) rfl))))) rfl
theorem kt_739 : Cond.instanceMethod yM_warmthOf ∈ kT := kT_in (List.mem_append_right _ (List.mem_append_right _ (List.mem_append_right _ (List.mem_append_right _ (List.mem_of_getElem? (l := tables_1_4) (i := 19) rfl))))) rfl
theorem kt_740 : Cond.code yM_warmthOf prog_5_method_17_code 2 (Option.some Jvm.ClassFile.FieldType.long) ∈ kT := kT_in (List.mem_append_right _ (List.mem_append_right _ (List.mem_append_right _ (List.mem_append_right _ (List.mem_of_getElem? (l := tables_1_4) (i := 20) rfl))))) rfl
theorem kt_741 : Cond.methodLink "RoomHoursModel" 122 yM_floor ∈ kT := kT_in (List.mem_append_right _ (List.mem_append_right _ (List.mem_append_right _ (List.mem_append_right _ (List.mem_of_getElem? (l := tables_1_4) (i := 21) rfl))))) rfl
theorem kt_742 : Cond.static yM_floor ∈ kT := kT_in (List.mem_append_right _ (List.mem_append_right _ (List.mem_append_right _ (List.mem_append_right _ (List.mem_of_getElem? (l := tables_1_4) (i := 22) rfl))))) rfl
theorem kt_743 : Cond.code yM_floor prog_5_method_6_code 5 (Option.some Jvm.ClassFile.FieldType.long) ∈ kT := kT_in (List.mem_append_right _ (List.mem_append_right _ (List.mem_append_right _ (List.mem_append_right _ (List.mem_of_getElem? (l := tables_1_4) (i := 23) rfl))))) rfl
theorem kt_744 : Cond.methodLink "RoomHoursLaw" 109 yM_told ∈ kT := kT_in (List.mem_append_right _ (List.mem_append_right _ (List.mem_append_right _ (List.mem_append_right _ (List.mem_of_getElem? (l := tables_1_4) (i := 24) rfl))))) rfl
theorem kt_745 : Cond.instanceMethod yM_told ∈ kT := kT_in (List.mem_append_right _ (List.mem_append_right _ (List.mem_append_right _ (List.mem_append_right _ (List.mem_of_getElem? (l := tables_1_4) (i := 25) rfl))))) rfl
theorem kt_746 : Cond.selects "RoomHoursModel" yM_told yM_told ∈ kT := kT_in (List.mem_append_right _ (List.mem_append_right _ (List.mem_append_right _ (List.mem_append_right _ (List.mem_of_getElem? (l := tables_1_4) (i := 26) rfl))))) rfl
theorem kt_747 : Cond.code yM_told prog_5_method_21_code 3 (Option.some Jvm.ClassFile.FieldType.long) ∈ kT := kT_in (List.mem_append_right _ (List.mem_append_right _ (List.mem_append_right _ (List.mem_append_right _ (List.mem_of_getElem? (l := tables_1_4) (i := 27) rfl))))) rfl
theorem kt_748 : Cond.methodLink "RoomHoursLaw" 112 yM_balance ∈ kT := kT_in (List.mem_append_right _ (List.mem_append_right _ (List.mem_append_right _ (List.mem_append_right _ (List.mem_of_getElem? (l := tables_1_4) (i := 28) rfl))))) rfl
theorem kt_749 : Cond.instanceMethod yM_balance ∈ kT := kT_in (List.mem_append_right _ (List.mem_append_right _ (List.mem_append_right _ (List.mem_append_right _ (List.mem_of_getElem? (l := tables_1_4) (i := 29) rfl))))) rfl
theorem kt_750 : Cond.selects "RoomHoursModel" yM_balance yM_balance ∈ kT := kT_in (List.mem_append_right _ (List.mem_append_right _ (List.mem_append_right _ (List.mem_append_right _ (List.mem_of_getElem? (l := tables_1_4) (i := 30) rfl))))) rfl
theorem kt_751 : Cond.code yM_balance prog_5_method_22_code 5 (Option.some Jvm.ClassFile.FieldType.long) ∈ kT := kT_in (List.mem_append_right _ (List.mem_append_right _ (List.mem_append_right _ (List.mem_append_right _ (List.mem_of_getElem? (l := tables_1_4) (i := 31) rfl))))) rfl
theorem kt_752 : Cond.methodLink "RoomHoursLaw" 115 yM_early ∈ kT := kT_in (List.mem_append_right _ (List.mem_append_right _ (List.mem_append_right _ (List.mem_append_right _ (List.mem_of_getElem? (l := tables_1_4) (i := 32) rfl))))) rfl
theorem kt_753 : Cond.instanceMethod yM_early ∈ kT := kT_in (List.mem_append_right _ (List.mem_append_right _ (List.mem_append_right _ (List.mem_append_right _ (List.mem_of_getElem? (l := tables_1_4) (i := 33) rfl))))) rfl
theorem kt_754 : Cond.selects "RoomHoursModel" yM_early yM_early ∈ kT := kT_in (List.mem_append_right _ (List.mem_append_right _ (List.mem_append_right _ (List.mem_append_right _ (List.mem_of_getElem? (l := tables_1_4) (i := 34) rfl))))) rfl
theorem kt_755 : Cond.code yM_early prog_5_method_25_code 7 (Option.some Jvm.ClassFile.FieldType.int) ∈ kT := kT_in (List.mem_append_right _ (List.mem_append_right _ (List.mem_append_right _ (List.mem_append_right _ (List.mem_of_getElem? (l := tables_1_4) (i := 35) rfl))))) rfl
theorem kt_756 : Cond.methodLink "RoomHoursModel" 160 yM_keep ∈ kT := kT_in (List.mem_append_right _ (List.mem_append_right _ (List.mem_append_right _ (List.mem_append_right _ (List.mem_of_getElem? (l := tables_1_4) (i := 36) rfl))))) rfl
theorem kt_758 : Cond.instanceMethod yM_keep ∈ kT := kT_in (List.mem_append_right _ (List.mem_append_right _ (List.mem_append_right _ (List.mem_append_right _ (List.mem_of_getElem? (l := tables_1_4) (i := 38) rfl))))) rfl
theorem kt_759 : Cond.code yM_keep prog_5_method_23_code 2 (Option.none : Option Jvm.ClassFile.FieldType) ∈ kT := kT_in (List.mem_append_right _ (List.mem_append_right _ (List.mem_append_right _ (List.mem_append_right _ (List.mem_of_getElem? (l := tables_1_4) (i := 39) rfl))))) rfl
theorem kt_760 : Cond.methodLink "RoomHoursModel" 163 yM_putBack ∈ kT := kT_in (List.mem_append_right _ (List.mem_append_right _ (List.mem_append_right _ (List.mem_append_right _ (List.mem_of_getElem? (l := tables_1_4) (i := 40) rfl))))) rfl
theorem kt_762 : Cond.instanceMethod yM_putBack ∈ kT := kT_in (List.mem_append_right _ (List.mem_append_right _ (List.mem_append_right _ (List.mem_append_right _ (List.mem_of_getElem? (l := tables_1_4) (i := 42) rfl))))) rfl
theorem kt_763 : Cond.code yM_putBack prog_5_method_24_code 2 (Option.none : Option Jvm.ClassFile.FieldType) ∈ kT := kT_in (List.mem_append_right _ (List.mem_append_right _ (List.mem_append_right _ (List.mem_append_right _ (List.mem_of_getElem? (l := tables_1_4) (i := 43) rfl))))) rfl
theorem kt_764 : Cond.methodLink "RoomHoursLaw" 118 yM_strong ∈ kT := kT_in (List.mem_append_right _ (List.mem_append_right _ (List.mem_append_right _ (List.mem_append_right _ (List.mem_of_getElem? (l := tables_1_4) (i := 44) rfl))))) rfl
theorem kt_765 : Cond.instanceMethod yM_strong ∈ kT := kT_in (List.mem_append_right _ (List.mem_append_right _ (List.mem_append_right _ (List.mem_append_right _ (List.mem_of_getElem? (l := tables_1_4) (i := 45) rfl))))) rfl
theorem kt_766 : Cond.selects "RoomHoursModel" yM_strong yM_strong ∈ kT := kT_in (List.mem_append_right _ (List.mem_append_right _ (List.mem_append_right _ (List.mem_append_right _ (List.mem_of_getElem? (l := tables_1_4) (i := 46) rfl))))) rfl
theorem kt_767 : Cond.code yM_strong prog_5_method_26_code 7 (Option.some Jvm.ClassFile.FieldType.int) ∈ kT := kT_in (List.mem_append_right _ (List.mem_append_right _ (List.mem_append_right _ (List.mem_append_right _ (List.mem_of_getElem? (l := tables_1_4) (i := 47) rfl))))) rfl
theorem kt_768 : Cond.sameMethod "java/lang/Throwable" "java/lang/Throwable" "fillInStackTrace" "(I)Ljava/lang/Throwable;" ∈ kT := kT_in (List.mem_append_right _ (List.mem_append_right _ (List.mem_append_right _ (List.mem_append_right _ (List.mem_of_getElem? (l := tables_1_4) (i := 48) rfl))))) rfl
theorem ks_C_hourOfDay : Cond.selects "RoomHours$Course" yC_hourOfDay yC_hourOfDay ∈ kT := kT_in (List.mem_append_left _ (List.mem_of_getElem? (i := 1) rfl)) rfl
theorem ks_C_passWalls : Cond.selects "RoomHours$Course" yC_passWalls yC_passWalls ∈ kT := kT_in (List.mem_append_left _ (List.mem_of_getElem? (i := 2) rfl)) rfl
theorem ks_C_passWindows : Cond.selects "RoomHours$Course" yC_passWindows yC_passWindows ∈ kT := kT_in (List.mem_append_left _ (List.mem_of_getElem? (i := 3) rfl)) rfl
theorem ks_C_bringPersons : Cond.selects "RoomHours$Course" yC_bringPersons yC_bringPersons ∈ kT := kT_in (List.mem_append_left _ (List.mem_of_getElem? (i := 4) rfl)) rfl
theorem ks_C_planned : Cond.selects "RoomHours$Course" yC_planned yC_planned ∈ kT := kT_in (List.mem_append_left _ (List.mem_of_getElem? (i := 5) rfl)) rfl
theorem ks_C_heatUp : Cond.selects "RoomHours$Course" yC_heatUp yC_heatUp ∈ kT := kT_in (List.mem_append_left _ (List.mem_of_getElem? (i := 6) rfl)) rfl
theorem ks_C_setOf : Cond.selects "RoomHours$Course" yC_setOf yC_setOf ∈ kT := kT_in (List.mem_append_left _ (List.mem_of_getElem? (i := 7) rfl)) rfl
theorem ks_C_heatingOf : Cond.selects "RoomHours$Course" yC_heatingOf yC_heatingOf ∈ kT := kT_in (List.mem_append_left _ (List.mem_of_getElem? (i := 8) rfl)) rfl
theorem ks_C_coolDown : Cond.selects "RoomHours$Course" yC_coolDown yC_coolDown ∈ kT := kT_in (List.mem_append_left _ (List.mem_of_getElem? (i := 9) rfl)) rfl
theorem ks_C_hourEnds : Cond.selects "RoomHours$Course" yC_hourEnds yC_hourEnds ∈ kT := kT_in (List.mem_append_left _ (List.mem_of_getElem? (i := 10) rfl)) rfl
theorem ks_C_countUneasy : Cond.selects "RoomHours$Course" yC_countUneasy yC_countUneasy ∈ kT := kT_in (List.mem_append_left _ (List.mem_of_getElem? (i := 11) rfl)) rfl
theorem ks_C_hasPersons : Cond.selects "RoomHours$Course" yC_hasPersons yC_hasPersons ∈ kT := kT_in (List.mem_append_left _ (List.mem_of_getElem? (i := 12) rfl)) rfl
theorem ks_M_isRoom : Cond.selects "RoomHoursModel" yM_isRoom yM_isRoom ∈ kT := kT_in (List.mem_append_left _ (List.mem_of_getElem? (i := 13) rfl)) rfl
theorem ks_M_isTooMuch : Cond.selects "RoomHoursModel" yM_isTooMuch yM_isTooMuch ∈ kT := kT_in (List.mem_append_left _ (List.mem_of_getElem? (i := 14) rfl)) rfl
theorem ks_M_step : Cond.selects "RoomHoursModel" yM_step yM_step ∈ kT := kT_in (List.mem_append_left _ (List.mem_of_getElem? (i := 15) rfl)) rfl
theorem ks_M_flows : Cond.selects "RoomHoursModel" yM_flows yM_flows ∈ kT := kT_in (List.mem_append_left _ (List.mem_of_getElem? (i := 16) rfl)) rfl
theorem ks_M_warmthOf : Cond.selects "RoomHoursModel" yM_warmthOf yM_warmthOf ∈ kT := kT_in (List.mem_append_left _ (List.mem_of_getElem? (i := 17) rfl)) rfl
theorem ks_M_keep : Cond.selects "RoomHoursModel" yM_keep yM_keep ∈ kT := kT_in (List.mem_append_left _ (List.mem_of_getElem? (i := 18) rfl)) rfl
theorem ks_M_putBack : Cond.selects "RoomHoursModel" yM_putBack yM_putBack ∈ kT := kT_in (List.mem_append_left _ (List.mem_of_getElem? (i := 19) rfl)) rfl
theorem ku_C : ∀ w ∈ u_ws "RoomHours$Course" TC 18, w ∈ kT := by decide +kernel
theorem ku_H : ∀ w ∈ u_ws "RoomHours$House" TH 18, w ∈ kT := by decide +kernel
theorem ku_R : ∀ w ∈ u_ws "RoomHours" TR 3, w ∈ kT := by decide +kernel
theorem ku_M : ∀ w ∈ u_ws "RoomHoursModel" TM 37, w ∈ kT := by decide +kernel
end
section
theorem dR_init_0 : decode bR_init 0 = .ok (.aload_n 0, 1) := by decide +kernel
theorem dR_init_1 : decode bR_init 1 = .ok (.invokespecial 3, 3) := by decide +kernel
theorem dR_init_4 : decode bR_init 4 = .ok (.aload_n 0, 1) := by decide +kernel
theorem dR_init_5 : decode bR_init 5 = .ok (.new 9, 3) := by decide +kernel
theorem dR_init_8 : decode bR_init 8 = .ok (.dup, 1) := by decide +kernel
theorem dR_init_9 : decode bR_init 9 = .ok (.invokespecial 11, 3) := by decide +kernel
theorem dR_init_12 : decode bR_init 12 = .ok (.putfield 12, 3) := by decide +kernel
theorem dR_init_15 : decode bR_init 15 = .ok (.aload_n 0, 1) := by decide +kernel
theorem dR_init_16 : decode bR_init 16 = .ok (.new 16, 3) := by decide +kernel
theorem dR_init_19 : decode bR_init 19 = .ok (.dup, 1) := by decide +kernel
theorem dR_init_20 : decode bR_init 20 = .ok (.aload_n 0, 1) := by decide +kernel
theorem dR_init_21 : decode bR_init 21 = .ok (.getfield 12, 3) := by decide +kernel
theorem dR_init_24 : decode bR_init 24 = .ok (.invokespecial 18, 3) := by decide +kernel
theorem dR_init_27 : decode bR_init 27 = .ok (.putfield 21, 3) := by decide +kernel
theorem dR_init_30 : decode bR_init 30 = .ok (.aload_n 0, 1) := by decide +kernel
theorem dR_init_31 : decode bR_init 31 = .ok (.new 16, 3) := by decide +kernel
theorem dR_init_34 : decode bR_init 34 = .ok (.dup, 1) := by decide +kernel
theorem dR_init_35 : decode bR_init 35 = .ok (.aload_n 0, 1) := by decide +kernel
theorem dR_init_36 : decode bR_init 36 = .ok (.getfield 12, 3) := by decide +kernel
theorem dR_init_39 : decode bR_init 39 = .ok (.invokespecial 18, 3) := by decide +kernel
theorem dR_init_42 : decode bR_init 42 = .ok (.putfield 25, 3) := by decide +kernel
theorem dR_init_45 : decode bR_init 45 = .ok (.return_, 1) := by decide +kernel
theorem dR_room_0 : decode bR_room 0 = .ok (.iload_n 1, 1) := by decide +kernel
theorem dR_room_1 : decode bR_room 1 = .ok (.iconst 1, 1) := by decide +kernel
theorem dR_room_2 : decode bR_room 2 = .ok (.sipush 10000, 3) := by decide +kernel
theorem dR_room_5 : decode bR_room 5 = .ok (.invokestatic 28, 3) := by decide +kernel
theorem dR_room_8 : decode bR_room 8 = .ok (.ifCond .eq 10, 3) := by decide +kernel
theorem dR_room_11 : decode bR_room 11 = .ok (.iload_n 2, 1) := by decide +kernel
theorem dR_room_12 : decode bR_room 12 = .ok (.invokestatic 32, 3) := by decide +kernel
theorem dR_room_15 : decode bR_room 15 = .ok (.ifCond .ne 13, 3) := by decide +kernel
theorem dR_room_18 : decode bR_room 18 = .ok (.new 36, 3) := by decide +kernel
theorem dR_room_21 : decode bR_room 21 = .ok (.dup, 1) := by decide +kernel
theorem dR_room_22 : decode bR_room 22 = .ok (.ldc 38, 2) := by decide +kernel
theorem dR_room_24 : decode bR_room 24 = .ok (.invokespecial 40, 3) := by decide +kernel
theorem dR_room_27 : decode bR_room 27 = .ok (.athrow, 1) := by decide +kernel
theorem dR_room_28 : decode bR_room 28 = .ok (.aload_n 0, 1) := by decide +kernel
theorem dR_room_29 : decode bR_room 29 = .ok (.getfield 12, 3) := by decide +kernel
theorem dR_room_32 : decode bR_room 32 = .ok (.getfield 43, 3) := by decide +kernel
theorem dR_room_35 : decode bR_room 35 = .ok (.bipush 8, 2) := by decide +kernel
theorem dR_room_37 : decode bR_room 37 = .ok (.if_icmp .lt 13, 3) := by decide +kernel
theorem dR_room_40 : decode bR_room 40 = .ok (.new 47, 3) := by decide +kernel
theorem dR_room_43 : decode bR_room 43 = .ok (.dup, 1) := by decide +kernel
theorem dR_room_44 : decode bR_room 44 = .ok (.ldc 49, 2) := by decide +kernel
theorem dR_room_46 : decode bR_room 46 = .ok (.invokespecial 51, 3) := by decide +kernel
theorem dR_room_49 : decode bR_room 49 = .ok (.athrow, 1) := by decide +kernel
theorem dR_room_50 : decode bR_room 50 = .ok (.aload_n 0, 1) := by decide +kernel
theorem dR_room_51 : decode bR_room 51 = .ok (.getfield 12, 3) := by decide +kernel
theorem dR_room_54 : decode bR_room 54 = .ok (.iload_n 1, 1) := by decide +kernel
theorem dR_room_55 : decode bR_room 55 = .ok (.invokevirtual 52, 3) := by decide +kernel
theorem dR_room_58 : decode bR_room 58 = .ok (.istore_n 3, 1) := by decide +kernel
theorem dR_room_59 : decode bR_room 59 = .ok (.aload_n 0, 1) := by decide +kernel
theorem dR_room_60 : decode bR_room 60 = .ok (.getfield 21, 3) := by decide +kernel
theorem dR_room_63 : decode bR_room 63 = .ok (.iload_n 3, 1) := by decide +kernel
theorem dR_room_64 : decode bR_room 64 = .ok (.iload_n 1, 1) := by decide +kernel
theorem dR_room_65 : decode bR_room 65 = .ok (.i2l, 1) := by decide +kernel
theorem dR_room_66 : decode bR_room 66 = .ok (.iload_n 2, 1) := by decide +kernel
theorem dR_room_67 : decode bR_room 67 = .ok (.i2l, 1) := by decide +kernel
theorem dR_room_68 : decode bR_room 68 = .ok (.lmul, 1) := by decide +kernel
theorem dR_room_69 : decode bR_room 69 = .ok (.invokevirtual 56, 3) := by decide +kernel
theorem dR_room_72 : decode bR_room 72 = .ok (.iload_n 3, 1) := by decide +kernel
theorem dR_room_73 : decode bR_room 73 = .ok (.ireturn, 1) := by decide +kernel
theorem dR_wall_0 : decode bR_wall 0 = .ok (.aload_n 0, 1) := by decide +kernel
theorem dR_wall_1 : decode bR_wall 1 = .ok (.getfield 12, 3) := by decide +kernel
theorem dR_wall_4 : decode bR_wall 4 = .ok (.iload_n 1, 1) := by decide +kernel
theorem dR_wall_5 : decode bR_wall 5 = .ok (.invokevirtual 60, 3) := by decide +kernel
theorem dR_wall_8 : decode bR_wall 8 = .ok (.ifCond .eq 19, 3) := by decide +kernel
theorem dR_wall_11 : decode bR_wall 11 = .ok (.iload_n 1, 1) := by decide +kernel
theorem dR_wall_12 : decode bR_wall 12 = .ok (.iload_n 2, 1) := by decide +kernel
theorem dR_wall_13 : decode bR_wall 13 = .ok (.if_icmp .eq 14, 3) := by decide +kernel
theorem dR_wall_16 : decode bR_wall 16 = .ok (.iload_n 3, 1) := by decide +kernel
theorem dR_wall_17 : decode bR_wall 17 = .ok (.iconst 0, 1) := by decide +kernel
theorem dR_wall_18 : decode bR_wall 18 = .ok (.sipush 1000, 3) := by decide +kernel
theorem dR_wall_21 : decode bR_wall 21 = .ok (.invokestatic 28, 3) := by decide +kernel
theorem dR_wall_24 : decode bR_wall 24 = .ok (.ifCond .ne 13, 3) := by decide +kernel
theorem dR_wall_27 : decode bR_wall 27 = .ok (.new 36, 3) := by decide +kernel
theorem dR_wall_30 : decode bR_wall 30 = .ok (.dup, 1) := by decide +kernel
theorem dR_wall_31 : decode bR_wall 31 = .ok (.ldc 63, 2) := by decide +kernel
theorem dR_wall_33 : decode bR_wall 33 = .ok (.invokespecial 40, 3) := by decide +kernel
theorem dR_wall_36 : decode bR_wall 36 = .ok (.athrow, 1) := by decide +kernel
theorem dR_wall_37 : decode bR_wall 37 = .ok (.iload_n 2, 1) := by decide +kernel
theorem dR_wall_38 : decode bR_wall 38 = .ok (.iconst (-1), 1) := by decide +kernel
theorem dR_wall_39 : decode bR_wall 39 = .ok (.if_icmp .eq 24, 3) := by decide +kernel
theorem dR_wall_42 : decode bR_wall 42 = .ok (.aload_n 0, 1) := by decide +kernel
theorem dR_wall_43 : decode bR_wall 43 = .ok (.getfield 12, 3) := by decide +kernel
theorem dR_wall_46 : decode bR_wall 46 = .ok (.iload_n 2, 1) := by decide +kernel
theorem dR_wall_47 : decode bR_wall 47 = .ok (.invokevirtual 60, 3) := by decide +kernel
theorem dR_wall_50 : decode bR_wall 50 = .ok (.ifCond .ne 13, 3) := by decide +kernel
theorem dR_wall_53 : decode bR_wall 53 = .ok (.new 36, 3) := by decide +kernel
theorem dR_wall_56 : decode bR_wall 56 = .ok (.dup, 1) := by decide +kernel
theorem dR_wall_57 : decode bR_wall 57 = .ok (.ldc 65, 2) := by decide +kernel
theorem dR_wall_59 : decode bR_wall 59 = .ok (.invokespecial 40, 3) := by decide +kernel
theorem dR_wall_62 : decode bR_wall 62 = .ok (.athrow, 1) := by decide +kernel
theorem dR_wall_63 : decode bR_wall 63 = .ok (.aload_n 0, 1) := by decide +kernel
theorem dR_wall_64 : decode bR_wall 64 = .ok (.getfield 12, 3) := by decide +kernel
theorem dR_wall_67 : decode bR_wall 67 = .ok (.getfield 67, 3) := by decide +kernel
theorem dR_wall_70 : decode bR_wall 70 = .ok (.bipush 20, 2) := by decide +kernel
theorem dR_wall_72 : decode bR_wall 72 = .ok (.if_icmp .ge 27, 3) := by decide +kernel
theorem dR_wall_75 : decode bR_wall 75 = .ok (.aload_n 0, 1) := by decide +kernel
theorem dR_wall_76 : decode bR_wall 76 = .ok (.getfield 12, 3) := by decide +kernel
theorem dR_wall_79 : decode bR_wall 79 = .ok (.iload_n 1, 1) := by decide +kernel
theorem dR_wall_80 : decode bR_wall 80 = .ok (.iload_n 3, 1) := by decide +kernel
theorem dR_wall_81 : decode bR_wall 81 = .ok (.invokevirtual 70, 3) := by decide +kernel
theorem dR_wall_84 : decode bR_wall 84 = .ok (.ifCond .eq 15, 3) := by decide +kernel
theorem dR_wall_87 : decode bR_wall 87 = .ok (.aload_n 0, 1) := by decide +kernel
theorem dR_wall_88 : decode bR_wall 88 = .ok (.getfield 12, 3) := by decide +kernel
theorem dR_wall_91 : decode bR_wall 91 = .ok (.iload_n 2, 1) := by decide +kernel
theorem dR_wall_92 : decode bR_wall 92 = .ok (.iload_n 3, 1) := by decide +kernel
theorem dR_wall_93 : decode bR_wall 93 = .ok (.invokevirtual 70, 3) := by decide +kernel
theorem dR_wall_96 : decode bR_wall 96 = .ok (.ifCond .ne 13, 3) := by decide +kernel
theorem dR_wall_99 : decode bR_wall 99 = .ok (.new 47, 3) := by decide +kernel
theorem dR_wall_102 : decode bR_wall 102 = .ok (.dup, 1) := by decide +kernel
theorem dR_wall_103 : decode bR_wall 103 = .ok (.ldc 74, 2) := by decide +kernel
theorem dR_wall_105 : decode bR_wall 105 = .ok (.invokespecial 51, 3) := by decide +kernel
theorem dR_wall_108 : decode bR_wall 108 = .ok (.athrow, 1) := by decide +kernel
theorem dR_wall_109 : decode bR_wall 109 = .ok (.aload_n 0, 1) := by decide +kernel
theorem dR_wall_110 : decode bR_wall 110 = .ok (.getfield 12, 3) := by decide +kernel
theorem dR_wall_113 : decode bR_wall 113 = .ok (.iload_n 1, 1) := by decide +kernel
theorem dR_wall_114 : decode bR_wall 114 = .ok (.iload_n 2, 1) := by decide +kernel
theorem dR_wall_115 : decode bR_wall 115 = .ok (.iload_n 3, 1) := by decide +kernel
theorem dR_wall_116 : decode bR_wall 116 = .ok (.invokevirtual 76, 3) := by decide +kernel
theorem dR_wall_119 : decode bR_wall 119 = .ok (.ireturn, 1) := by decide +kernel
theorem dR_leads_0 : decode bR_leads 0 = .ok (.iload_n 1, 1) := by decide +kernel
theorem dR_leads_1 : decode bR_leads 1 = .ok (.iconst 0, 1) := by decide +kernel
theorem dR_leads_2 : decode bR_leads 2 = .ok (.aload_n 0, 1) := by decide +kernel
theorem dR_leads_3 : decode bR_leads 3 = .ok (.getfield 12, 3) := by decide +kernel
theorem dR_leads_6 : decode bR_leads 6 = .ok (.getfield 67, 3) := by decide +kernel
theorem dR_leads_9 : decode bR_leads 9 = .ok (.iconst 1, 1) := by decide +kernel
theorem dR_leads_10 : decode bR_leads 10 = .ok (.isub, 1) := by decide +kernel
theorem dR_leads_11 : decode bR_leads 11 = .ok (.invokestatic 28, 3) := by decide +kernel
theorem dR_leads_14 : decode bR_leads 14 = .ok (.ifCond .eq 14, 3) := by decide +kernel
theorem dR_leads_17 : decode bR_leads 17 = .ok (.iload_n 2, 1) := by decide +kernel
theorem dR_leads_18 : decode bR_leads 18 = .ok (.iconst 0, 1) := by decide +kernel
theorem dR_leads_19 : decode bR_leads 19 = .ok (.sipush 1000, 3) := by decide +kernel
theorem dR_leads_22 : decode bR_leads 22 = .ok (.invokestatic 28, 3) := by decide +kernel
theorem dR_leads_25 : decode bR_leads 25 = .ok (.ifCond .ne 13, 3) := by decide +kernel
theorem dR_leads_28 : decode bR_leads 28 = .ok (.new 36, 3) := by decide +kernel
theorem dR_leads_31 : decode bR_leads 31 = .ok (.dup, 1) := by decide +kernel
theorem dR_leads_32 : decode bR_leads 32 = .ok (.ldc 80, 2) := by decide +kernel
theorem dR_leads_34 : decode bR_leads 34 = .ok (.invokespecial 40, 3) := by decide +kernel
theorem dR_leads_37 : decode bR_leads 37 = .ok (.athrow, 1) := by decide +kernel
theorem dR_leads_38 : decode bR_leads 38 = .ok (.aload_n 0, 1) := by decide +kernel
theorem dR_leads_39 : decode bR_leads 39 = .ok (.getfield 12, 3) := by decide +kernel
theorem dR_leads_42 : decode bR_leads 42 = .ok (.getfield 82, 3) := by decide +kernel
theorem dR_leads_45 : decode bR_leads 45 = .ok (.iload_n 1, 1) := by decide +kernel
theorem dR_leads_46 : decode bR_leads 46 = .ok (.iaload, 1) := by decide +kernel
theorem dR_leads_47 : decode bR_leads 47 = .ok (.istore_n 3, 1) := by decide +kernel
theorem dR_leads_48 : decode bR_leads 48 = .ok (.iload_n 2, 1) := by decide +kernel
theorem dR_leads_49 : decode bR_leads 49 = .ok (.iload_n 3, 1) := by decide +kernel
theorem dR_leads_50 : decode bR_leads 50 = .ok (.isub, 1) := by decide +kernel
theorem dR_leads_51 : decode bR_leads 51 = .ok (.istore 4, 2) := by decide +kernel
theorem dR_leads_53 : decode bR_leads 53 = .ok (.aload_n 0, 1) := by decide +kernel
theorem dR_leads_54 : decode bR_leads 54 = .ok (.getfield 12, 3) := by decide +kernel
theorem dR_leads_57 : decode bR_leads 57 = .ok (.aload_n 0, 1) := by decide +kernel
theorem dR_leads_58 : decode bR_leads 58 = .ok (.getfield 12, 3) := by decide +kernel
theorem dR_leads_61 : decode bR_leads 61 = .ok (.getfield 86, 3) := by decide +kernel
theorem dR_leads_64 : decode bR_leads 64 = .ok (.iload_n 1, 1) := by decide +kernel
theorem dR_leads_65 : decode bR_leads 65 = .ok (.iaload, 1) := by decide +kernel
theorem dR_leads_66 : decode bR_leads 66 = .ok (.iload 4, 2) := by decide +kernel
theorem dR_leads_68 : decode bR_leads 68 = .ok (.invokevirtual 70, 3) := by decide +kernel
theorem dR_leads_71 : decode bR_leads 71 = .ok (.ifCond .eq 24, 3) := by decide +kernel
theorem dR_leads_74 : decode bR_leads 74 = .ok (.aload_n 0, 1) := by decide +kernel
theorem dR_leads_75 : decode bR_leads 75 = .ok (.getfield 12, 3) := by decide +kernel
theorem dR_leads_78 : decode bR_leads 78 = .ok (.aload_n 0, 1) := by decide +kernel
theorem dR_leads_79 : decode bR_leads 79 = .ok (.getfield 12, 3) := by decide +kernel
theorem dR_leads_82 : decode bR_leads 82 = .ok (.getfield 89, 3) := by decide +kernel
theorem dR_leads_85 : decode bR_leads 85 = .ok (.iload_n 1, 1) := by decide +kernel
theorem dR_leads_86 : decode bR_leads 86 = .ok (.iaload, 1) := by decide +kernel
theorem dR_leads_87 : decode bR_leads 87 = .ok (.iload 4, 2) := by decide +kernel
theorem dR_leads_89 : decode bR_leads 89 = .ok (.invokevirtual 70, 3) := by decide +kernel
theorem dR_leads_92 : decode bR_leads 92 = .ok (.ifCond .ne 13, 3) := by decide +kernel
theorem dR_leads_95 : decode bR_leads 95 = .ok (.new 47, 3) := by decide +kernel
theorem dR_leads_98 : decode bR_leads 98 = .ok (.dup, 1) := by decide +kernel
theorem dR_leads_99 : decode bR_leads 99 = .ok (.ldc 92, 2) := by decide +kernel
theorem dR_leads_101 : decode bR_leads 101 = .ok (.invokespecial 51, 3) := by decide +kernel
theorem dR_leads_104 : decode bR_leads 104 = .ok (.athrow, 1) := by decide +kernel
theorem dR_leads_105 : decode bR_leads 105 = .ok (.aload_n 0, 1) := by decide +kernel
theorem dR_leads_106 : decode bR_leads 106 = .ok (.getfield 12, 3) := by decide +kernel
theorem dR_leads_109 : decode bR_leads 109 = .ok (.iload_n 1, 1) := by decide +kernel
theorem dR_leads_110 : decode bR_leads 110 = .ok (.iload 4, 2) := by decide +kernel
theorem dR_leads_112 : decode bR_leads 112 = .ok (.invokevirtual 94, 3) := by decide +kernel
theorem dR_leads_115 : decode bR_leads 115 = .ok (.iload_n 3, 1) := by decide +kernel
theorem dR_leads_116 : decode bR_leads 116 = .ok (.ireturn, 1) := by decide +kernel
theorem dR_window_0 : decode bR_window 0 = .ok (.aload_n 0, 1) := by decide +kernel
theorem dR_window_1 : decode bR_window 1 = .ok (.getfield 12, 3) := by decide +kernel
theorem dR_window_4 : decode bR_window 4 = .ok (.iload_n 1, 1) := by decide +kernel
theorem dR_window_5 : decode bR_window 5 = .ok (.invokevirtual 60, 3) := by decide +kernel
theorem dR_window_8 : decode bR_window 8 = .ok (.ifCond .eq 10, 3) := by decide +kernel
theorem dR_window_11 : decode bR_window 11 = .ok (.iload_n 2, 1) := by decide +kernel
theorem dR_window_12 : decode bR_window 12 = .ok (.invokestatic 98, 3) := by decide +kernel
theorem dR_window_15 : decode bR_window 15 = .ok (.ifCond .ne 13, 3) := by decide +kernel
theorem dR_window_18 : decode bR_window 18 = .ok (.new 36, 3) := by decide +kernel
theorem dR_window_21 : decode bR_window 21 = .ok (.dup, 1) := by decide +kernel
theorem dR_window_22 : decode bR_window 22 = .ok (.ldc 101, 2) := by decide +kernel
theorem dR_window_24 : decode bR_window 24 = .ok (.invokespecial 40, 3) := by decide +kernel
theorem dR_window_27 : decode bR_window 27 = .ok (.athrow, 1) := by decide +kernel
theorem dR_window_28 : decode bR_window 28 = .ok (.iload_n 3, 1) := by decide +kernel
theorem dR_window_29 : decode bR_window 29 = .ok (.iconst 0, 1) := by decide +kernel
theorem dR_window_30 : decode bR_window 30 = .ok (.bipush 100, 2) := by decide +kernel
theorem dR_window_32 : decode bR_window 32 = .ok (.invokestatic 28, 3) := by decide +kernel
theorem dR_window_35 : decode bR_window 35 = .ok (.ifCond .eq 11, 3) := by decide +kernel
theorem dR_window_38 : decode bR_window 38 = .ok (.iload 4, 2) := by decide +kernel
theorem dR_window_40 : decode bR_window 40 = .ok (.invokestatic 32, 3) := by decide +kernel
theorem dR_window_43 : decode bR_window 43 = .ok (.ifCond .ne 13, 3) := by decide +kernel
theorem dR_window_46 : decode bR_window 46 = .ok (.new 36, 3) := by decide +kernel
theorem dR_window_49 : decode bR_window 49 = .ok (.dup, 1) := by decide +kernel
theorem dR_window_50 : decode bR_window 50 = .ok (.ldc 103, 2) := by decide +kernel
theorem dR_window_52 : decode bR_window 52 = .ok (.invokespecial 40, 3) := by decide +kernel
theorem dR_window_55 : decode bR_window 55 = .ok (.athrow, 1) := by decide +kernel
theorem dR_window_56 : decode bR_window 56 = .ok (.aload_n 0, 1) := by decide +kernel
theorem dR_window_57 : decode bR_window 57 = .ok (.getfield 12, 3) := by decide +kernel
theorem dR_window_60 : decode bR_window 60 = .ok (.getfield 105, 3) := by decide +kernel
theorem dR_window_63 : decode bR_window 63 = .ok (.bipush 12, 2) := by decide +kernel
theorem dR_window_65 : decode bR_window 65 = .ok (.if_icmp .lt 13, 3) := by decide +kernel
theorem dR_window_68 : decode bR_window 68 = .ok (.new 47, 3) := by decide +kernel
theorem dR_window_71 : decode bR_window 71 = .ok (.dup, 1) := by decide +kernel
theorem dR_window_72 : decode bR_window 72 = .ok (.ldc 108, 2) := by decide +kernel
theorem dR_window_74 : decode bR_window 74 = .ok (.invokespecial 51, 3) := by decide +kernel
theorem dR_window_77 : decode bR_window 77 = .ok (.athrow, 1) := by decide +kernel
theorem dR_window_78 : decode bR_window 78 = .ok (.aload_n 0, 1) := by decide +kernel
theorem dR_window_79 : decode bR_window 79 = .ok (.getfield 12, 3) := by decide +kernel
theorem dR_window_82 : decode bR_window 82 = .ok (.iload_n 1, 1) := by decide +kernel
theorem dR_window_83 : decode bR_window 83 = .ok (.iload_n 2, 1) := by decide +kernel
theorem dR_window_84 : decode bR_window 84 = .ok (.iload_n 3, 1) := by decide +kernel
theorem dR_window_85 : decode bR_window 85 = .ok (.iload 4, 2) := by decide +kernel
theorem dR_window_87 : decode bR_window 87 = .ok (.invokevirtual 110, 3) := by decide +kernel
theorem dR_window_90 : decode bR_window 90 = .ok (.ireturn, 1) := by decide +kernel
theorem dR_outside_0 : decode bR_outside 0 = .ok (.iload_n 1, 1) := by decide +kernel
theorem dR_outside_1 : decode bR_outside 1 = .ok (.invokestatic 114, 3) := by decide +kernel
theorem dR_outside_4 : decode bR_outside 4 = .ok (.ifCond .eq 10, 3) := by decide +kernel
theorem dR_outside_7 : decode bR_outside 7 = .ok (.iload_n 2, 1) := by decide +kernel
theorem dR_outside_8 : decode bR_outside 8 = .ok (.invokestatic 32, 3) := by decide +kernel
theorem dR_outside_11 : decode bR_outside 11 = .ok (.ifCond .ne 13, 3) := by decide +kernel
theorem dR_outside_14 : decode bR_outside 14 = .ok (.new 36, 3) := by decide +kernel
theorem dR_outside_17 : decode bR_outside 17 = .ok (.dup, 1) := by decide +kernel
theorem dR_outside_18 : decode bR_outside 18 = .ok (.ldc 117, 2) := by decide +kernel
theorem dR_outside_20 : decode bR_outside 20 = .ok (.invokespecial 40, 3) := by decide +kernel
theorem dR_outside_23 : decode bR_outside 23 = .ok (.athrow, 1) := by decide +kernel
theorem dR_outside_24 : decode bR_outside 24 = .ok (.aload_n 0, 1) := by decide +kernel
theorem dR_outside_25 : decode bR_outside 25 = .ok (.getfield 12, 3) := by decide +kernel
theorem dR_outside_28 : decode bR_outside 28 = .ok (.getfield 119, 3) := by decide +kernel
theorem dR_outside_31 : decode bR_outside 31 = .ok (.iload_n 1, 1) := by decide +kernel
theorem dR_outside_32 : decode bR_outside 32 = .ok (.iaload, 1) := by decide +kernel
theorem dR_outside_33 : decode bR_outside 33 = .ok (.istore_n 3, 1) := by decide +kernel
theorem dR_outside_34 : decode bR_outside 34 = .ok (.aload_n 0, 1) := by decide +kernel
theorem dR_outside_35 : decode bR_outside 35 = .ok (.getfield 12, 3) := by decide +kernel
theorem dR_outside_38 : decode bR_outside 38 = .ok (.getfield 119, 3) := by decide +kernel
theorem dR_outside_41 : decode bR_outside 41 = .ok (.iload_n 1, 1) := by decide +kernel
theorem dR_outside_42 : decode bR_outside 42 = .ok (.iload_n 2, 1) := by decide +kernel
theorem dR_outside_43 : decode bR_outside 43 = .ok (.iastore, 1) := by decide +kernel
theorem dR_outside_44 : decode bR_outside 44 = .ok (.iload_n 3, 1) := by decide +kernel
theorem dR_outside_45 : decode bR_outside 45 = .ok (.ireturn, 1) := by decide +kernel
theorem dR_sun_0 : decode bR_sun 0 = .ok (.iload_n 1, 1) := by decide +kernel
theorem dR_sun_1 : decode bR_sun 1 = .ok (.invokestatic 98, 3) := by decide +kernel
theorem dR_sun_4 : decode bR_sun 4 = .ok (.ifCond .eq 21, 3) := by decide +kernel
theorem dR_sun_7 : decode bR_sun 7 = .ok (.iload_n 2, 1) := by decide +kernel
theorem dR_sun_8 : decode bR_sun 8 = .ok (.invokestatic 114, 3) := by decide +kernel
theorem dR_sun_11 : decode bR_sun 11 = .ok (.ifCond .eq 14, 3) := by decide +kernel
theorem dR_sun_14 : decode bR_sun 14 = .ok (.iload_n 3, 1) := by decide +kernel
theorem dR_sun_15 : decode bR_sun 15 = .ok (.iconst 0, 1) := by decide +kernel
theorem dR_sun_16 : decode bR_sun 16 = .ok (.sipush 1000, 3) := by decide +kernel
theorem dR_sun_19 : decode bR_sun 19 = .ok (.invokestatic 28, 3) := by decide +kernel
theorem dR_sun_22 : decode bR_sun 22 = .ok (.ifCond .ne 13, 3) := by decide +kernel
theorem dR_sun_25 : decode bR_sun 25 = .ok (.new 36, 3) := by decide +kernel
theorem dR_sun_28 : decode bR_sun 28 = .ok (.dup, 1) := by decide +kernel
theorem dR_sun_29 : decode bR_sun 29 = .ok (.ldc 122, 2) := by decide +kernel
theorem dR_sun_31 : decode bR_sun 31 = .ok (.invokespecial 40, 3) := by decide +kernel
theorem dR_sun_34 : decode bR_sun 34 = .ok (.athrow, 1) := by decide +kernel
theorem dR_sun_35 : decode bR_sun 35 = .ok (.aload_n 0, 1) := by decide +kernel
theorem dR_sun_36 : decode bR_sun 36 = .ok (.getfield 12, 3) := by decide +kernel
theorem dR_sun_39 : decode bR_sun 39 = .ok (.getfield 124, 3) := by decide +kernel
theorem dR_sun_42 : decode bR_sun 42 = .ok (.iload_n 1, 1) := by decide +kernel
theorem dR_sun_43 : decode bR_sun 43 = .ok (.aaload, 1) := by decide +kernel
theorem dR_sun_44 : decode bR_sun 44 = .ok (.iload_n 2, 1) := by decide +kernel
theorem dR_sun_45 : decode bR_sun 45 = .ok (.iaload, 1) := by decide +kernel
theorem dR_sun_46 : decode bR_sun 46 = .ok (.istore 4, 2) := by decide +kernel
theorem dR_sun_48 : decode bR_sun 48 = .ok (.aload_n 0, 1) := by decide +kernel
theorem dR_sun_49 : decode bR_sun 49 = .ok (.getfield 12, 3) := by decide +kernel
theorem dR_sun_52 : decode bR_sun 52 = .ok (.getfield 124, 3) := by decide +kernel
theorem dR_sun_55 : decode bR_sun 55 = .ok (.iload_n 1, 1) := by decide +kernel
theorem dR_sun_56 : decode bR_sun 56 = .ok (.aaload, 1) := by decide +kernel
theorem dR_sun_57 : decode bR_sun 57 = .ok (.iload_n 2, 1) := by decide +kernel
theorem dR_sun_58 : decode bR_sun 58 = .ok (.iload_n 3, 1) := by decide +kernel
theorem dR_sun_59 : decode bR_sun 59 = .ok (.iastore, 1) := by decide +kernel
theorem dR_sun_60 : decode bR_sun 60 = .ok (.iload 4, 2) := by decide +kernel
theorem dR_sun_62 : decode bR_sun 62 = .ok (.ireturn, 1) := by decide +kernel
theorem dR_plan_0 : decode bR_plan 0 = .ok (.aload_n 0, 1) := by decide +kernel
theorem dR_plan_1 : decode bR_plan 1 = .ok (.getfield 12, 3) := by decide +kernel
theorem dR_plan_4 : decode bR_plan 4 = .ok (.iload_n 1, 1) := by decide +kernel
theorem dR_plan_5 : decode bR_plan 5 = .ok (.invokevirtual 60, 3) := by decide +kernel
theorem dR_plan_8 : decode bR_plan 8 = .ok (.ifCond .eq 10, 3) := by decide +kernel
theorem dR_plan_11 : decode bR_plan 11 = .ok (.iload_n 2, 1) := by decide +kernel
theorem dR_plan_12 : decode bR_plan 12 = .ok (.invokestatic 114, 3) := by decide +kernel
theorem dR_plan_15 : decode bR_plan 15 = .ok (.ifCond .ne 13, 3) := by decide +kernel
theorem dR_plan_18 : decode bR_plan 18 = .ok (.new 36, 3) := by decide +kernel
theorem dR_plan_21 : decode bR_plan 21 = .ok (.dup, 1) := by decide +kernel
theorem dR_plan_22 : decode bR_plan 22 = .ok (.ldc 128, 2) := by decide +kernel
theorem dR_plan_24 : decode bR_plan 24 = .ok (.invokespecial 40, 3) := by decide +kernel
theorem dR_plan_27 : decode bR_plan 27 = .ok (.athrow, 1) := by decide +kernel
theorem dR_plan_28 : decode bR_plan 28 = .ok (.iload_n 3, 1) := by decide +kernel
theorem dR_plan_29 : decode bR_plan 29 = .ok (.iconst 0, 1) := by decide +kernel
theorem dR_plan_30 : decode bR_plan 30 = .ok (.iconst 2, 1) := by decide +kernel
theorem dR_plan_31 : decode bR_plan 31 = .ok (.invokestatic 28, 3) := by decide +kernel
theorem dR_plan_34 : decode bR_plan 34 = .ok (.ifCond .eq 12, 3) := by decide +kernel
theorem dR_plan_37 : decode bR_plan 37 = .ok (.iload_n 3, 1) := by decide +kernel
theorem dR_plan_38 : decode bR_plan 38 = .ok (.iload 4, 2) := by decide +kernel
theorem dR_plan_40 : decode bR_plan 40 = .ok (.invokestatic 130, 3) := by decide +kernel
theorem dR_plan_43 : decode bR_plan 43 = .ok (.ifCond .ne 13, 3) := by decide +kernel
theorem dR_plan_46 : decode bR_plan 46 = .ok (.new 36, 3) := by decide +kernel
theorem dR_plan_49 : decode bR_plan 49 = .ok (.dup, 1) := by decide +kernel
theorem dR_plan_50 : decode bR_plan 50 = .ok (.ldc 133, 2) := by decide +kernel
theorem dR_plan_52 : decode bR_plan 52 = .ok (.invokespecial 40, 3) := by decide +kernel
theorem dR_plan_55 : decode bR_plan 55 = .ok (.athrow, 1) := by decide +kernel
theorem dR_plan_56 : decode bR_plan 56 = .ok (.iload_n 1, 1) := by decide +kernel
theorem dR_plan_57 : decode bR_plan 57 = .ok (.bipush 24, 2) := by decide +kernel
theorem dR_plan_59 : decode bR_plan 59 = .ok (.imul, 1) := by decide +kernel
theorem dR_plan_60 : decode bR_plan 60 = .ok (.iload_n 2, 1) := by decide +kernel
theorem dR_plan_61 : decode bR_plan 61 = .ok (.iadd, 1) := by decide +kernel
theorem dR_plan_62 : decode bR_plan 62 = .ok (.istore 5, 2) := by decide +kernel
theorem dR_plan_64 : decode bR_plan 64 = .ok (.aload_n 0, 1) := by decide +kernel
theorem dR_plan_65 : decode bR_plan 65 = .ok (.getfield 12, 3) := by decide +kernel
theorem dR_plan_68 : decode bR_plan 68 = .ok (.getfield 135, 3) := by decide +kernel
theorem dR_plan_71 : decode bR_plan 71 = .ok (.iload_n 3, 1) := by decide +kernel
theorem dR_plan_72 : decode bR_plan 72 = .ok (.aaload, 1) := by decide +kernel
theorem dR_plan_73 : decode bR_plan 73 = .ok (.iload 5, 2) := by decide +kernel
theorem dR_plan_75 : decode bR_plan 75 = .ok (.iaload, 1) := by decide +kernel
theorem dR_plan_76 : decode bR_plan 76 = .ok (.istore 6, 2) := by decide +kernel
theorem dR_plan_78 : decode bR_plan 78 = .ok (.aload_n 0, 1) := by decide +kernel
theorem dR_plan_79 : decode bR_plan 79 = .ok (.getfield 12, 3) := by decide +kernel
theorem dR_plan_82 : decode bR_plan 82 = .ok (.getfield 135, 3) := by decide +kernel
theorem dR_plan_85 : decode bR_plan 85 = .ok (.iload_n 3, 1) := by decide +kernel
theorem dR_plan_86 : decode bR_plan 86 = .ok (.aaload, 1) := by decide +kernel
theorem dR_plan_87 : decode bR_plan 87 = .ok (.iload 5, 2) := by decide +kernel
theorem dR_plan_89 : decode bR_plan 89 = .ok (.iload 4, 2) := by decide +kernel
theorem dR_plan_91 : decode bR_plan 91 = .ok (.iastore, 1) := by decide +kernel
theorem dR_plan_92 : decode bR_plan 92 = .ok (.iload 6, 2) := by decide +kernel
theorem dR_plan_94 : decode bR_plan 94 = .ok (.ireturn, 1) := by decide +kernel
theorem dR_most_0 : decode bR_most 0 = .ok (.aload_n 0, 1) := by decide +kernel
theorem dR_most_1 : decode bR_most 1 = .ok (.getfield 12, 3) := by decide +kernel
theorem dR_most_4 : decode bR_most 4 = .ok (.iload_n 1, 1) := by decide +kernel
theorem dR_most_5 : decode bR_most 5 = .ok (.invokevirtual 60, 3) := by decide +kernel
theorem dR_most_8 : decode bR_most 8 = .ok (.ifCond .eq 22, 3) := by decide +kernel
theorem dR_most_11 : decode bR_most 11 = .ok (.iload_n 2, 1) := by decide +kernel
theorem dR_most_12 : decode bR_most 12 = .ok (.iconst 0, 1) := by decide +kernel
theorem dR_most_13 : decode bR_most 13 = .ok (.iconst 1, 1) := by decide +kernel
theorem dR_most_14 : decode bR_most 14 = .ok (.invokestatic 28, 3) := by decide +kernel
theorem dR_most_17 : decode bR_most 17 = .ok (.ifCond .eq 13, 3) := by decide +kernel
theorem dR_most_20 : decode bR_most 20 = .ok (.iload_n 3, 1) := by decide +kernel
theorem dR_most_21 : decode bR_most 21 = .ok (.iconst 0, 1) := by decide +kernel
theorem dR_most_22 : decode bR_most 22 = .ok (.ldc 138, 2) := by decide +kernel
theorem dR_most_24 : decode bR_most 24 = .ok (.invokestatic 28, 3) := by decide +kernel
theorem dR_most_27 : decode bR_most 27 = .ok (.ifCond .ne 13, 3) := by decide +kernel
theorem dR_most_30 : decode bR_most 30 = .ok (.new 36, 3) := by decide +kernel
theorem dR_most_33 : decode bR_most 33 = .ok (.dup, 1) := by decide +kernel
theorem dR_most_34 : decode bR_most 34 = .ok (.ldc 139, 2) := by decide +kernel
theorem dR_most_36 : decode bR_most 36 = .ok (.invokespecial 40, 3) := by decide +kernel
theorem dR_most_39 : decode bR_most 39 = .ok (.athrow, 1) := by decide +kernel
theorem dR_most_40 : decode bR_most 40 = .ok (.aload_n 0, 1) := by decide +kernel
theorem dR_most_41 : decode bR_most 41 = .ok (.getfield 12, 3) := by decide +kernel
theorem dR_most_44 : decode bR_most 44 = .ok (.getfield 141, 3) := by decide +kernel
theorem dR_most_47 : decode bR_most 47 = .ok (.iload_n 2, 1) := by decide +kernel
theorem dR_most_48 : decode bR_most 48 = .ok (.aaload, 1) := by decide +kernel
theorem dR_most_49 : decode bR_most 49 = .ok (.iload_n 1, 1) := by decide +kernel
theorem dR_most_50 : decode bR_most 50 = .ok (.iaload, 1) := by decide +kernel
theorem dR_most_51 : decode bR_most 51 = .ok (.istore 4, 2) := by decide +kernel
theorem dR_most_53 : decode bR_most 53 = .ok (.aload_n 0, 1) := by decide +kernel
theorem dR_most_54 : decode bR_most 54 = .ok (.getfield 12, 3) := by decide +kernel
theorem dR_most_57 : decode bR_most 57 = .ok (.getfield 141, 3) := by decide +kernel
theorem dR_most_60 : decode bR_most 60 = .ok (.iload_n 2, 1) := by decide +kernel
theorem dR_most_61 : decode bR_most 61 = .ok (.aaload, 1) := by decide +kernel
theorem dR_most_62 : decode bR_most 62 = .ok (.iload_n 1, 1) := by decide +kernel
theorem dR_most_63 : decode bR_most 63 = .ok (.iload_n 3, 1) := by decide +kernel
theorem dR_most_64 : decode bR_most 64 = .ok (.iastore, 1) := by decide +kernel
theorem dR_most_65 : decode bR_most 65 = .ok (.iload 4, 2) := by decide +kernel
theorem dR_most_67 : decode bR_most 67 = .ok (.ireturn, 1) := by decide +kernel
theorem dR_ease_0 : decode bR_ease 0 = .ok (.iload_n 1, 1) := by decide +kernel
theorem dR_ease_1 : decode bR_ease 1 = .ok (.invokestatic 32, 3) := by decide +kernel
theorem dR_ease_4 : decode bR_ease 4 = .ok (.ifCond .eq 15, 3) := by decide +kernel
theorem dR_ease_7 : decode bR_ease 7 = .ok (.iload_n 2, 1) := by decide +kernel
theorem dR_ease_8 : decode bR_ease 8 = .ok (.invokestatic 32, 3) := by decide +kernel
theorem dR_ease_11 : decode bR_ease 11 = .ok (.ifCond .eq 8, 3) := by decide +kernel
theorem dR_ease_14 : decode bR_ease 14 = .ok (.iload_n 1, 1) := by decide +kernel
theorem dR_ease_15 : decode bR_ease 15 = .ok (.iload_n 2, 1) := by decide +kernel
theorem dR_ease_16 : decode bR_ease 16 = .ok (.if_icmp .le 13, 3) := by decide +kernel
theorem dR_ease_19 : decode bR_ease 19 = .ok (.new 36, 3) := by decide +kernel
theorem dR_ease_22 : decode bR_ease 22 = .ok (.dup, 1) := by decide +kernel
theorem dR_ease_23 : decode bR_ease 23 = .ok (.ldc 144, 2) := by decide +kernel
theorem dR_ease_25 : decode bR_ease 25 = .ok (.invokespecial 40, 3) := by decide +kernel
theorem dR_ease_28 : decode bR_ease 28 = .ok (.athrow, 1) := by decide +kernel
theorem dR_ease_29 : decode bR_ease 29 = .ok (.aload_n 0, 1) := by decide +kernel
theorem dR_ease_30 : decode bR_ease 30 = .ok (.getfield 12, 3) := by decide +kernel
theorem dR_ease_33 : decode bR_ease 33 = .ok (.iload_n 1, 1) := by decide +kernel
theorem dR_ease_34 : decode bR_ease 34 = .ok (.putfield 146, 3) := by decide +kernel
theorem dR_ease_37 : decode bR_ease 37 = .ok (.aload_n 0, 1) := by decide +kernel
theorem dR_ease_38 : decode bR_ease 38 = .ok (.getfield 12, 3) := by decide +kernel
theorem dR_ease_41 : decode bR_ease 41 = .ok (.iload_n 2, 1) := by decide +kernel
theorem dR_ease_42 : decode bR_ease 42 = .ok (.putfield 149, 3) := by decide +kernel
theorem dR_ease_45 : decode bR_ease 45 = .ok (.return_, 1) := by decide +kernel
theorem dR_run_0 : decode bR_run 0 = .ok (.iload_n 1, 1) := by decide +kernel
theorem dR_run_1 : decode bR_run 1 = .ok (.iconst 1, 1) := by decide +kernel
theorem dR_run_2 : decode bR_run 2 = .ok (.sipush 400, 3) := by decide +kernel
theorem dR_run_5 : decode bR_run 5 = .ok (.invokestatic 28, 3) := by decide +kernel
theorem dR_run_8 : decode bR_run 8 = .ok (.ifCond .ne 13, 3) := by decide +kernel
theorem dR_run_11 : decode bR_run 11 = .ok (.new 36, 3) := by decide +kernel
theorem dR_run_14 : decode bR_run 14 = .ok (.dup, 1) := by decide +kernel
theorem dR_run_15 : decode bR_run 15 = .ok (.ldc 152, 2) := by decide +kernel
theorem dR_run_17 : decode bR_run 17 = .ok (.invokespecial 40, 3) := by decide +kernel
theorem dR_run_20 : decode bR_run 20 = .ok (.athrow, 1) := by decide +kernel
theorem dR_run_21 : decode bR_run 21 = .ok (.aload_n 0, 1) := by decide +kernel
theorem dR_run_22 : decode bR_run 22 = .ok (.getfield 21, 3) := by decide +kernel
theorem dR_run_25 : decode bR_run 25 = .ok (.getfield 154, 3) := by decide +kernel
theorem dR_run_28 : decode bR_run 28 = .ok (.iload_n 1, 1) := by decide +kernel
theorem dR_run_29 : decode bR_run 29 = .ok (.iadd, 1) := by decide +kernel
theorem dR_run_30 : decode bR_run 30 = .ok (.ldc 157, 2) := by decide +kernel
theorem dR_run_32 : decode bR_run 32 = .ok (.if_icmp .le 13, 3) := by decide +kernel
theorem dR_run_35 : decode bR_run 35 = .ok (.new 47, 3) := by decide +kernel
theorem dR_run_38 : decode bR_run 38 = .ok (.dup, 1) := by decide +kernel
theorem dR_run_39 : decode bR_run 39 = .ok (.ldc 158, 2) := by decide +kernel
theorem dR_run_41 : decode bR_run 41 = .ok (.invokespecial 51, 3) := by decide +kernel
theorem dR_run_44 : decode bR_run 44 = .ok (.athrow, 1) := by decide +kernel
theorem dR_run_45 : decode bR_run 45 = .ok (.iconst 0, 1) := by decide +kernel
theorem dR_run_46 : decode bR_run 46 = .ok (.istore_n 2, 1) := by decide +kernel
theorem dR_run_47 : decode bR_run 47 = .ok (.iload_n 2, 1) := by decide +kernel
theorem dR_run_48 : decode bR_run 48 = .ok (.iload_n 1, 1) := by decide +kernel
theorem dR_run_49 : decode bR_run 49 = .ok (.if_icmp .ge 16, 3) := by decide +kernel
theorem dR_run_52 : decode bR_run 52 = .ok (.aload_n 0, 1) := by decide +kernel
theorem dR_run_53 : decode bR_run 53 = .ok (.getfield 21, 3) := by decide +kernel
theorem dR_run_56 : decode bR_run 56 = .ok (.invokevirtual 160, 3) := by decide +kernel
theorem dR_run_59 : decode bR_run 59 = .ok (.iinc 2 1, 3) := by decide +kernel
theorem dR_run_62 : decode bR_run 62 = .ok (.goto (-15), 3) := by decide +kernel
theorem dR_run_65 : decode bR_run 65 = .ok (.aload_n 0, 1) := by decide +kernel
theorem dR_run_66 : decode bR_run 66 = .ok (.getfield 21, 3) := by decide +kernel
theorem dR_run_69 : decode bR_run 69 = .ok (.getfield 154, 3) := by decide +kernel
theorem dR_run_72 : decode bR_run 72 = .ok (.ireturn, 1) := by decide +kernel
theorem dR_told_0 : decode bR_told 0 = .ok (.aload_n 0, 1) := by decide +kernel
theorem dR_told_1 : decode bR_told 1 = .ok (.getfield 12, 3) := by decide +kernel
theorem dR_told_4 : decode bR_told 4 = .ok (.iload_n 1, 1) := by decide +kernel
theorem dR_told_5 : decode bR_told 5 = .ok (.invokevirtual 60, 3) := by decide +kernel
theorem dR_told_8 : decode bR_told 8 = .ok (.ifCond .eq 12, 3) := by decide +kernel
theorem dR_told_11 : decode bR_told 11 = .ok (.iload_n 2, 1) := by decide +kernel
theorem dR_told_12 : decode bR_told 12 = .ok (.iconst 0, 1) := by decide +kernel
theorem dR_told_13 : decode bR_told 13 = .ok (.iconst 5, 1) := by decide +kernel
theorem dR_told_14 : decode bR_told 14 = .ok (.invokestatic 28, 3) := by decide +kernel
theorem dR_told_17 : decode bR_told 17 = .ok (.ifCond .ne 13, 3) := by decide +kernel
theorem dR_told_20 : decode bR_told 20 = .ok (.new 36, 3) := by decide +kernel
theorem dR_told_23 : decode bR_told 23 = .ok (.dup, 1) := by decide +kernel
theorem dR_told_24 : decode bR_told 24 = .ok (.ldc 163, 2) := by decide +kernel
theorem dR_told_26 : decode bR_told 26 = .ok (.invokespecial 40, 3) := by decide +kernel
theorem dR_told_29 : decode bR_told 29 = .ok (.athrow, 1) := by decide +kernel
theorem dR_told_30 : decode bR_told 30 = .ok (.iload_n 2, 1) := by decide +kernel
theorem dR_told_31 : decode bR_told 31 = .ok (.tableswitch 83 0 4 #[33, 42, 52, 63, 73], 33) := by decide +kernel
theorem dR_told_64 : decode bR_told 64 = .ok (.aload_n 0, 1) := by decide +kernel
theorem dR_told_65 : decode bR_told 65 = .ok (.getfield 21, 3) := by decide +kernel
theorem dR_told_68 : decode bR_told 68 = .ok (.iload_n 1, 1) := by decide +kernel
theorem dR_told_69 : decode bR_told 69 = .ok (.invokevirtual 165, 3) := by decide +kernel
theorem dR_told_72 : decode bR_told 72 = .ok (.lreturn, 1) := by decide +kernel
theorem dR_told_73 : decode bR_told 73 = .ok (.aload_n 0, 1) := by decide +kernel
theorem dR_told_74 : decode bR_told 74 = .ok (.getfield 21, 3) := by decide +kernel
theorem dR_told_77 : decode bR_told 77 = .ok (.getfield 169, 3) := by decide +kernel
theorem dR_told_80 : decode bR_told 80 = .ok (.iload_n 1, 1) := by decide +kernel
theorem dR_told_81 : decode bR_told 81 = .ok (.laload, 1) := by decide +kernel
theorem dR_told_82 : decode bR_told 82 = .ok (.lreturn, 1) := by decide +kernel
theorem dR_told_83 : decode bR_told 83 = .ok (.aload_n 0, 1) := by decide +kernel
theorem dR_told_84 : decode bR_told 84 = .ok (.getfield 21, 3) := by decide +kernel
theorem dR_told_87 : decode bR_told 87 = .ok (.getfield 173, 3) := by decide +kernel
theorem dR_told_90 : decode bR_told 90 = .ok (.iload_n 1, 1) := by decide +kernel
theorem dR_told_91 : decode bR_told 91 = .ok (.iaload, 1) := by decide +kernel
theorem dR_told_92 : decode bR_told 92 = .ok (.i2l, 1) := by decide +kernel
theorem dR_told_93 : decode bR_told 93 = .ok (.lreturn, 1) := by decide +kernel
theorem dR_told_94 : decode bR_told 94 = .ok (.aload_n 0, 1) := by decide +kernel
theorem dR_told_95 : decode bR_told 95 = .ok (.getfield 21, 3) := by decide +kernel
theorem dR_told_98 : decode bR_told 98 = .ok (.getfield 176, 3) := by decide +kernel
theorem dR_told_101 : decode bR_told 101 = .ok (.iload_n 1, 1) := by decide +kernel
theorem dR_told_102 : decode bR_told 102 = .ok (.laload, 1) := by decide +kernel
theorem dR_told_103 : decode bR_told 103 = .ok (.lreturn, 1) := by decide +kernel
theorem dR_told_104 : decode bR_told 104 = .ok (.aload_n 0, 1) := by decide +kernel
theorem dR_told_105 : decode bR_told 105 = .ok (.getfield 21, 3) := by decide +kernel
theorem dR_told_108 : decode bR_told 108 = .ok (.getfield 179, 3) := by decide +kernel
theorem dR_told_111 : decode bR_told 111 = .ok (.iload_n 1, 1) := by decide +kernel
theorem dR_told_112 : decode bR_told 112 = .ok (.laload, 1) := by decide +kernel
theorem dR_told_113 : decode bR_told 113 = .ok (.lreturn, 1) := by decide +kernel
theorem dR_told_114 : decode bR_told 114 = .ok (.aload_n 0, 1) := by decide +kernel
theorem dR_told_115 : decode bR_told 115 = .ok (.getfield 21, 3) := by decide +kernel
theorem dR_told_118 : decode bR_told 118 = .ok (.getfield 182, 3) := by decide +kernel
theorem dR_told_121 : decode bR_told 121 = .ok (.iload_n 1, 1) := by decide +kernel
theorem dR_told_122 : decode bR_told 122 = .ok (.laload, 1) := by decide +kernel
theorem dR_told_123 : decode bR_told 123 = .ok (.lreturn, 1) := by decide +kernel
theorem dR_balance_0 : decode bR_balance 0 = .ok (.iload_n 1, 1) := by decide +kernel
theorem dR_balance_1 : decode bR_balance 1 = .ok (.iconst 0, 1) := by decide +kernel
theorem dR_balance_2 : decode bR_balance 2 = .ok (.bipush 6, 2) := by decide +kernel
theorem dR_balance_4 : decode bR_balance 4 = .ok (.invokestatic 28, 3) := by decide +kernel
theorem dR_balance_7 : decode bR_balance 7 = .ok (.ifCond .ne 13, 3) := by decide +kernel
theorem dR_balance_10 : decode bR_balance 10 = .ok (.new 36, 3) := by decide +kernel
theorem dR_balance_13 : decode bR_balance 13 = .ok (.dup, 1) := by decide +kernel
theorem dR_balance_14 : decode bR_balance 14 = .ok (.ldc 185, 2) := by decide +kernel
theorem dR_balance_16 : decode bR_balance 16 = .ok (.invokespecial 40, 3) := by decide +kernel
theorem dR_balance_19 : decode bR_balance 19 = .ok (.athrow, 1) := by decide +kernel
theorem dR_balance_20 : decode bR_balance 20 = .ok (.iload_n 1, 1) := by decide +kernel
theorem dR_balance_21 : decode bR_balance 21 = .ok (.tableswitch 108 0 5 #[39, 54, 62, 77, 92, 100], 39) := by decide +kernel
theorem dR_balance_60 : decode bR_balance 60 = .ok (.aload_n 0, 1) := by decide +kernel
theorem dR_balance_61 : decode bR_balance 61 = .ok (.getfield 21, 3) := by decide +kernel
theorem dR_balance_64 : decode bR_balance 64 = .ok (.aload_n 0, 1) := by decide +kernel
theorem dR_balance_65 : decode bR_balance 65 = .ok (.getfield 21, 3) := by decide +kernel
theorem dR_balance_68 : decode bR_balance 68 = .ok (.getfield 169, 3) := by decide +kernel
theorem dR_balance_71 : decode bR_balance 71 = .ok (.invokevirtual 187, 3) := by decide +kernel
theorem dR_balance_74 : decode bR_balance 74 = .ok (.lreturn, 1) := by decide +kernel
theorem dR_balance_75 : decode bR_balance 75 = .ok (.aload_n 0, 1) := by decide +kernel
theorem dR_balance_76 : decode bR_balance 76 = .ok (.getfield 21, 3) := by decide +kernel
theorem dR_balance_79 : decode bR_balance 79 = .ok (.getfield 191, 3) := by decide +kernel
theorem dR_balance_82 : decode bR_balance 82 = .ok (.lreturn, 1) := by decide +kernel
theorem dR_balance_83 : decode bR_balance 83 = .ok (.aload_n 0, 1) := by decide +kernel
theorem dR_balance_84 : decode bR_balance 84 = .ok (.getfield 21, 3) := by decide +kernel
theorem dR_balance_87 : decode bR_balance 87 = .ok (.aload_n 0, 1) := by decide +kernel
theorem dR_balance_88 : decode bR_balance 88 = .ok (.getfield 21, 3) := by decide +kernel
theorem dR_balance_91 : decode bR_balance 91 = .ok (.getfield 176, 3) := by decide +kernel
theorem dR_balance_94 : decode bR_balance 94 = .ok (.invokevirtual 187, 3) := by decide +kernel
theorem dR_balance_97 : decode bR_balance 97 = .ok (.lreturn, 1) := by decide +kernel
theorem dR_balance_98 : decode bR_balance 98 = .ok (.aload_n 0, 1) := by decide +kernel
theorem dR_balance_99 : decode bR_balance 99 = .ok (.getfield 21, 3) := by decide +kernel
theorem dR_balance_102 : decode bR_balance 102 = .ok (.aload_n 0, 1) := by decide +kernel
theorem dR_balance_103 : decode bR_balance 103 = .ok (.getfield 21, 3) := by decide +kernel
theorem dR_balance_106 : decode bR_balance 106 = .ok (.getfield 179, 3) := by decide +kernel
theorem dR_balance_109 : decode bR_balance 109 = .ok (.invokevirtual 187, 3) := by decide +kernel
theorem dR_balance_112 : decode bR_balance 112 = .ok (.lreturn, 1) := by decide +kernel
theorem dR_balance_113 : decode bR_balance 113 = .ok (.aload_n 0, 1) := by decide +kernel
theorem dR_balance_114 : decode bR_balance 114 = .ok (.getfield 21, 3) := by decide +kernel
theorem dR_balance_117 : decode bR_balance 117 = .ok (.getfield 195, 3) := by decide +kernel
theorem dR_balance_120 : decode bR_balance 120 = .ok (.lreturn, 1) := by decide +kernel
theorem dR_balance_121 : decode bR_balance 121 = .ok (.aload_n 0, 1) := by decide +kernel
theorem dR_balance_122 : decode bR_balance 122 = .ok (.getfield 21, 3) := by decide +kernel
theorem dR_balance_125 : decode bR_balance 125 = .ok (.getfield 198, 3) := by decide +kernel
theorem dR_balance_128 : decode bR_balance 128 = .ok (.lreturn, 1) := by decide +kernel
theorem dR_balance_129 : decode bR_balance 129 = .ok (.aload_n 0, 1) := by decide +kernel
theorem dR_balance_130 : decode bR_balance 130 = .ok (.getfield 21, 3) := by decide +kernel
theorem dR_balance_133 : decode bR_balance 133 = .ok (.getfield 201, 3) := by decide +kernel
theorem dR_balance_136 : decode bR_balance 136 = .ok (.lreturn, 1) := by decide +kernel
theorem dR_early_0 : decode bR_early 0 = .ok (.aload_n 0, 1) := by decide +kernel
theorem dR_early_1 : decode bR_early 1 = .ok (.getfield 12, 3) := by decide +kernel
theorem dR_early_4 : decode bR_early 4 = .ok (.iload_n 1, 1) := by decide +kernel
theorem dR_early_5 : decode bR_early 5 = .ok (.invokevirtual 60, 3) := by decide +kernel
theorem dR_early_8 : decode bR_early 8 = .ok (.ifCond .eq 17, 3) := by decide +kernel
theorem dR_early_11 : decode bR_early 11 = .ok (.iload_n 2, 1) := by decide +kernel
theorem dR_early_12 : decode bR_early 12 = .ok (.invokestatic 114, 3) := by decide +kernel
theorem dR_early_15 : decode bR_early 15 = .ok (.ifCond .eq 10, 3) := by decide +kernel
theorem dR_early_18 : decode bR_early 18 = .ok (.iload_n 3, 1) := by decide +kernel
theorem dR_early_19 : decode bR_early 19 = .ok (.invokestatic 32, 3) := by decide +kernel
theorem dR_early_22 : decode bR_early 22 = .ok (.ifCond .ne 13, 3) := by decide +kernel
theorem dR_early_25 : decode bR_early 25 = .ok (.new 36, 3) := by decide +kernel
theorem dR_early_28 : decode bR_early 28 = .ok (.dup, 1) := by decide +kernel
theorem dR_early_29 : decode bR_early 29 = .ok (.ldc 204, 2) := by decide +kernel
theorem dR_early_31 : decode bR_early 31 = .ok (.invokespecial 40, 3) := by decide +kernel
theorem dR_early_34 : decode bR_early 34 = .ok (.athrow, 1) := by decide +kernel
theorem dR_early_35 : decode bR_early 35 = .ok (.aload_n 0, 1) := by decide +kernel
theorem dR_early_36 : decode bR_early 36 = .ok (.getfield 21, 3) := by decide +kernel
theorem dR_early_39 : decode bR_early 39 = .ok (.iload_n 2, 1) := by decide +kernel
theorem dR_early_40 : decode bR_early 40 = .ok (.invokevirtual 206, 3) := by decide +kernel
theorem dR_early_43 : decode bR_early 43 = .ok (.istore 4, 2) := by decide +kernel
theorem dR_early_45 : decode bR_early 45 = .ok (.iconst 0, 1) := by decide +kernel
theorem dR_early_46 : decode bR_early 46 = .ok (.istore 5, 2) := by decide +kernel
theorem dR_early_48 : decode bR_early 48 = .ok (.iload 5, 2) := by decide +kernel
theorem dR_early_50 : decode bR_early 50 = .ok (.bipush 24, 2) := by decide +kernel
theorem dR_early_52 : decode bR_early 52 = .ok (.if_icmp .gt 101, 3) := by decide +kernel
theorem dR_early_55 : decode bR_early 55 = .ok (.iload 4, 2) := by decide +kernel
theorem dR_early_57 : decode bR_early 57 = .ok (.iload 5, 2) := by decide +kernel
theorem dR_early_59 : decode bR_early 59 = .ok (.iconst 4, 1) := by decide +kernel
theorem dR_early_60 : decode bR_early 60 = .ok (.imul, 1) := by decide +kernel
theorem dR_early_61 : decode bR_early 61 = .ok (.isub, 1) := by decide +kernel
theorem dR_early_62 : decode bR_early 62 = .ok (.istore 6, 2) := by decide +kernel
theorem dR_early_64 : decode bR_early 64 = .ok (.aload_n 0, 1) := by decide +kernel
theorem dR_early_65 : decode bR_early 65 = .ok (.getfield 25, 3) := by decide +kernel
theorem dR_early_68 : decode bR_early 68 = .ok (.aload_n 0, 1) := by decide +kernel
theorem dR_early_69 : decode bR_early 69 = .ok (.getfield 21, 3) := by decide +kernel
theorem dR_early_72 : decode bR_early 72 = .ok (.invokevirtual 209, 3) := by decide +kernel
theorem dR_early_75 : decode bR_early 75 = .ok (.aload_n 0, 1) := by decide +kernel
theorem dR_early_76 : decode bR_early 76 = .ok (.getfield 25, 3) := by decide +kernel
theorem dR_early_79 : decode bR_early 79 = .ok (.iload_n 1, 1) := by decide +kernel
theorem dR_early_80 : decode bR_early 80 = .ok (.iload_n 3, 1) := by decide +kernel
theorem dR_early_81 : decode bR_early 81 = .ok (.iload 6, 2) := by decide +kernel
theorem dR_early_83 : decode bR_early 83 = .ok (.invokevirtual 213, 3) := by decide +kernel
theorem dR_early_86 : decode bR_early 86 = .ok (.aload_n 0, 1) := by decide +kernel
theorem dR_early_87 : decode bR_early 87 = .ok (.getfield 21, 3) := by decide +kernel
theorem dR_early_90 : decode bR_early 90 = .ok (.getfield 154, 3) := by decide +kernel
theorem dR_early_93 : decode bR_early 93 = .ok (.istore 7, 2) := by decide +kernel
theorem dR_early_95 : decode bR_early 95 = .ok (.iload 7, 2) := by decide +kernel
theorem dR_early_97 : decode bR_early 97 = .ok (.iload 4, 2) := by decide +kernel
theorem dR_early_99 : decode bR_early 99 = .ok (.if_icmp .ge 16, 3) := by decide +kernel
theorem dR_early_102 : decode bR_early 102 = .ok (.aload_n 0, 1) := by decide +kernel
theorem dR_early_103 : decode bR_early 103 = .ok (.getfield 25, 3) := by decide +kernel
theorem dR_early_106 : decode bR_early 106 = .ok (.invokevirtual 160, 3) := by decide +kernel
theorem dR_early_109 : decode bR_early 109 = .ok (.iinc 7 1, 3) := by decide +kernel
theorem dR_early_112 : decode bR_early 112 = .ok (.goto (-17), 3) := by decide +kernel
theorem dR_early_115 : decode bR_early 115 = .ok (.aload_n 0, 1) := by decide +kernel
theorem dR_early_116 : decode bR_early 116 = .ok (.getfield 25, 3) := by decide +kernel
theorem dR_early_119 : decode bR_early 119 = .ok (.iload_n 1, 1) := by decide +kernel
theorem dR_early_120 : decode bR_early 120 = .ok (.invokevirtual 165, 3) := by decide +kernel
theorem dR_early_123 : decode bR_early 123 = .ok (.iload_n 3, 1) := by decide +kernel
theorem dR_early_124 : decode bR_early 124 = .ok (.i2l, 1) := by decide +kernel
theorem dR_early_125 : decode bR_early 125 = .ok (.lcmp, 1) := by decide +kernel
theorem dR_early_126 : decode bR_early 126 = .ok (.ifCond .lt 6, 3) := by decide +kernel
theorem dR_early_129 : decode bR_early 129 = .ok (.iload 5, 2) := by decide +kernel
theorem dR_early_131 : decode bR_early 131 = .ok (.ireturn, 1) := by decide +kernel
end
section
theorem dR_early_132 : decode bR_early 132 = .ok (.iload 6, 2) := by decide +kernel
theorem dR_early_134 : decode bR_early 134 = .ok (.aload_n 0, 1) := by decide +kernel
theorem dR_early_135 : decode bR_early 135 = .ok (.getfield 21, 3) := by decide +kernel
theorem dR_early_138 : decode bR_early 138 = .ok (.getfield 154, 3) := by decide +kernel
theorem dR_early_141 : decode bR_early 141 = .ok (.if_icmp .gt 6, 3) := by decide +kernel
theorem dR_early_144 : decode bR_early 144 = .ok (.ldc 217, 2) := by decide +kernel
theorem dR_early_146 : decode bR_early 146 = .ok (.ireturn, 1) := by decide +kernel
theorem dR_early_147 : decode bR_early 147 = .ok (.iinc 5 1, 3) := by decide +kernel
theorem dR_early_150 : decode bR_early 150 = .ok (.goto (-102), 3) := by decide +kernel
theorem dR_early_153 : decode bR_early 153 = .ok (.ldc 217, 2) := by decide +kernel
theorem dR_early_155 : decode bR_early 155 = .ok (.ireturn, 1) := by decide +kernel
theorem dR_strong_0 : decode bR_strong 0 = .ok (.aload_n 0, 1) := by decide +kernel
theorem dR_strong_1 : decode bR_strong 1 = .ok (.getfield 12, 3) := by decide +kernel
theorem dR_strong_4 : decode bR_strong 4 = .ok (.iload_n 1, 1) := by decide +kernel
theorem dR_strong_5 : decode bR_strong 5 = .ok (.invokevirtual 60, 3) := by decide +kernel
theorem dR_strong_8 : decode bR_strong 8 = .ok (.ifCond .eq 14, 3) := by decide +kernel
theorem dR_strong_11 : decode bR_strong 11 = .ok (.iload_n 2, 1) := by decide +kernel
theorem dR_strong_12 : decode bR_strong 12 = .ok (.iconst 1, 1) := by decide +kernel
theorem dR_strong_13 : decode bR_strong 13 = .ok (.sipush 192, 3) := by decide +kernel
theorem dR_strong_16 : decode bR_strong 16 = .ok (.invokestatic 28, 3) := by decide +kernel
theorem dR_strong_19 : decode bR_strong 19 = .ok (.ifCond .ne 13, 3) := by decide +kernel
theorem dR_strong_22 : decode bR_strong 22 = .ok (.new 36, 3) := by decide +kernel
theorem dR_strong_25 : decode bR_strong 25 = .ok (.dup, 1) := by decide +kernel
theorem dR_strong_26 : decode bR_strong 26 = .ok (.ldc 218, 2) := by decide +kernel
theorem dR_strong_28 : decode bR_strong 28 = .ok (.invokespecial 40, 3) := by decide +kernel
theorem dR_strong_31 : decode bR_strong 31 = .ok (.athrow, 1) := by decide +kernel
theorem dR_strong_32 : decode bR_strong 32 = .ok (.iconst 0, 1) := by decide +kernel
theorem dR_strong_33 : decode bR_strong 33 = .ok (.istore_n 3, 1) := by decide +kernel
theorem dR_strong_34 : decode bR_strong 34 = .ok (.iload_n 3, 1) := by decide +kernel
theorem dR_strong_35 : decode bR_strong 35 = .ok (.ldc 157, 2) := by decide +kernel
theorem dR_strong_37 : decode bR_strong 37 = .ok (.if_icmp .gt 59, 3) := by decide +kernel
theorem dR_strong_40 : decode bR_strong 40 = .ok (.aload_n 0, 1) := by decide +kernel
theorem dR_strong_41 : decode bR_strong 41 = .ok (.getfield 25, 3) := by decide +kernel
theorem dR_strong_44 : decode bR_strong 44 = .ok (.aload_n 0, 1) := by decide +kernel
theorem dR_strong_45 : decode bR_strong 45 = .ok (.getfield 21, 3) := by decide +kernel
theorem dR_strong_48 : decode bR_strong 48 = .ok (.invokevirtual 209, 3) := by decide +kernel
theorem dR_strong_51 : decode bR_strong 51 = .ok (.aload_n 0, 1) := by decide +kernel
theorem dR_strong_52 : decode bR_strong 52 = .ok (.getfield 25, 3) := by decide +kernel
theorem dR_strong_55 : decode bR_strong 55 = .ok (.iload_n 1, 1) := by decide +kernel
theorem dR_strong_56 : decode bR_strong 56 = .ok (.iload_n 3, 1) := by decide +kernel
theorem dR_strong_57 : decode bR_strong 57 = .ok (.invokevirtual 220, 3) := by decide +kernel
theorem dR_strong_60 : decode bR_strong 60 = .ok (.aload_n 0, 1) := by decide +kernel
theorem dR_strong_61 : decode bR_strong 61 = .ok (.getfield 25, 3) := by decide +kernel
theorem dR_strong_64 : decode bR_strong 64 = .ok (.iload_n 1, 1) := by decide +kernel
theorem dR_strong_65 : decode bR_strong 65 = .ok (.iload_n 2, 1) := by decide +kernel
theorem dR_strong_66 : decode bR_strong 66 = .ok (.invokevirtual 223, 3) := by decide +kernel
theorem dR_strong_69 : decode bR_strong 69 = .ok (.ifCond .eq 5, 3) := by decide +kernel
theorem dR_strong_72 : decode bR_strong 72 = .ok (.iload_n 3, 1) := by decide +kernel
theorem dR_strong_73 : decode bR_strong 73 = .ok (.ireturn, 1) := by decide +kernel
theorem dR_strong_74 : decode bR_strong 74 = .ok (.aload_n 0, 1) := by decide +kernel
theorem dR_strong_75 : decode bR_strong 75 = .ok (.getfield 25, 3) := by decide +kernel
theorem dR_strong_78 : decode bR_strong 78 = .ok (.getfield 226, 3) := by decide +kernel
theorem dR_strong_81 : decode bR_strong 81 = .ok (.ifCond .ne 6, 3) := by decide +kernel
theorem dR_strong_84 : decode bR_strong 84 = .ok (.ldc 217, 2) := by decide +kernel
theorem dR_strong_86 : decode bR_strong 86 = .ok (.ireturn, 1) := by decide +kernel
theorem dR_strong_87 : decode bR_strong 87 = .ok (.iinc 3 1000, 6) := by decide +kernel
theorem dR_strong_93 : decode bR_strong 93 = .ok (.goto (-59), 3) := by decide +kernel
theorem dR_strong_96 : decode bR_strong 96 = .ok (.ldc 217, 2) := by decide +kernel
theorem dR_strong_98 : decode bR_strong 98 = .ok (.ireturn, 1) := by decide +kernel
theorem dR_isWithin_0 : decode bR_isWithin 0 = .ok (.iload_n 0, 1) := by decide +kernel
theorem dR_isWithin_1 : decode bR_isWithin 1 = .ok (.iload_n 1, 1) := by decide +kernel
theorem dR_isWithin_2 : decode bR_isWithin 2 = .ok (.if_icmp .lt 12, 3) := by decide +kernel
theorem dR_isWithin_5 : decode bR_isWithin 5 = .ok (.iload_n 0, 1) := by decide +kernel
theorem dR_isWithin_6 : decode bR_isWithin 6 = .ok (.iload_n 2, 1) := by decide +kernel
theorem dR_isWithin_7 : decode bR_isWithin 7 = .ok (.if_icmp .gt 7, 3) := by decide +kernel
theorem dR_isWithin_10 : decode bR_isWithin 10 = .ok (.iconst 1, 1) := by decide +kernel
theorem dR_isWithin_11 : decode bR_isWithin 11 = .ok (.goto 4, 3) := by decide +kernel
theorem dR_isWithin_14 : decode bR_isWithin 14 = .ok (.iconst 0, 1) := by decide +kernel
theorem dR_isWithin_15 : decode bR_isWithin 15 = .ok (.ireturn, 1) := by decide +kernel
theorem dR_isWarmth_0 : decode bR_isWarmth 0 = .ok (.iload_n 0, 1) := by decide +kernel
theorem dR_isWarmth_1 : decode bR_isWarmth 1 = .ok (.sipush (-5000), 3) := by decide +kernel
theorem dR_isWarmth_4 : decode bR_isWarmth 4 = .ok (.sipush 5000, 3) := by decide +kernel
theorem dR_isWarmth_7 : decode bR_isWarmth 7 = .ok (.invokestatic 28, 3) := by decide +kernel
theorem dR_isWarmth_10 : decode bR_isWarmth 10 = .ok (.ireturn, 1) := by decide +kernel
theorem dR_isHour_0 : decode bR_isHour 0 = .ok (.iload_n 0, 1) := by decide +kernel
theorem dR_isHour_1 : decode bR_isHour 1 = .ok (.iconst 0, 1) := by decide +kernel
theorem dR_isHour_2 : decode bR_isHour 2 = .ok (.bipush 23, 2) := by decide +kernel
theorem dR_isHour_4 : decode bR_isHour 4 = .ok (.invokestatic 28, 3) := by decide +kernel
theorem dR_isHour_7 : decode bR_isHour 7 = .ok (.ireturn, 1) := by decide +kernel
theorem dR_isSide_0 : decode bR_isSide 0 = .ok (.iload_n 0, 1) := by decide +kernel
theorem dR_isSide_1 : decode bR_isSide 1 = .ok (.iconst 0, 1) := by decide +kernel
theorem dR_isSide_2 : decode bR_isSide 2 = .ok (.iconst 3, 1) := by decide +kernel
theorem dR_isSide_3 : decode bR_isSide 3 = .ok (.invokestatic 28, 3) := by decide +kernel
theorem dR_isSide_6 : decode bR_isSide 6 = .ok (.ireturn, 1) := by decide +kernel
theorem dR_isPlan_0 : decode bR_isPlan 0 = .ok (.iload_n 0, 1) := by decide +kernel
theorem dR_isPlan_1 : decode bR_isPlan 1 = .ok (.ifCond .ne 13, 3) := by decide +kernel
theorem dR_isPlan_4 : decode bR_isPlan 4 = .ok (.iload_n 1, 1) := by decide +kernel
theorem dR_isPlan_5 : decode bR_isPlan 5 = .ok (.iconst 0, 1) := by decide +kernel
theorem dR_isPlan_6 : decode bR_isPlan 6 = .ok (.bipush 100, 2) := by decide +kernel
theorem dR_isPlan_8 : decode bR_isPlan 8 = .ok (.invokestatic 28, 3) := by decide +kernel
theorem dR_isPlan_11 : decode bR_isPlan 11 = .ok (.goto 21, 3) := by decide +kernel
theorem dR_isPlan_14 : decode bR_isPlan 14 = .ok (.iload_n 1, 1) := by decide +kernel
theorem dR_isPlan_15 : decode bR_isPlan 15 = .ok (.ldc 217, 2) := by decide +kernel
theorem dR_isPlan_17 : decode bR_isPlan 17 = .ok (.if_icmp .eq 10, 3) := by decide +kernel
theorem dR_isPlan_20 : decode bR_isPlan 20 = .ok (.iload_n 1, 1) := by decide +kernel
theorem dR_isPlan_21 : decode bR_isPlan 21 = .ok (.invokestatic 32, 3) := by decide +kernel
theorem dR_isPlan_24 : decode bR_isPlan 24 = .ok (.ifCond .eq 7, 3) := by decide +kernel
theorem dR_isPlan_27 : decode bR_isPlan 27 = .ok (.iconst 1, 1) := by decide +kernel
theorem dR_isPlan_28 : decode bR_isPlan 28 = .ok (.goto 4, 3) := by decide +kernel
theorem dR_isPlan_31 : decode bR_isPlan 31 = .ok (.iconst 0, 1) := by decide +kernel
theorem dR_isPlan_32 : decode bR_isPlan 32 = .ok (.ireturn, 1) := by decide +kernel
theorem dM_init_0 : decode bM_init 0 = .ok (.aload_n 0, 1) := by decide +kernel
theorem dM_init_1 : decode bM_init 1 = .ok (.invokespecial 1, 3) := by decide +kernel
theorem dM_init_4 : decode bM_init 4 = .ok (.aload_n 0, 1) := by decide +kernel
theorem dM_init_5 : decode bM_init 5 = .ok (.bipush 8, 2) := by decide +kernel
theorem dM_init_7 : decode bM_init 7 = .ok (.newarray .int, 2) := by decide +kernel
theorem dM_init_9 : decode bM_init 9 = .ok (.putfield 7, 3) := by decide +kernel
theorem dM_init_12 : decode bM_init 12 = .ok (.aload_n 0, 1) := by decide +kernel
theorem dM_init_13 : decode bM_init 13 = .ok (.bipush 8, 2) := by decide +kernel
theorem dM_init_15 : decode bM_init 15 = .ok (.newarray .long, 2) := by decide +kernel
theorem dM_init_17 : decode bM_init 17 = .ok (.putfield 13, 3) := by decide +kernel
theorem dM_init_20 : decode bM_init 20 = .ok (.aload_n 0, 1) := by decide +kernel
theorem dM_init_21 : decode bM_init 21 = .ok (.bipush 8, 2) := by decide +kernel
theorem dM_init_23 : decode bM_init 23 = .ok (.newarray .int, 2) := by decide +kernel
theorem dM_init_25 : decode bM_init 25 = .ok (.putfield 17, 3) := by decide +kernel
theorem dM_init_28 : decode bM_init 28 = .ok (.aload_n 0, 1) := by decide +kernel
theorem dM_init_29 : decode bM_init 29 = .ok (.bipush 8, 2) := by decide +kernel
theorem dM_init_31 : decode bM_init 31 = .ok (.newarray .long, 2) := by decide +kernel
theorem dM_init_33 : decode bM_init 33 = .ok (.putfield 20, 3) := by decide +kernel
theorem dM_init_36 : decode bM_init 36 = .ok (.aload_n 0, 1) := by decide +kernel
theorem dM_init_37 : decode bM_init 37 = .ok (.bipush 8, 2) := by decide +kernel
theorem dM_init_39 : decode bM_init 39 = .ok (.newarray .long, 2) := by decide +kernel
theorem dM_init_41 : decode bM_init 41 = .ok (.putfield 23, 3) := by decide +kernel
theorem dM_init_44 : decode bM_init 44 = .ok (.aload_n 0, 1) := by decide +kernel
theorem dM_init_45 : decode bM_init 45 = .ok (.bipush 8, 2) := by decide +kernel
theorem dM_init_47 : decode bM_init 47 = .ok (.newarray .long, 2) := by decide +kernel
theorem dM_init_49 : decode bM_init 49 = .ok (.putfield 26, 3) := by decide +kernel
theorem dM_init_52 : decode bM_init 52 = .ok (.aload_n 0, 1) := by decide +kernel
theorem dM_init_53 : decode bM_init 53 = .ok (.bipush 8, 2) := by decide +kernel
theorem dM_init_55 : decode bM_init 55 = .ok (.newarray .int, 2) := by decide +kernel
theorem dM_init_57 : decode bM_init 57 = .ok (.putfield 29, 3) := by decide +kernel
theorem dM_init_60 : decode bM_init 60 = .ok (.aload_n 0, 1) := by decide +kernel
theorem dM_init_61 : decode bM_init 61 = .ok (.bipush 8, 2) := by decide +kernel
theorem dM_init_63 : decode bM_init 63 = .ok (.newarray .int, 2) := by decide +kernel
theorem dM_init_65 : decode bM_init 65 = .ok (.putfield 32, 3) := by decide +kernel
theorem dM_init_68 : decode bM_init 68 = .ok (.aload_n 0, 1) := by decide +kernel
theorem dM_init_69 : decode bM_init 69 = .ok (.bipush 20, 2) := by decide +kernel
theorem dM_init_71 : decode bM_init 71 = .ok (.newarray .int, 2) := by decide +kernel
theorem dM_init_73 : decode bM_init 73 = .ok (.putfield 35, 3) := by decide +kernel
theorem dM_init_76 : decode bM_init 76 = .ok (.aload_n 0, 1) := by decide +kernel
theorem dM_init_77 : decode bM_init 77 = .ok (.bipush 20, 2) := by decide +kernel
theorem dM_init_79 : decode bM_init 79 = .ok (.newarray .int, 2) := by decide +kernel
theorem dM_init_81 : decode bM_init 81 = .ok (.putfield 38, 3) := by decide +kernel
theorem dM_init_84 : decode bM_init 84 = .ok (.aload_n 0, 1) := by decide +kernel
theorem dM_init_85 : decode bM_init 85 = .ok (.bipush 20, 2) := by decide +kernel
theorem dM_init_87 : decode bM_init 87 = .ok (.newarray .int, 2) := by decide +kernel
theorem dM_init_89 : decode bM_init 89 = .ok (.putfield 41, 3) := by decide +kernel
theorem dM_init_92 : decode bM_init 92 = .ok (.aload_n 0, 1) := by decide +kernel
theorem dM_init_93 : decode bM_init 93 = .ok (.bipush 12, 2) := by decide +kernel
theorem dM_init_95 : decode bM_init 95 = .ok (.newarray .int, 2) := by decide +kernel
theorem dM_init_97 : decode bM_init 97 = .ok (.putfield 44, 3) := by decide +kernel
theorem dM_init_100 : decode bM_init 100 = .ok (.aload_n 0, 1) := by decide +kernel
theorem dM_init_101 : decode bM_init 101 = .ok (.bipush 12, 2) := by decide +kernel
theorem dM_init_103 : decode bM_init 103 = .ok (.newarray .int, 2) := by decide +kernel
theorem dM_init_105 : decode bM_init 105 = .ok (.putfield 47, 3) := by decide +kernel
theorem dM_init_108 : decode bM_init 108 = .ok (.aload_n 0, 1) := by decide +kernel
theorem dM_init_109 : decode bM_init 109 = .ok (.bipush 12, 2) := by decide +kernel
theorem dM_init_111 : decode bM_init 111 = .ok (.newarray .int, 2) := by decide +kernel
theorem dM_init_113 : decode bM_init 113 = .ok (.putfield 50, 3) := by decide +kernel
theorem dM_init_116 : decode bM_init 116 = .ok (.aload_n 0, 1) := by decide +kernel
theorem dM_init_117 : decode bM_init 117 = .ok (.bipush 12, 2) := by decide +kernel
theorem dM_init_119 : decode bM_init 119 = .ok (.newarray .int, 2) := by decide +kernel
theorem dM_init_121 : decode bM_init 121 = .ok (.putfield 53, 3) := by decide +kernel
theorem dM_init_124 : decode bM_init 124 = .ok (.aload_n 0, 1) := by decide +kernel
theorem dM_init_125 : decode bM_init 125 = .ok (.bipush 24, 2) := by decide +kernel
theorem dM_init_127 : decode bM_init 127 = .ok (.newarray .int, 2) := by decide +kernel
theorem dM_init_129 : decode bM_init 129 = .ok (.putfield 56, 3) := by decide +kernel
theorem dM_init_132 : decode bM_init 132 = .ok (.aload_n 0, 1) := by decide +kernel
theorem dM_init_133 : decode bM_init 133 = .ok (.bipush 96, 2) := by decide +kernel
theorem dM_init_135 : decode bM_init 135 = .ok (.newarray .int, 2) := by decide +kernel
theorem dM_init_137 : decode bM_init 137 = .ok (.putfield 59, 3) := by decide +kernel
theorem dM_init_140 : decode bM_init 140 = .ok (.aload_n 0, 1) := by decide +kernel
theorem dM_init_141 : decode bM_init 141 = .ok (.sipush 192, 3) := by decide +kernel
theorem dM_init_144 : decode bM_init 144 = .ok (.newarray .int, 2) := by decide +kernel
theorem dM_init_146 : decode bM_init 146 = .ok (.putfield 62, 3) := by decide +kernel
theorem dM_init_149 : decode bM_init 149 = .ok (.aload_n 0, 1) := by decide +kernel
theorem dM_init_150 : decode bM_init 150 = .ok (.sipush 192, 3) := by decide +kernel
theorem dM_init_153 : decode bM_init 153 = .ok (.newarray .int, 2) := by decide +kernel
theorem dM_init_155 : decode bM_init 155 = .ok (.putfield 65, 3) := by decide +kernel
theorem dM_init_158 : decode bM_init 158 = .ok (.aload_n 0, 1) := by decide +kernel
theorem dM_init_159 : decode bM_init 159 = .ok (.sipush 192, 3) := by decide +kernel
theorem dM_init_162 : decode bM_init 162 = .ok (.newarray .int, 2) := by decide +kernel
theorem dM_init_164 : decode bM_init 164 = .ok (.putfield 68, 3) := by decide +kernel
theorem dM_init_167 : decode bM_init 167 = .ok (.aload_n 0, 1) := by decide +kernel
theorem dM_init_168 : decode bM_init 168 = .ok (.bipush 8, 2) := by decide +kernel
theorem dM_init_170 : decode bM_init 170 = .ok (.newarray .long, 2) := by decide +kernel
theorem dM_init_172 : decode bM_init 172 = .ok (.putfield 71, 3) := by decide +kernel
theorem dM_init_175 : decode bM_init 175 = .ok (.aload_n 0, 1) := by decide +kernel
theorem dM_init_176 : decode bM_init 176 = .ok (.iconst (-1), 1) := by decide +kernel
theorem dM_init_177 : decode bM_init 177 = .ok (.putfield 74, 3) := by decide +kernel
theorem dM_init_180 : decode bM_init 180 = .ok (.aload_n 0, 1) := by decide +kernel
theorem dM_init_181 : decode bM_init 181 = .ok (.bipush 44, 2) := by decide +kernel
theorem dM_init_183 : decode bM_init 183 = .ok (.newarray .long, 2) := by decide +kernel
theorem dM_init_185 : decode bM_init 185 = .ok (.putfield 78, 3) := by decide +kernel
theorem dM_init_188 : decode bM_init 188 = .ok (.iconst 0, 1) := by decide +kernel
theorem dM_init_189 : decode bM_init 189 = .ok (.istore_n 1, 1) := by decide +kernel
theorem dM_init_190 : decode bM_init 190 = .ok (.iload_n 1, 1) := by decide +kernel
theorem dM_init_191 : decode bM_init 191 = .ok (.sipush 192, 3) := by decide +kernel
theorem dM_init_194 : decode bM_init 194 = .ok (.if_icmp .ge 25, 3) := by decide +kernel
theorem dM_init_197 : decode bM_init 197 = .ok (.aload_n 0, 1) := by decide +kernel
theorem dM_init_198 : decode bM_init 198 = .ok (.getfield 65, 3) := by decide +kernel
theorem dM_init_201 : decode bM_init 201 = .ok (.iload_n 1, 1) := by decide +kernel
theorem dM_init_202 : decode bM_init 202 = .ok (.ldc 81, 2) := by decide +kernel
theorem dM_init_204 : decode bM_init 204 = .ok (.iastore, 1) := by decide +kernel
theorem dM_init_205 : decode bM_init 205 = .ok (.aload_n 0, 1) := by decide +kernel
theorem dM_init_206 : decode bM_init 206 = .ok (.getfield 68, 3) := by decide +kernel
theorem dM_init_209 : decode bM_init 209 = .ok (.iload_n 1, 1) := by decide +kernel
theorem dM_init_210 : decode bM_init 210 = .ok (.ldc 81, 2) := by decide +kernel
theorem dM_init_212 : decode bM_init 212 = .ok (.iastore, 1) := by decide +kernel
theorem dM_init_213 : decode bM_init 213 = .ok (.iinc 1 1, 3) := by decide +kernel
theorem dM_init_216 : decode bM_init 216 = .ok (.goto (-26), 3) := by decide +kernel
theorem dM_init_219 : decode bM_init 219 = .ok (.return_, 1) := by decide +kernel
theorem dM_thrown_0 : decode bM_thrown 0 = .ok (.aload_n 0, 1) := by decide +kernel
theorem dM_thrown_1 : decode bM_thrown 1 = .ok (.getfield 82, 3) := by decide +kernel
theorem dM_thrown_4 : decode bM_thrown 4 = .ok (.ireturn, 1) := by decide +kernel
theorem dM_in_0 : decode bM_in 0 = .ok (.iload_n 0, 1) := by decide +kernel
theorem dM_in_1 : decode bM_in 1 = .ok (.iload_n 1, 1) := by decide +kernel
theorem dM_in_2 : decode bM_in 2 = .ok (.if_icmp .lt 12, 3) := by decide +kernel
theorem dM_in_5 : decode bM_in 5 = .ok (.iload_n 0, 1) := by decide +kernel
theorem dM_in_6 : decode bM_in 6 = .ok (.iload_n 2, 1) := by decide +kernel
theorem dM_in_7 : decode bM_in 7 = .ok (.if_icmp .gt 7, 3) := by decide +kernel
theorem dM_in_10 : decode bM_in 10 = .ok (.iconst 1, 1) := by decide +kernel
theorem dM_in_11 : decode bM_in 11 = .ok (.goto 4, 3) := by decide +kernel
theorem dM_in_14 : decode bM_in 14 = .ok (.iconst 0, 1) := by decide +kernel
theorem dM_in_15 : decode bM_in 15 = .ok (.ireturn, 1) := by decide +kernel
theorem dM_isWarmth_0 : decode bM_isWarmth 0 = .ok (.iload_n 0, 1) := by decide +kernel
theorem dM_isWarmth_1 : decode bM_isWarmth 1 = .ok (.sipush (-5000), 3) := by decide +kernel
theorem dM_isWarmth_4 : decode bM_isWarmth 4 = .ok (.sipush 5000, 3) := by decide +kernel
theorem dM_isWarmth_7 : decode bM_isWarmth 7 = .ok (.invokestatic 85, 3) := by decide +kernel
theorem dM_isWarmth_10 : decode bM_isWarmth 10 = .ok (.ireturn, 1) := by decide +kernel
theorem dM_isRoom_0 : decode bM_isRoom 0 = .ok (.iload_n 1, 1) := by decide +kernel
theorem dM_isRoom_1 : decode bM_isRoom 1 = .ok (.iconst 0, 1) := by decide +kernel
theorem dM_isRoom_2 : decode bM_isRoom 2 = .ok (.aload_n 0, 1) := by decide +kernel
theorem dM_isRoom_3 : decode bM_isRoom 3 = .ok (.getfield 89, 3) := by decide +kernel
theorem dM_isRoom_6 : decode bM_isRoom 6 = .ok (.iconst 1, 1) := by decide +kernel
theorem dM_isRoom_7 : decode bM_isRoom 7 = .ok (.isub, 1) := by decide +kernel
theorem dM_isRoom_8 : decode bM_isRoom 8 = .ok (.invokestatic 85, 3) := by decide +kernel
theorem dM_isRoom_11 : decode bM_isRoom 11 = .ok (.ireturn, 1) := by decide +kernel
theorem dM_floor_0 : decode bM_floor 0 = .ok (.lload_n 0, 1) := by decide +kernel
theorem dM_floor_1 : decode bM_floor 1 = .ok (.iload_n 2, 1) := by decide +kernel
theorem dM_floor_2 : decode bM_floor 2 = .ok (.i2l, 1) := by decide +kernel
theorem dM_floor_3 : decode bM_floor 3 = .ok (.ldiv, 1) := by decide +kernel
theorem dM_floor_4 : decode bM_floor 4 = .ok (.lstore_n 3, 1) := by decide +kernel
theorem dM_floor_5 : decode bM_floor 5 = .ok (.lload_n 3, 1) := by decide +kernel
theorem dM_floor_6 : decode bM_floor 6 = .ok (.iload_n 2, 1) := by decide +kernel
theorem dM_floor_7 : decode bM_floor 7 = .ok (.i2l, 1) := by decide +kernel
theorem dM_floor_8 : decode bM_floor 8 = .ok (.lmul, 1) := by decide +kernel
theorem dM_floor_9 : decode bM_floor 9 = .ok (.lload_n 0, 1) := by decide +kernel
theorem dM_floor_10 : decode bM_floor 10 = .ok (.lcmp, 1) := by decide +kernel
theorem dM_floor_11 : decode bM_floor 11 = .ok (.ifCond .le 9, 3) := by decide +kernel
theorem dM_floor_14 : decode bM_floor 14 = .ok (.lload_n 3, 1) := by decide +kernel
theorem dM_floor_15 : decode bM_floor 15 = .ok (.lconst 1, 1) := by decide +kernel
theorem dM_floor_16 : decode bM_floor 16 = .ok (.lsub, 1) := by decide +kernel
theorem dM_floor_17 : decode bM_floor 17 = .ok (.goto 4, 3) := by decide +kernel
theorem dM_floor_20 : decode bM_floor 20 = .ok (.lload_n 3, 1) := by decide +kernel
theorem dM_floor_21 : decode bM_floor 21 = .ok (.lreturn, 1) := by decide +kernel
theorem dM_room_0 : decode bM_room 0 = .ok (.aload_n 0, 1) := by decide +kernel
theorem dM_room_1 : decode bM_room 1 = .ok (.iload_n 1, 1) := by decide +kernel
theorem dM_room_2 : decode bM_room 2 = .ok (.iconst 1, 1) := by decide +kernel
theorem dM_room_3 : decode bM_room 3 = .ok (.sipush 10000, 3) := by decide +kernel
theorem dM_room_6 : decode bM_room 6 = .ok (.invokestatic 85, 3) := by decide +kernel
theorem dM_room_9 : decode bM_room 9 = .ok (.ifCond .eq 10, 3) := by decide +kernel
theorem dM_room_12 : decode bM_room 12 = .ok (.iload_n 2, 1) := by decide +kernel
theorem dM_room_13 : decode bM_room 13 = .ok (.invokestatic 92, 3) := by decide +kernel
theorem dM_room_16 : decode bM_room 16 = .ok (.ifCond .ne 7, 3) := by decide +kernel
theorem dM_room_19 : decode bM_room 19 = .ok (.iconst 1, 1) := by decide +kernel
theorem dM_room_20 : decode bM_room 20 = .ok (.goto 17, 3) := by decide +kernel
theorem dM_room_23 : decode bM_room 23 = .ok (.aload_n 0, 1) := by decide +kernel
theorem dM_room_24 : decode bM_room 24 = .ok (.getfield 89, 3) := by decide +kernel
theorem dM_room_27 : decode bM_room 27 = .ok (.bipush 8, 2) := by decide +kernel
theorem dM_room_29 : decode bM_room 29 = .ok (.if_icmp .ne 7, 3) := by decide +kernel
theorem dM_room_32 : decode bM_room 32 = .ok (.iconst 2, 1) := by decide +kernel
theorem dM_room_33 : decode bM_room 33 = .ok (.goto 4, 3) := by decide +kernel
theorem dM_room_36 : decode bM_room 36 = .ok (.iconst 0, 1) := by decide +kernel
theorem dM_room_37 : decode bM_room 37 = .ok (.putfield 82, 3) := by decide +kernel
theorem dM_room_40 : decode bM_room 40 = .ok (.aload_n 0, 1) := by decide +kernel
theorem dM_room_41 : decode bM_room 41 = .ok (.getfield 82, 3) := by decide +kernel
theorem dM_room_44 : decode bM_room 44 = .ok (.ifCond .le 5, 3) := by decide +kernel
theorem dM_room_47 : decode bM_room 47 = .ok (.iconst 0, 1) := by decide +kernel
theorem dM_room_48 : decode bM_room 48 = .ok (.ireturn, 1) := by decide +kernel
theorem dM_room_49 : decode bM_room 49 = .ok (.aload_n 0, 1) := by decide +kernel
theorem dM_room_50 : decode bM_room 50 = .ok (.getfield 7, 3) := by decide +kernel
theorem dM_room_53 : decode bM_room 53 = .ok (.aload_n 0, 1) := by decide +kernel
theorem dM_room_54 : decode bM_room 54 = .ok (.getfield 89, 3) := by decide +kernel
theorem dM_room_57 : decode bM_room 57 = .ok (.iload_n 1, 1) := by decide +kernel
theorem dM_room_58 : decode bM_room 58 = .ok (.iastore, 1) := by decide +kernel
theorem dM_room_59 : decode bM_room 59 = .ok (.aload_n 0, 1) := by decide +kernel
theorem dM_room_60 : decode bM_room 60 = .ok (.getfield 13, 3) := by decide +kernel
theorem dM_room_63 : decode bM_room 63 = .ok (.aload_n 0, 1) := by decide +kernel
theorem dM_room_64 : decode bM_room 64 = .ok (.getfield 89, 3) := by decide +kernel
theorem dM_room_67 : decode bM_room 67 = .ok (.iload_n 1, 1) := by decide +kernel
theorem dM_room_68 : decode bM_room 68 = .ok (.i2l, 1) := by decide +kernel
theorem dM_room_69 : decode bM_room 69 = .ok (.iload_n 2, 1) := by decide +kernel
theorem dM_room_70 : decode bM_room 70 = .ok (.i2l, 1) := by decide +kernel
theorem dM_room_71 : decode bM_room 71 = .ok (.lmul, 1) := by decide +kernel
theorem dM_room_72 : decode bM_room 72 = .ok (.lastore, 1) := by decide +kernel
theorem dM_room_73 : decode bM_room 73 = .ok (.aload_n 0, 1) := by decide +kernel
theorem dM_room_74 : decode bM_room 74 = .ok (.dup, 1) := by decide +kernel
theorem dM_room_75 : decode bM_room 75 = .ok (.getfield 96, 3) := by decide +kernel
theorem dM_room_78 : decode bM_room 78 = .ok (.aload_n 0, 1) := by decide +kernel
theorem dM_room_79 : decode bM_room 79 = .ok (.getfield 13, 3) := by decide +kernel
theorem dM_room_82 : decode bM_room 82 = .ok (.aload_n 0, 1) := by decide +kernel
theorem dM_room_83 : decode bM_room 83 = .ok (.getfield 89, 3) := by decide +kernel
theorem dM_room_86 : decode bM_room 86 = .ok (.laload, 1) := by decide +kernel
theorem dM_room_87 : decode bM_room 87 = .ok (.ladd, 1) := by decide +kernel
theorem dM_room_88 : decode bM_room 88 = .ok (.putfield 96, 3) := by decide +kernel
theorem dM_room_91 : decode bM_room 91 = .ok (.aload_n 0, 1) := by decide +kernel
theorem dM_room_92 : decode bM_room 92 = .ok (.dup, 1) := by decide +kernel
theorem dM_room_93 : decode bM_room 93 = .ok (.getfield 89, 3) := by decide +kernel
theorem dM_room_96 : decode bM_room 96 = .ok (.iconst 1, 1) := by decide +kernel
theorem dM_room_97 : decode bM_room 97 = .ok (.iadd, 1) := by decide +kernel
theorem dM_room_98 : decode bM_room 98 = .ok (.putfield 89, 3) := by decide +kernel
theorem dM_room_101 : decode bM_room 101 = .ok (.aload_n 0, 1) := by decide +kernel
theorem dM_room_102 : decode bM_room 102 = .ok (.getfield 89, 3) := by decide +kernel
theorem dM_room_105 : decode bM_room 105 = .ok (.iconst 1, 1) := by decide +kernel
theorem dM_room_106 : decode bM_room 106 = .ok (.isub, 1) := by decide +kernel
theorem dM_room_107 : decode bM_room 107 = .ok (.ireturn, 1) := by decide +kernel
theorem dM_isTooMuch_0 : decode bM_isTooMuch 0 = .ok (.iload_n 2, 1) := by decide +kernel
theorem dM_isTooMuch_1 : decode bM_isTooMuch 1 = .ok (.i2l, 1) := by decide +kernel
theorem dM_isTooMuch_2 : decode bM_isTooMuch 2 = .ok (.lstore_n 3, 1) := by decide +kernel
theorem dM_isTooMuch_3 : decode bM_isTooMuch 3 = .ok (.iconst 0, 1) := by decide +kernel
theorem dM_isTooMuch_4 : decode bM_isTooMuch 4 = .ok (.istore 5, 2) := by decide +kernel
theorem dM_isTooMuch_6 : decode bM_isTooMuch 6 = .ok (.iload 5, 2) := by decide +kernel
theorem dM_isTooMuch_8 : decode bM_isTooMuch 8 = .ok (.aload_n 0, 1) := by decide +kernel
theorem dM_isTooMuch_9 : decode bM_isTooMuch 9 = .ok (.getfield 100, 3) := by decide +kernel
theorem dM_isTooMuch_12 : decode bM_isTooMuch 12 = .ok (.if_icmp .ge 46, 3) := by decide +kernel
theorem dM_isTooMuch_15 : decode bM_isTooMuch 15 = .ok (.lload_n 3, 1) := by decide +kernel
theorem dM_isTooMuch_16 : decode bM_isTooMuch 16 = .ok (.aload_n 0, 1) := by decide +kernel
theorem dM_isTooMuch_17 : decode bM_isTooMuch 17 = .ok (.getfield 35, 3) := by decide +kernel
theorem dM_isTooMuch_20 : decode bM_isTooMuch 20 = .ok (.iload 5, 2) := by decide +kernel
theorem dM_isTooMuch_22 : decode bM_isTooMuch 22 = .ok (.iaload, 1) := by decide +kernel
theorem dM_isTooMuch_23 : decode bM_isTooMuch 23 = .ok (.iload_n 1, 1) := by decide +kernel
theorem dM_isTooMuch_24 : decode bM_isTooMuch 24 = .ok (.if_icmp .eq 14, 3) := by decide +kernel
theorem dM_isTooMuch_27 : decode bM_isTooMuch 27 = .ok (.aload_n 0, 1) := by decide +kernel
theorem dM_isTooMuch_28 : decode bM_isTooMuch 28 = .ok (.getfield 38, 3) := by decide +kernel
theorem dM_isTooMuch_31 : decode bM_isTooMuch 31 = .ok (.iload 5, 2) := by decide +kernel
theorem dM_isTooMuch_33 : decode bM_isTooMuch 33 = .ok (.iaload, 1) := by decide +kernel
theorem dM_isTooMuch_34 : decode bM_isTooMuch 34 = .ok (.iload_n 1, 1) := by decide +kernel
theorem dM_isTooMuch_35 : decode bM_isTooMuch 35 = .ok (.if_icmp .ne 14, 3) := by decide +kernel
theorem dM_isTooMuch_38 : decode bM_isTooMuch 38 = .ok (.aload_n 0, 1) := by decide +kernel
theorem dM_isTooMuch_39 : decode bM_isTooMuch 39 = .ok (.getfield 41, 3) := by decide +kernel
theorem dM_isTooMuch_42 : decode bM_isTooMuch 42 = .ok (.iload 5, 2) := by decide +kernel
theorem dM_isTooMuch_44 : decode bM_isTooMuch 44 = .ok (.iaload, 1) := by decide +kernel
theorem dM_isTooMuch_45 : decode bM_isTooMuch 45 = .ok (.i2l, 1) := by decide +kernel
theorem dM_isTooMuch_46 : decode bM_isTooMuch 46 = .ok (.goto 4, 3) := by decide +kernel
theorem dM_isTooMuch_49 : decode bM_isTooMuch 49 = .ok (.lconst 0, 1) := by decide +kernel
theorem dM_isTooMuch_50 : decode bM_isTooMuch 50 = .ok (.ladd, 1) := by decide +kernel
theorem dM_isTooMuch_51 : decode bM_isTooMuch 51 = .ok (.lstore_n 3, 1) := by decide +kernel
theorem dM_isTooMuch_52 : decode bM_isTooMuch 52 = .ok (.iinc 5 1, 3) := by decide +kernel
theorem dM_isTooMuch_55 : decode bM_isTooMuch 55 = .ok (.goto (-49), 3) := by decide +kernel
theorem dM_isTooMuch_58 : decode bM_isTooMuch 58 = .ok (.iload_n 1, 1) := by decide +kernel
theorem dM_isTooMuch_59 : decode bM_isTooMuch 59 = .ok (.ifCond .lt 23, 3) := by decide +kernel
theorem dM_isTooMuch_62 : decode bM_isTooMuch 62 = .ok (.lload_n 3, 1) := by decide +kernel
theorem dM_isTooMuch_63 : decode bM_isTooMuch 63 = .ok (.ldc2_w 103, 3) := by decide +kernel
theorem dM_isTooMuch_66 : decode bM_isTooMuch 66 = .ok (.aload_n 0, 1) := by decide +kernel
theorem dM_isTooMuch_67 : decode bM_isTooMuch 67 = .ok (.getfield 7, 3) := by decide +kernel
theorem dM_isTooMuch_70 : decode bM_isTooMuch 70 = .ok (.iload_n 1, 1) := by decide +kernel
theorem dM_isTooMuch_71 : decode bM_isTooMuch 71 = .ok (.iaload, 1) := by decide +kernel
theorem dM_isTooMuch_72 : decode bM_isTooMuch 72 = .ok (.i2l, 1) := by decide +kernel
theorem dM_isTooMuch_73 : decode bM_isTooMuch 73 = .ok (.lmul, 1) := by decide +kernel
theorem dM_isTooMuch_74 : decode bM_isTooMuch 74 = .ok (.lcmp, 1) := by decide +kernel
theorem dM_isTooMuch_75 : decode bM_isTooMuch 75 = .ok (.ifCond .le 7, 3) := by decide +kernel
theorem dM_isTooMuch_78 : decode bM_isTooMuch 78 = .ok (.iconst 1, 1) := by decide +kernel
theorem dM_isTooMuch_79 : decode bM_isTooMuch 79 = .ok (.goto 4, 3) := by decide +kernel
theorem dM_isTooMuch_82 : decode bM_isTooMuch 82 = .ok (.iconst 0, 1) := by decide +kernel
theorem dM_isTooMuch_83 : decode bM_isTooMuch 83 = .ok (.ireturn, 1) := by decide +kernel
theorem dM_wall_0 : decode bM_wall 0 = .ok (.aload_n 0, 1) := by decide +kernel
theorem dM_wall_1 : decode bM_wall 1 = .ok (.iload_n 1, 1) := by decide +kernel
theorem dM_wall_2 : decode bM_wall 2 = .ok (.invokevirtual 105, 3) := by decide +kernel
theorem dM_wall_5 : decode bM_wall 5 = .ok (.ifCond .eq 36, 3) := by decide +kernel
theorem dM_wall_8 : decode bM_wall 8 = .ok (.iload_n 2, 1) := by decide +kernel
theorem dM_wall_9 : decode bM_wall 9 = .ok (.iconst (-1), 1) := by decide +kernel
theorem dM_wall_10 : decode bM_wall 10 = .ok (.if_icmp .eq 11, 3) := by decide +kernel
theorem dM_wall_13 : decode bM_wall 13 = .ok (.aload_n 0, 1) := by decide +kernel
theorem dM_wall_14 : decode bM_wall 14 = .ok (.iload_n 2, 1) := by decide +kernel
theorem dM_wall_15 : decode bM_wall 15 = .ok (.invokevirtual 105, 3) := by decide +kernel
theorem dM_wall_18 : decode bM_wall 18 = .ok (.ifCond .eq 23, 3) := by decide +kernel
theorem dM_wall_21 : decode bM_wall 21 = .ok (.iload_n 2, 1) := by decide +kernel
theorem dM_wall_22 : decode bM_wall 22 = .ok (.iload_n 1, 1) := by decide +kernel
theorem dM_wall_23 : decode bM_wall 23 = .ok (.if_icmp .eq 18, 3) := by decide +kernel
theorem dM_wall_26 : decode bM_wall 26 = .ok (.iload_n 3, 1) := by decide +kernel
theorem dM_wall_27 : decode bM_wall 27 = .ok (.iconst 0, 1) := by decide +kernel
theorem dM_wall_28 : decode bM_wall 28 = .ok (.sipush 1000, 3) := by decide +kernel
theorem dM_wall_31 : decode bM_wall 31 = .ok (.invokestatic 85, 3) := by decide +kernel
theorem dM_wall_34 : decode bM_wall 34 = .ok (.ifCond .eq 7, 3) := by decide +kernel
theorem dM_wall_37 : decode bM_wall 37 = .ok (.iconst 1, 1) := by decide +kernel
theorem dM_wall_38 : decode bM_wall 38 = .ok (.goto 4, 3) := by decide +kernel
theorem dM_wall_41 : decode bM_wall 41 = .ok (.iconst 0, 1) := by decide +kernel
theorem dM_wall_42 : decode bM_wall 42 = .ok (.istore 4, 2) := by decide +kernel
theorem dM_wall_44 : decode bM_wall 44 = .ok (.aload_n 0, 1) := by decide +kernel
theorem dM_wall_45 : decode bM_wall 45 = .ok (.iload 4, 2) := by decide +kernel
theorem dM_wall_47 : decode bM_wall 47 = .ok (.ifCond .ne 7, 3) := by decide +kernel
theorem dM_wall_50 : decode bM_wall 50 = .ok (.iconst 1, 1) := by decide +kernel
theorem dM_wall_51 : decode bM_wall 51 = .ok (.goto 35, 3) := by decide +kernel
theorem dM_wall_54 : decode bM_wall 54 = .ok (.aload_n 0, 1) := by decide +kernel
theorem dM_wall_55 : decode bM_wall 55 = .ok (.getfield 100, 3) := by decide +kernel
theorem dM_wall_58 : decode bM_wall 58 = .ok (.bipush 20, 2) := by decide +kernel
theorem dM_wall_60 : decode bM_wall 60 = .ok (.if_icmp .eq 21, 3) := by decide +kernel
theorem dM_wall_63 : decode bM_wall 63 = .ok (.aload_n 0, 1) := by decide +kernel
theorem dM_wall_64 : decode bM_wall 64 = .ok (.iload_n 1, 1) := by decide +kernel
theorem dM_wall_65 : decode bM_wall 65 = .ok (.iload_n 3, 1) := by decide +kernel
theorem dM_wall_66 : decode bM_wall 66 = .ok (.invokevirtual 108, 3) := by decide +kernel
theorem dM_wall_69 : decode bM_wall 69 = .ok (.ifCond .ne 12, 3) := by decide +kernel
theorem dM_wall_72 : decode bM_wall 72 = .ok (.aload_n 0, 1) := by decide +kernel
theorem dM_wall_73 : decode bM_wall 73 = .ok (.iload_n 2, 1) := by decide +kernel
theorem dM_wall_74 : decode bM_wall 74 = .ok (.iload_n 3, 1) := by decide +kernel
theorem dM_wall_75 : decode bM_wall 75 = .ok (.invokevirtual 108, 3) := by decide +kernel
theorem dM_wall_78 : decode bM_wall 78 = .ok (.ifCond .eq 7, 3) := by decide +kernel
theorem dM_wall_81 : decode bM_wall 81 = .ok (.iconst 2, 1) := by decide +kernel
theorem dM_wall_82 : decode bM_wall 82 = .ok (.goto 4, 3) := by decide +kernel
theorem dM_wall_85 : decode bM_wall 85 = .ok (.iconst 0, 1) := by decide +kernel
theorem dM_wall_86 : decode bM_wall 86 = .ok (.putfield 82, 3) := by decide +kernel
theorem dM_wall_89 : decode bM_wall 89 = .ok (.aload_n 0, 1) := by decide +kernel
theorem dM_wall_90 : decode bM_wall 90 = .ok (.getfield 82, 3) := by decide +kernel
theorem dM_wall_93 : decode bM_wall 93 = .ok (.ifCond .le 5, 3) := by decide +kernel
theorem dM_wall_96 : decode bM_wall 96 = .ok (.iconst 0, 1) := by decide +kernel
theorem dM_wall_97 : decode bM_wall 97 = .ok (.ireturn, 1) := by decide +kernel
theorem dM_wall_98 : decode bM_wall 98 = .ok (.aload_n 0, 1) := by decide +kernel
theorem dM_wall_99 : decode bM_wall 99 = .ok (.getfield 35, 3) := by decide +kernel
theorem dM_wall_102 : decode bM_wall 102 = .ok (.aload_n 0, 1) := by decide +kernel
theorem dM_wall_103 : decode bM_wall 103 = .ok (.getfield 100, 3) := by decide +kernel
theorem dM_wall_106 : decode bM_wall 106 = .ok (.iload_n 1, 1) := by decide +kernel
theorem dM_wall_107 : decode bM_wall 107 = .ok (.iastore, 1) := by decide +kernel
theorem dM_wall_108 : decode bM_wall 108 = .ok (.aload_n 0, 1) := by decide +kernel
theorem dM_wall_109 : decode bM_wall 109 = .ok (.getfield 38, 3) := by decide +kernel
theorem dM_wall_112 : decode bM_wall 112 = .ok (.aload_n 0, 1) := by decide +kernel
theorem dM_wall_113 : decode bM_wall 113 = .ok (.getfield 100, 3) := by decide +kernel
theorem dM_wall_116 : decode bM_wall 116 = .ok (.iload_n 2, 1) := by decide +kernel
theorem dM_wall_117 : decode bM_wall 117 = .ok (.iastore, 1) := by decide +kernel
theorem dM_wall_118 : decode bM_wall 118 = .ok (.aload_n 0, 1) := by decide +kernel
theorem dM_wall_119 : decode bM_wall 119 = .ok (.getfield 41, 3) := by decide +kernel
theorem dM_wall_122 : decode bM_wall 122 = .ok (.aload_n 0, 1) := by decide +kernel
theorem dM_wall_123 : decode bM_wall 123 = .ok (.getfield 100, 3) := by decide +kernel
theorem dM_wall_126 : decode bM_wall 126 = .ok (.iload_n 3, 1) := by decide +kernel
theorem dM_wall_127 : decode bM_wall 127 = .ok (.iastore, 1) := by decide +kernel
theorem dM_wall_128 : decode bM_wall 128 = .ok (.aload_n 0, 1) := by decide +kernel
theorem dM_wall_129 : decode bM_wall 129 = .ok (.dup, 1) := by decide +kernel
theorem dM_wall_130 : decode bM_wall 130 = .ok (.getfield 100, 3) := by decide +kernel
theorem dM_wall_133 : decode bM_wall 133 = .ok (.iconst 1, 1) := by decide +kernel
theorem dM_wall_134 : decode bM_wall 134 = .ok (.iadd, 1) := by decide +kernel
theorem dM_wall_135 : decode bM_wall 135 = .ok (.putfield 100, 3) := by decide +kernel
theorem dM_wall_138 : decode bM_wall 138 = .ok (.aload_n 0, 1) := by decide +kernel
theorem dM_wall_139 : decode bM_wall 139 = .ok (.getfield 100, 3) := by decide +kernel
theorem dM_wall_142 : decode bM_wall 142 = .ok (.iconst 1, 1) := by decide +kernel
theorem dM_wall_143 : decode bM_wall 143 = .ok (.isub, 1) := by decide +kernel
theorem dM_wall_144 : decode bM_wall 144 = .ok (.ireturn, 1) := by decide +kernel
theorem dM_leads_0 : decode bM_leads 0 = .ok (.iload_n 1, 1) := by decide +kernel
theorem dM_leads_1 : decode bM_leads 1 = .ok (.iconst 0, 1) := by decide +kernel
theorem dM_leads_2 : decode bM_leads 2 = .ok (.aload_n 0, 1) := by decide +kernel
theorem dM_leads_3 : decode bM_leads 3 = .ok (.getfield 100, 3) := by decide +kernel
theorem dM_leads_6 : decode bM_leads 6 = .ok (.iconst 1, 1) := by decide +kernel
theorem dM_leads_7 : decode bM_leads 7 = .ok (.isub, 1) := by decide +kernel
theorem dM_leads_8 : decode bM_leads 8 = .ok (.invokestatic 85, 3) := by decide +kernel
theorem dM_leads_11 : decode bM_leads 11 = .ok (.ifCond .eq 18, 3) := by decide +kernel
theorem dM_leads_14 : decode bM_leads 14 = .ok (.iload_n 2, 1) := by decide +kernel
theorem dM_leads_15 : decode bM_leads 15 = .ok (.iconst 0, 1) := by decide +kernel
theorem dM_leads_16 : decode bM_leads 16 = .ok (.sipush 1000, 3) := by decide +kernel
theorem dM_leads_19 : decode bM_leads 19 = .ok (.invokestatic 85, 3) := by decide +kernel
theorem dM_leads_22 : decode bM_leads 22 = .ok (.ifCond .eq 7, 3) := by decide +kernel
theorem dM_leads_25 : decode bM_leads 25 = .ok (.iconst 1, 1) := by decide +kernel
theorem dM_leads_26 : decode bM_leads 26 = .ok (.goto 4, 3) := by decide +kernel
theorem dM_leads_29 : decode bM_leads 29 = .ok (.iconst 0, 1) := by decide +kernel
theorem dM_leads_30 : decode bM_leads 30 = .ok (.istore_n 3, 1) := by decide +kernel
theorem dM_leads_31 : decode bM_leads 31 = .ok (.aload_n 0, 1) := by decide +kernel
theorem dM_leads_32 : decode bM_leads 32 = .ok (.iload_n 3, 1) := by decide +kernel
theorem dM_leads_33 : decode bM_leads 33 = .ok (.ifCond .ne 7, 3) := by decide +kernel
theorem dM_leads_36 : decode bM_leads 36 = .ok (.iconst 1, 1) := by decide +kernel
theorem dM_leads_37 : decode bM_leads 37 = .ok (.goto 50, 3) := by decide +kernel
theorem dM_leads_40 : decode bM_leads 40 = .ok (.aload_n 0, 1) := by decide +kernel
theorem dM_leads_41 : decode bM_leads 41 = .ok (.aload_n 0, 1) := by decide +kernel
theorem dM_leads_42 : decode bM_leads 42 = .ok (.getfield 35, 3) := by decide +kernel
theorem dM_leads_45 : decode bM_leads 45 = .ok (.iload_n 1, 1) := by decide +kernel
theorem dM_leads_46 : decode bM_leads 46 = .ok (.iaload, 1) := by decide +kernel
theorem dM_leads_47 : decode bM_leads 47 = .ok (.iload_n 2, 1) := by decide +kernel
theorem dM_leads_48 : decode bM_leads 48 = .ok (.aload_n 0, 1) := by decide +kernel
theorem dM_leads_49 : decode bM_leads 49 = .ok (.getfield 41, 3) := by decide +kernel
theorem dM_leads_52 : decode bM_leads 52 = .ok (.iload_n 1, 1) := by decide +kernel
theorem dM_leads_53 : decode bM_leads 53 = .ok (.iaload, 1) := by decide +kernel
theorem dM_leads_54 : decode bM_leads 54 = .ok (.isub, 1) := by decide +kernel
theorem dM_leads_55 : decode bM_leads 55 = .ok (.invokevirtual 108, 3) := by decide +kernel
theorem dM_leads_58 : decode bM_leads 58 = .ok (.ifCond .ne 24, 3) := by decide +kernel
theorem dM_leads_61 : decode bM_leads 61 = .ok (.aload_n 0, 1) := by decide +kernel
theorem dM_leads_62 : decode bM_leads 62 = .ok (.aload_n 0, 1) := by decide +kernel
theorem dM_leads_63 : decode bM_leads 63 = .ok (.getfield 38, 3) := by decide +kernel
theorem dM_leads_66 : decode bM_leads 66 = .ok (.iload_n 1, 1) := by decide +kernel
theorem dM_leads_67 : decode bM_leads 67 = .ok (.iaload, 1) := by decide +kernel
theorem dM_leads_68 : decode bM_leads 68 = .ok (.iload_n 2, 1) := by decide +kernel
theorem dM_leads_69 : decode bM_leads 69 = .ok (.aload_n 0, 1) := by decide +kernel
theorem dM_leads_70 : decode bM_leads 70 = .ok (.getfield 41, 3) := by decide +kernel
theorem dM_leads_73 : decode bM_leads 73 = .ok (.iload_n 1, 1) := by decide +kernel
theorem dM_leads_74 : decode bM_leads 74 = .ok (.iaload, 1) := by decide +kernel
theorem dM_leads_75 : decode bM_leads 75 = .ok (.isub, 1) := by decide +kernel
theorem dM_leads_76 : decode bM_leads 76 = .ok (.invokevirtual 108, 3) := by decide +kernel
theorem dM_leads_79 : decode bM_leads 79 = .ok (.ifCond .eq 7, 3) := by decide +kernel
theorem dM_leads_82 : decode bM_leads 82 = .ok (.iconst 2, 1) := by decide +kernel
theorem dM_leads_83 : decode bM_leads 83 = .ok (.goto 4, 3) := by decide +kernel
theorem dM_leads_86 : decode bM_leads 86 = .ok (.iconst 0, 1) := by decide +kernel
theorem dM_leads_87 : decode bM_leads 87 = .ok (.putfield 82, 3) := by decide +kernel
theorem dM_leads_90 : decode bM_leads 90 = .ok (.aload_n 0, 1) := by decide +kernel
theorem dM_leads_91 : decode bM_leads 91 = .ok (.getfield 82, 3) := by decide +kernel
theorem dM_leads_94 : decode bM_leads 94 = .ok (.ifCond .le 5, 3) := by decide +kernel
theorem dM_leads_97 : decode bM_leads 97 = .ok (.iconst 0, 1) := by decide +kernel
theorem dM_leads_98 : decode bM_leads 98 = .ok (.ireturn, 1) := by decide +kernel
theorem dM_leads_99 : decode bM_leads 99 = .ok (.aload_n 0, 1) := by decide +kernel
theorem dM_leads_100 : decode bM_leads 100 = .ok (.getfield 41, 3) := by decide +kernel
theorem dM_leads_103 : decode bM_leads 103 = .ok (.iload_n 1, 1) := by decide +kernel
theorem dM_leads_104 : decode bM_leads 104 = .ok (.iaload, 1) := by decide +kernel
theorem dM_leads_105 : decode bM_leads 105 = .ok (.istore 4, 2) := by decide +kernel
theorem dM_leads_107 : decode bM_leads 107 = .ok (.aload_n 0, 1) := by decide +kernel
theorem dM_leads_108 : decode bM_leads 108 = .ok (.getfield 41, 3) := by decide +kernel
theorem dM_leads_111 : decode bM_leads 111 = .ok (.iload_n 1, 1) := by decide +kernel
theorem dM_leads_112 : decode bM_leads 112 = .ok (.iload_n 2, 1) := by decide +kernel
theorem dM_leads_113 : decode bM_leads 113 = .ok (.iastore, 1) := by decide +kernel
theorem dM_leads_114 : decode bM_leads 114 = .ok (.iload 4, 2) := by decide +kernel
theorem dM_leads_116 : decode bM_leads 116 = .ok (.ireturn, 1) := by decide +kernel
theorem dM_window_0 : decode bM_window 0 = .ok (.aload_n 0, 1) := by decide +kernel
theorem dM_window_1 : decode bM_window 1 = .ok (.iload_n 1, 1) := by decide +kernel
theorem dM_window_2 : decode bM_window 2 = .ok (.invokevirtual 105, 3) := by decide +kernel
theorem dM_window_5 : decode bM_window 5 = .ok (.ifCond .eq 34, 3) := by decide +kernel
theorem dM_window_8 : decode bM_window 8 = .ok (.iload_n 2, 1) := by decide +kernel
theorem dM_window_9 : decode bM_window 9 = .ok (.iconst 0, 1) := by decide +kernel
theorem dM_window_10 : decode bM_window 10 = .ok (.iconst 3, 1) := by decide +kernel
theorem dM_window_11 : decode bM_window 11 = .ok (.invokestatic 85, 3) := by decide +kernel
theorem dM_window_14 : decode bM_window 14 = .ok (.ifCond .eq 25, 3) := by decide +kernel
theorem dM_window_17 : decode bM_window 17 = .ok (.iload_n 3, 1) := by decide +kernel
theorem dM_window_18 : decode bM_window 18 = .ok (.iconst 0, 1) := by decide +kernel
theorem dM_window_19 : decode bM_window 19 = .ok (.bipush 100, 2) := by decide +kernel
theorem dM_window_21 : decode bM_window 21 = .ok (.invokestatic 85, 3) := by decide +kernel
theorem dM_window_24 : decode bM_window 24 = .ok (.ifCond .eq 15, 3) := by decide +kernel
theorem dM_window_27 : decode bM_window 27 = .ok (.iload 4, 2) := by decide +kernel
theorem dM_window_29 : decode bM_window 29 = .ok (.invokestatic 92, 3) := by decide +kernel
theorem dM_window_32 : decode bM_window 32 = .ok (.ifCond .eq 7, 3) := by decide +kernel
theorem dM_window_35 : decode bM_window 35 = .ok (.iconst 1, 1) := by decide +kernel
theorem dM_window_36 : decode bM_window 36 = .ok (.goto 4, 3) := by decide +kernel
theorem dM_window_39 : decode bM_window 39 = .ok (.iconst 0, 1) := by decide +kernel
theorem dM_window_40 : decode bM_window 40 = .ok (.istore 5, 2) := by decide +kernel
theorem dM_window_42 : decode bM_window 42 = .ok (.aload_n 0, 1) := by decide +kernel
theorem dM_window_43 : decode bM_window 43 = .ok (.iload 5, 2) := by decide +kernel
theorem dM_window_45 : decode bM_window 45 = .ok (.ifCond .ne 7, 3) := by decide +kernel
theorem dM_window_48 : decode bM_window 48 = .ok (.iconst 1, 1) := by decide +kernel
theorem dM_window_49 : decode bM_window 49 = .ok (.goto 17, 3) := by decide +kernel
theorem dM_window_52 : decode bM_window 52 = .ok (.aload_n 0, 1) := by decide +kernel
theorem dM_window_53 : decode bM_window 53 = .ok (.getfield 112, 3) := by decide +kernel
theorem dM_window_56 : decode bM_window 56 = .ok (.bipush 12, 2) := by decide +kernel
theorem dM_window_58 : decode bM_window 58 = .ok (.if_icmp .ne 7, 3) := by decide +kernel
theorem dM_window_61 : decode bM_window 61 = .ok (.iconst 2, 1) := by decide +kernel
theorem dM_window_62 : decode bM_window 62 = .ok (.goto 4, 3) := by decide +kernel
theorem dM_window_65 : decode bM_window 65 = .ok (.iconst 0, 1) := by decide +kernel
theorem dM_window_66 : decode bM_window 66 = .ok (.putfield 82, 3) := by decide +kernel
theorem dM_window_69 : decode bM_window 69 = .ok (.aload_n 0, 1) := by decide +kernel
theorem dM_window_70 : decode bM_window 70 = .ok (.getfield 82, 3) := by decide +kernel
theorem dM_window_73 : decode bM_window 73 = .ok (.ifCond .le 5, 3) := by decide +kernel
theorem dM_window_76 : decode bM_window 76 = .ok (.iconst 0, 1) := by decide +kernel
theorem dM_window_77 : decode bM_window 77 = .ok (.ireturn, 1) := by decide +kernel
theorem dM_window_78 : decode bM_window 78 = .ok (.aload_n 0, 1) := by decide +kernel
theorem dM_window_79 : decode bM_window 79 = .ok (.getfield 44, 3) := by decide +kernel
theorem dM_window_82 : decode bM_window 82 = .ok (.aload_n 0, 1) := by decide +kernel
theorem dM_window_83 : decode bM_window 83 = .ok (.getfield 112, 3) := by decide +kernel
theorem dM_window_86 : decode bM_window 86 = .ok (.iload_n 1, 1) := by decide +kernel
theorem dM_window_87 : decode bM_window 87 = .ok (.iastore, 1) := by decide +kernel
theorem dM_window_88 : decode bM_window 88 = .ok (.aload_n 0, 1) := by decide +kernel
theorem dM_window_89 : decode bM_window 89 = .ok (.getfield 47, 3) := by decide +kernel
theorem dM_window_92 : decode bM_window 92 = .ok (.aload_n 0, 1) := by decide +kernel
theorem dM_window_93 : decode bM_window 93 = .ok (.getfield 112, 3) := by decide +kernel
theorem dM_window_96 : decode bM_window 96 = .ok (.iload_n 2, 1) := by decide +kernel
theorem dM_window_97 : decode bM_window 97 = .ok (.iastore, 1) := by decide +kernel
theorem dM_window_98 : decode bM_window 98 = .ok (.aload_n 0, 1) := by decide +kernel
theorem dM_window_99 : decode bM_window 99 = .ok (.getfield 50, 3) := by decide +kernel
theorem dM_window_102 : decode bM_window 102 = .ok (.aload_n 0, 1) := by decide +kernel
theorem dM_window_103 : decode bM_window 103 = .ok (.getfield 112, 3) := by decide +kernel
theorem dM_window_106 : decode bM_window 106 = .ok (.iload_n 3, 1) := by decide +kernel
theorem dM_window_107 : decode bM_window 107 = .ok (.iastore, 1) := by decide +kernel
theorem dM_window_108 : decode bM_window 108 = .ok (.aload_n 0, 1) := by decide +kernel
theorem dM_window_109 : decode bM_window 109 = .ok (.getfield 53, 3) := by decide +kernel
theorem dM_window_112 : decode bM_window 112 = .ok (.aload_n 0, 1) := by decide +kernel
theorem dM_window_113 : decode bM_window 113 = .ok (.getfield 112, 3) := by decide +kernel
theorem dM_window_116 : decode bM_window 116 = .ok (.iload 4, 2) := by decide +kernel
theorem dM_window_118 : decode bM_window 118 = .ok (.iastore, 1) := by decide +kernel
theorem dM_window_119 : decode bM_window 119 = .ok (.aload_n 0, 1) := by decide +kernel
theorem dM_window_120 : decode bM_window 120 = .ok (.dup, 1) := by decide +kernel
theorem dM_window_121 : decode bM_window 121 = .ok (.getfield 112, 3) := by decide +kernel
theorem dM_window_124 : decode bM_window 124 = .ok (.iconst 1, 1) := by decide +kernel
theorem dM_window_125 : decode bM_window 125 = .ok (.iadd, 1) := by decide +kernel
theorem dM_window_126 : decode bM_window 126 = .ok (.putfield 112, 3) := by decide +kernel
theorem dM_window_129 : decode bM_window 129 = .ok (.aload_n 0, 1) := by decide +kernel
theorem dM_window_130 : decode bM_window 130 = .ok (.getfield 112, 3) := by decide +kernel
theorem dM_window_133 : decode bM_window 133 = .ok (.iconst 1, 1) := by decide +kernel
theorem dM_window_134 : decode bM_window 134 = .ok (.isub, 1) := by decide +kernel
theorem dM_window_135 : decode bM_window 135 = .ok (.ireturn, 1) := by decide +kernel
theorem dM_outside_0 : decode bM_outside 0 = .ok (.aload_n 0, 1) := by decide +kernel
theorem dM_outside_1 : decode bM_outside 1 = .ok (.iload_n 1, 1) := by decide +kernel
theorem dM_outside_2 : decode bM_outside 2 = .ok (.iconst 0, 1) := by decide +kernel
theorem dM_outside_3 : decode bM_outside 3 = .ok (.bipush 23, 2) := by decide +kernel
theorem dM_outside_5 : decode bM_outside 5 = .ok (.invokestatic 85, 3) := by decide +kernel
theorem dM_outside_8 : decode bM_outside 8 = .ok (.ifCond .eq 14, 3) := by decide +kernel
theorem dM_outside_11 : decode bM_outside 11 = .ok (.iload_n 2, 1) := by decide +kernel
theorem dM_outside_12 : decode bM_outside 12 = .ok (.invokestatic 92, 3) := by decide +kernel
theorem dM_outside_15 : decode bM_outside 15 = .ok (.ifCond .eq 7, 3) := by decide +kernel
theorem dM_outside_18 : decode bM_outside 18 = .ok (.iconst 0, 1) := by decide +kernel
theorem dM_outside_19 : decode bM_outside 19 = .ok (.goto 4, 3) := by decide +kernel
end
section
theorem dM_outside_22 : decode bM_outside 22 = .ok (.iconst 1, 1) := by decide +kernel
theorem dM_outside_23 : decode bM_outside 23 = .ok (.putfield 82, 3) := by decide +kernel
theorem dM_outside_26 : decode bM_outside 26 = .ok (.aload_n 0, 1) := by decide +kernel
theorem dM_outside_27 : decode bM_outside 27 = .ok (.getfield 82, 3) := by decide +kernel
theorem dM_outside_30 : decode bM_outside 30 = .ok (.ifCond .le 5, 3) := by decide +kernel
theorem dM_outside_33 : decode bM_outside 33 = .ok (.iconst 0, 1) := by decide +kernel
theorem dM_outside_34 : decode bM_outside 34 = .ok (.ireturn, 1) := by decide +kernel
theorem dM_outside_35 : decode bM_outside 35 = .ok (.aload_n 0, 1) := by decide +kernel
theorem dM_outside_36 : decode bM_outside 36 = .ok (.getfield 56, 3) := by decide +kernel
theorem dM_outside_39 : decode bM_outside 39 = .ok (.iload_n 1, 1) := by decide +kernel
theorem dM_outside_40 : decode bM_outside 40 = .ok (.iaload, 1) := by decide +kernel
theorem dM_outside_41 : decode bM_outside 41 = .ok (.istore_n 3, 1) := by decide +kernel
theorem dM_outside_42 : decode bM_outside 42 = .ok (.aload_n 0, 1) := by decide +kernel
theorem dM_outside_43 : decode bM_outside 43 = .ok (.getfield 56, 3) := by decide +kernel
theorem dM_outside_46 : decode bM_outside 46 = .ok (.iload_n 1, 1) := by decide +kernel
theorem dM_outside_47 : decode bM_outside 47 = .ok (.iload_n 2, 1) := by decide +kernel
theorem dM_outside_48 : decode bM_outside 48 = .ok (.iastore, 1) := by decide +kernel
theorem dM_outside_49 : decode bM_outside 49 = .ok (.iload_n 3, 1) := by decide +kernel
theorem dM_outside_50 : decode bM_outside 50 = .ok (.ireturn, 1) := by decide +kernel
theorem dM_sun_0 : decode bM_sun 0 = .ok (.aload_n 0, 1) := by decide +kernel
theorem dM_sun_1 : decode bM_sun 1 = .ok (.iload_n 1, 1) := by decide +kernel
theorem dM_sun_2 : decode bM_sun 2 = .ok (.iconst 0, 1) := by decide +kernel
theorem dM_sun_3 : decode bM_sun 3 = .ok (.iconst 3, 1) := by decide +kernel
theorem dM_sun_4 : decode bM_sun 4 = .ok (.invokestatic 85, 3) := by decide +kernel
theorem dM_sun_7 : decode bM_sun 7 = .ok (.ifCond .eq 28, 3) := by decide +kernel
theorem dM_sun_10 : decode bM_sun 10 = .ok (.iload_n 2, 1) := by decide +kernel
theorem dM_sun_11 : decode bM_sun 11 = .ok (.iconst 0, 1) := by decide +kernel
theorem dM_sun_12 : decode bM_sun 12 = .ok (.bipush 23, 2) := by decide +kernel
theorem dM_sun_14 : decode bM_sun 14 = .ok (.invokestatic 85, 3) := by decide +kernel
theorem dM_sun_17 : decode bM_sun 17 = .ok (.ifCond .eq 18, 3) := by decide +kernel
theorem dM_sun_20 : decode bM_sun 20 = .ok (.iload_n 3, 1) := by decide +kernel
theorem dM_sun_21 : decode bM_sun 21 = .ok (.iconst 0, 1) := by decide +kernel
theorem dM_sun_22 : decode bM_sun 22 = .ok (.sipush 1000, 3) := by decide +kernel
theorem dM_sun_25 : decode bM_sun 25 = .ok (.invokestatic 85, 3) := by decide +kernel
theorem dM_sun_28 : decode bM_sun 28 = .ok (.ifCond .eq 7, 3) := by decide +kernel
theorem dM_sun_31 : decode bM_sun 31 = .ok (.iconst 0, 1) := by decide +kernel
theorem dM_sun_32 : decode bM_sun 32 = .ok (.goto 4, 3) := by decide +kernel
theorem dM_sun_35 : decode bM_sun 35 = .ok (.iconst 1, 1) := by decide +kernel
theorem dM_sun_36 : decode bM_sun 36 = .ok (.putfield 82, 3) := by decide +kernel
theorem dM_sun_39 : decode bM_sun 39 = .ok (.aload_n 0, 1) := by decide +kernel
theorem dM_sun_40 : decode bM_sun 40 = .ok (.getfield 82, 3) := by decide +kernel
theorem dM_sun_43 : decode bM_sun 43 = .ok (.ifCond .le 5, 3) := by decide +kernel
theorem dM_sun_46 : decode bM_sun 46 = .ok (.iconst 0, 1) := by decide +kernel
theorem dM_sun_47 : decode bM_sun 47 = .ok (.ireturn, 1) := by decide +kernel
theorem dM_sun_48 : decode bM_sun 48 = .ok (.aload_n 0, 1) := by decide +kernel
theorem dM_sun_49 : decode bM_sun 49 = .ok (.getfield 59, 3) := by decide +kernel
theorem dM_sun_52 : decode bM_sun 52 = .ok (.bipush 24, 2) := by decide +kernel
theorem dM_sun_54 : decode bM_sun 54 = .ok (.iload_n 1, 1) := by decide +kernel
theorem dM_sun_55 : decode bM_sun 55 = .ok (.imul, 1) := by decide +kernel
theorem dM_sun_56 : decode bM_sun 56 = .ok (.iload_n 2, 1) := by decide +kernel
theorem dM_sun_57 : decode bM_sun 57 = .ok (.iadd, 1) := by decide +kernel
theorem dM_sun_58 : decode bM_sun 58 = .ok (.iaload, 1) := by decide +kernel
theorem dM_sun_59 : decode bM_sun 59 = .ok (.istore 4, 2) := by decide +kernel
theorem dM_sun_61 : decode bM_sun 61 = .ok (.aload_n 0, 1) := by decide +kernel
theorem dM_sun_62 : decode bM_sun 62 = .ok (.getfield 59, 3) := by decide +kernel
theorem dM_sun_65 : decode bM_sun 65 = .ok (.bipush 24, 2) := by decide +kernel
theorem dM_sun_67 : decode bM_sun 67 = .ok (.iload_n 1, 1) := by decide +kernel
theorem dM_sun_68 : decode bM_sun 68 = .ok (.imul, 1) := by decide +kernel
theorem dM_sun_69 : decode bM_sun 69 = .ok (.iload_n 2, 1) := by decide +kernel
theorem dM_sun_70 : decode bM_sun 70 = .ok (.iadd, 1) := by decide +kernel
theorem dM_sun_71 : decode bM_sun 71 = .ok (.iload_n 3, 1) := by decide +kernel
theorem dM_sun_72 : decode bM_sun 72 = .ok (.iastore, 1) := by decide +kernel
theorem dM_sun_73 : decode bM_sun 73 = .ok (.iload 4, 2) := by decide +kernel
theorem dM_sun_75 : decode bM_sun 75 = .ok (.ireturn, 1) := by decide +kernel
theorem dM_plan_0 : decode bM_plan 0 = .ok (.aload_n 0, 1) := by decide +kernel
theorem dM_plan_1 : decode bM_plan 1 = .ok (.iload_n 1, 1) := by decide +kernel
theorem dM_plan_2 : decode bM_plan 2 = .ok (.invokevirtual 105, 3) := by decide +kernel
theorem dM_plan_5 : decode bM_plan 5 = .ok (.ifCond .eq 57, 3) := by decide +kernel
theorem dM_plan_8 : decode bM_plan 8 = .ok (.iload_n 2, 1) := by decide +kernel
theorem dM_plan_9 : decode bM_plan 9 = .ok (.iconst 0, 1) := by decide +kernel
theorem dM_plan_10 : decode bM_plan 10 = .ok (.bipush 23, 2) := by decide +kernel
theorem dM_plan_12 : decode bM_plan 12 = .ok (.invokestatic 85, 3) := by decide +kernel
theorem dM_plan_15 : decode bM_plan 15 = .ok (.ifCond .eq 47, 3) := by decide +kernel
theorem dM_plan_18 : decode bM_plan 18 = .ok (.iload_n 3, 1) := by decide +kernel
theorem dM_plan_19 : decode bM_plan 19 = .ok (.ifCond .ne 14, 3) := by decide +kernel
theorem dM_plan_22 : decode bM_plan 22 = .ok (.iload 4, 2) := by decide +kernel
theorem dM_plan_24 : decode bM_plan 24 = .ok (.iconst 0, 1) := by decide +kernel
theorem dM_plan_25 : decode bM_plan 25 = .ok (.bipush 100, 2) := by decide +kernel
theorem dM_plan_27 : decode bM_plan 27 = .ok (.invokestatic 85, 3) := by decide +kernel
theorem dM_plan_30 : decode bM_plan 30 = .ok (.ifCond .ne 28, 3) := by decide +kernel
theorem dM_plan_33 : decode bM_plan 33 = .ok (.iload_n 3, 1) := by decide +kernel
theorem dM_plan_34 : decode bM_plan 34 = .ok (.iconst 1, 1) := by decide +kernel
theorem dM_plan_35 : decode bM_plan 35 = .ok (.if_icmp .eq 8, 3) := by decide +kernel
theorem dM_plan_38 : decode bM_plan 38 = .ok (.iload_n 3, 1) := by decide +kernel
theorem dM_plan_39 : decode bM_plan 39 = .ok (.iconst 2, 1) := by decide +kernel
theorem dM_plan_40 : decode bM_plan 40 = .ok (.if_icmp .ne 22, 3) := by decide +kernel
theorem dM_plan_43 : decode bM_plan 43 = .ok (.iload 4, 2) := by decide +kernel
theorem dM_plan_45 : decode bM_plan 45 = .ok (.ldc 81, 2) := by decide +kernel
theorem dM_plan_47 : decode bM_plan 47 = .ok (.if_icmp .eq 11, 3) := by decide +kernel
theorem dM_plan_50 : decode bM_plan 50 = .ok (.iload 4, 2) := by decide +kernel
theorem dM_plan_52 : decode bM_plan 52 = .ok (.invokestatic 92, 3) := by decide +kernel
theorem dM_plan_55 : decode bM_plan 55 = .ok (.ifCond .eq 7, 3) := by decide +kernel
theorem dM_plan_58 : decode bM_plan 58 = .ok (.iconst 1, 1) := by decide +kernel
theorem dM_plan_59 : decode bM_plan 59 = .ok (.goto 4, 3) := by decide +kernel
theorem dM_plan_62 : decode bM_plan 62 = .ok (.iconst 0, 1) := by decide +kernel
theorem dM_plan_63 : decode bM_plan 63 = .ok (.istore 5, 2) := by decide +kernel
theorem dM_plan_65 : decode bM_plan 65 = .ok (.aload_n 0, 1) := by decide +kernel
theorem dM_plan_66 : decode bM_plan 66 = .ok (.iload 5, 2) := by decide +kernel
theorem dM_plan_68 : decode bM_plan 68 = .ok (.ifCond .eq 7, 3) := by decide +kernel
theorem dM_plan_71 : decode bM_plan 71 = .ok (.iconst 0, 1) := by decide +kernel
theorem dM_plan_72 : decode bM_plan 72 = .ok (.goto 4, 3) := by decide +kernel
theorem dM_plan_75 : decode bM_plan 75 = .ok (.iconst 1, 1) := by decide +kernel
theorem dM_plan_76 : decode bM_plan 76 = .ok (.putfield 82, 3) := by decide +kernel
theorem dM_plan_79 : decode bM_plan 79 = .ok (.aload_n 0, 1) := by decide +kernel
theorem dM_plan_80 : decode bM_plan 80 = .ok (.getfield 82, 3) := by decide +kernel
theorem dM_plan_83 : decode bM_plan 83 = .ok (.ifCond .le 5, 3) := by decide +kernel
theorem dM_plan_86 : decode bM_plan 86 = .ok (.iconst 0, 1) := by decide +kernel
theorem dM_plan_87 : decode bM_plan 87 = .ok (.ireturn, 1) := by decide +kernel
theorem dM_plan_88 : decode bM_plan 88 = .ok (.bipush 24, 2) := by decide +kernel
theorem dM_plan_90 : decode bM_plan 90 = .ok (.iload_n 1, 1) := by decide +kernel
theorem dM_plan_91 : decode bM_plan 91 = .ok (.imul, 1) := by decide +kernel
theorem dM_plan_92 : decode bM_plan 92 = .ok (.iload_n 2, 1) := by decide +kernel
theorem dM_plan_93 : decode bM_plan 93 = .ok (.iadd, 1) := by decide +kernel
theorem dM_plan_94 : decode bM_plan 94 = .ok (.istore 6, 2) := by decide +kernel
theorem dM_plan_96 : decode bM_plan 96 = .ok (.iload_n 3, 1) := by decide +kernel
theorem dM_plan_97 : decode bM_plan 97 = .ok (.ifCond .ne 13, 3) := by decide +kernel
theorem dM_plan_100 : decode bM_plan 100 = .ok (.aload_n 0, 1) := by decide +kernel
theorem dM_plan_101 : decode bM_plan 101 = .ok (.getfield 62, 3) := by decide +kernel
theorem dM_plan_104 : decode bM_plan 104 = .ok (.iload 6, 2) := by decide +kernel
theorem dM_plan_106 : decode bM_plan 106 = .ok (.iaload, 1) := by decide +kernel
theorem dM_plan_107 : decode bM_plan 107 = .ok (.goto 25, 3) := by decide +kernel
theorem dM_plan_110 : decode bM_plan 110 = .ok (.iload_n 3, 1) := by decide +kernel
theorem dM_plan_111 : decode bM_plan 111 = .ok (.iconst 1, 1) := by decide +kernel
theorem dM_plan_112 : decode bM_plan 112 = .ok (.if_icmp .ne 13, 3) := by decide +kernel
theorem dM_plan_115 : decode bM_plan 115 = .ok (.aload_n 0, 1) := by decide +kernel
theorem dM_plan_116 : decode bM_plan 116 = .ok (.getfield 65, 3) := by decide +kernel
theorem dM_plan_119 : decode bM_plan 119 = .ok (.iload 6, 2) := by decide +kernel
theorem dM_plan_121 : decode bM_plan 121 = .ok (.iaload, 1) := by decide +kernel
theorem dM_plan_122 : decode bM_plan 122 = .ok (.goto 10, 3) := by decide +kernel
theorem dM_plan_125 : decode bM_plan 125 = .ok (.aload_n 0, 1) := by decide +kernel
theorem dM_plan_126 : decode bM_plan 126 = .ok (.getfield 68, 3) := by decide +kernel
theorem dM_plan_129 : decode bM_plan 129 = .ok (.iload 6, 2) := by decide +kernel
theorem dM_plan_131 : decode bM_plan 131 = .ok (.iaload, 1) := by decide +kernel
theorem dM_plan_132 : decode bM_plan 132 = .ok (.istore 7, 2) := by decide +kernel
theorem dM_plan_134 : decode bM_plan 134 = .ok (.aload_n 0, 1) := by decide +kernel
theorem dM_plan_135 : decode bM_plan 135 = .ok (.getfield 62, 3) := by decide +kernel
theorem dM_plan_138 : decode bM_plan 138 = .ok (.iload 6, 2) := by decide +kernel
theorem dM_plan_140 : decode bM_plan 140 = .ok (.iload_n 3, 1) := by decide +kernel
theorem dM_plan_141 : decode bM_plan 141 = .ok (.ifCond .ne 8, 3) := by decide +kernel
theorem dM_plan_144 : decode bM_plan 144 = .ok (.iload 4, 2) := by decide +kernel
theorem dM_plan_146 : decode bM_plan 146 = .ok (.goto 10, 3) := by decide +kernel
theorem dM_plan_149 : decode bM_plan 149 = .ok (.aload_n 0, 1) := by decide +kernel
theorem dM_plan_150 : decode bM_plan 150 = .ok (.getfield 62, 3) := by decide +kernel
theorem dM_plan_153 : decode bM_plan 153 = .ok (.iload 6, 2) := by decide +kernel
theorem dM_plan_155 : decode bM_plan 155 = .ok (.iaload, 1) := by decide +kernel
theorem dM_plan_156 : decode bM_plan 156 = .ok (.iastore, 1) := by decide +kernel
theorem dM_plan_157 : decode bM_plan 157 = .ok (.aload_n 0, 1) := by decide +kernel
theorem dM_plan_158 : decode bM_plan 158 = .ok (.getfield 65, 3) := by decide +kernel
theorem dM_plan_161 : decode bM_plan 161 = .ok (.iload 6, 2) := by decide +kernel
theorem dM_plan_163 : decode bM_plan 163 = .ok (.iload_n 3, 1) := by decide +kernel
theorem dM_plan_164 : decode bM_plan 164 = .ok (.iconst 1, 1) := by decide +kernel
theorem dM_plan_165 : decode bM_plan 165 = .ok (.if_icmp .ne 8, 3) := by decide +kernel
theorem dM_plan_168 : decode bM_plan 168 = .ok (.iload 4, 2) := by decide +kernel
theorem dM_plan_170 : decode bM_plan 170 = .ok (.goto 10, 3) := by decide +kernel
theorem dM_plan_173 : decode bM_plan 173 = .ok (.aload_n 0, 1) := by decide +kernel
theorem dM_plan_174 : decode bM_plan 174 = .ok (.getfield 65, 3) := by decide +kernel
theorem dM_plan_177 : decode bM_plan 177 = .ok (.iload 6, 2) := by decide +kernel
theorem dM_plan_179 : decode bM_plan 179 = .ok (.iaload, 1) := by decide +kernel
theorem dM_plan_180 : decode bM_plan 180 = .ok (.iastore, 1) := by decide +kernel
theorem dM_plan_181 : decode bM_plan 181 = .ok (.aload_n 0, 1) := by decide +kernel
theorem dM_plan_182 : decode bM_plan 182 = .ok (.getfield 68, 3) := by decide +kernel
theorem dM_plan_185 : decode bM_plan 185 = .ok (.iload 6, 2) := by decide +kernel
theorem dM_plan_187 : decode bM_plan 187 = .ok (.iload_n 3, 1) := by decide +kernel
theorem dM_plan_188 : decode bM_plan 188 = .ok (.iconst 2, 1) := by decide +kernel
theorem dM_plan_189 : decode bM_plan 189 = .ok (.if_icmp .ne 8, 3) := by decide +kernel
theorem dM_plan_192 : decode bM_plan 192 = .ok (.iload 4, 2) := by decide +kernel
theorem dM_plan_194 : decode bM_plan 194 = .ok (.goto 10, 3) := by decide +kernel
theorem dM_plan_197 : decode bM_plan 197 = .ok (.aload_n 0, 1) := by decide +kernel
theorem dM_plan_198 : decode bM_plan 198 = .ok (.getfield 68, 3) := by decide +kernel
theorem dM_plan_201 : decode bM_plan 201 = .ok (.iload 6, 2) := by decide +kernel
theorem dM_plan_203 : decode bM_plan 203 = .ok (.iaload, 1) := by decide +kernel
theorem dM_plan_204 : decode bM_plan 204 = .ok (.iastore, 1) := by decide +kernel
theorem dM_plan_205 : decode bM_plan 205 = .ok (.iload 7, 2) := by decide +kernel
theorem dM_plan_207 : decode bM_plan 207 = .ok (.ireturn, 1) := by decide +kernel
theorem dM_most_0 : decode bM_most 0 = .ok (.aload_n 0, 1) := by decide +kernel
theorem dM_most_1 : decode bM_most 1 = .ok (.aload_n 0, 1) := by decide +kernel
theorem dM_most_2 : decode bM_most 2 = .ok (.iload_n 1, 1) := by decide +kernel
theorem dM_most_3 : decode bM_most 3 = .ok (.invokevirtual 105, 3) := by decide +kernel
theorem dM_most_6 : decode bM_most 6 = .ok (.ifCond .eq 26, 3) := by decide +kernel
theorem dM_most_9 : decode bM_most 9 = .ok (.iload_n 2, 1) := by decide +kernel
theorem dM_most_10 : decode bM_most 10 = .ok (.iconst 0, 1) := by decide +kernel
theorem dM_most_11 : decode bM_most 11 = .ok (.iconst 1, 1) := by decide +kernel
theorem dM_most_12 : decode bM_most 12 = .ok (.invokestatic 85, 3) := by decide +kernel
theorem dM_most_15 : decode bM_most 15 = .ok (.ifCond .eq 17, 3) := by decide +kernel
theorem dM_most_18 : decode bM_most 18 = .ok (.iload_n 3, 1) := by decide +kernel
theorem dM_most_19 : decode bM_most 19 = .ok (.iconst 0, 1) := by decide +kernel
theorem dM_most_20 : decode bM_most 20 = .ok (.ldc 115, 2) := by decide +kernel
theorem dM_most_22 : decode bM_most 22 = .ok (.invokestatic 85, 3) := by decide +kernel
theorem dM_most_25 : decode bM_most 25 = .ok (.ifCond .eq 7, 3) := by decide +kernel
theorem dM_most_28 : decode bM_most 28 = .ok (.iconst 0, 1) := by decide +kernel
theorem dM_most_29 : decode bM_most 29 = .ok (.goto 4, 3) := by decide +kernel
theorem dM_most_32 : decode bM_most 32 = .ok (.iconst 1, 1) := by decide +kernel
theorem dM_most_33 : decode bM_most 33 = .ok (.putfield 82, 3) := by decide +kernel
theorem dM_most_36 : decode bM_most 36 = .ok (.aload_n 0, 1) := by decide +kernel
theorem dM_most_37 : decode bM_most 37 = .ok (.getfield 82, 3) := by decide +kernel
theorem dM_most_40 : decode bM_most 40 = .ok (.ifCond .le 5, 3) := by decide +kernel
theorem dM_most_43 : decode bM_most 43 = .ok (.iconst 0, 1) := by decide +kernel
theorem dM_most_44 : decode bM_most 44 = .ok (.ireturn, 1) := by decide +kernel
theorem dM_most_45 : decode bM_most 45 = .ok (.iload_n 2, 1) := by decide +kernel
theorem dM_most_46 : decode bM_most 46 = .ok (.ifCond .ne 12, 3) := by decide +kernel
theorem dM_most_49 : decode bM_most 49 = .ok (.aload_n 0, 1) := by decide +kernel
theorem dM_most_50 : decode bM_most 50 = .ok (.getfield 29, 3) := by decide +kernel
theorem dM_most_53 : decode bM_most 53 = .ok (.iload_n 1, 1) := by decide +kernel
theorem dM_most_54 : decode bM_most 54 = .ok (.iaload, 1) := by decide +kernel
theorem dM_most_55 : decode bM_most 55 = .ok (.goto 9, 3) := by decide +kernel
theorem dM_most_58 : decode bM_most 58 = .ok (.aload_n 0, 1) := by decide +kernel
theorem dM_most_59 : decode bM_most 59 = .ok (.getfield 32, 3) := by decide +kernel
theorem dM_most_62 : decode bM_most 62 = .ok (.iload_n 1, 1) := by decide +kernel
theorem dM_most_63 : decode bM_most 63 = .ok (.iaload, 1) := by decide +kernel
theorem dM_most_64 : decode bM_most 64 = .ok (.istore 4, 2) := by decide +kernel
theorem dM_most_66 : decode bM_most 66 = .ok (.aload_n 0, 1) := by decide +kernel
theorem dM_most_67 : decode bM_most 67 = .ok (.getfield 29, 3) := by decide +kernel
theorem dM_most_70 : decode bM_most 70 = .ok (.iload_n 1, 1) := by decide +kernel
theorem dM_most_71 : decode bM_most 71 = .ok (.iload_n 2, 1) := by decide +kernel
theorem dM_most_72 : decode bM_most 72 = .ok (.ifCond .ne 7, 3) := by decide +kernel
theorem dM_most_75 : decode bM_most 75 = .ok (.iload_n 3, 1) := by decide +kernel
theorem dM_most_76 : decode bM_most 76 = .ok (.goto 9, 3) := by decide +kernel
theorem dM_most_79 : decode bM_most 79 = .ok (.aload_n 0, 1) := by decide +kernel
theorem dM_most_80 : decode bM_most 80 = .ok (.getfield 29, 3) := by decide +kernel
theorem dM_most_83 : decode bM_most 83 = .ok (.iload_n 1, 1) := by decide +kernel
theorem dM_most_84 : decode bM_most 84 = .ok (.iaload, 1) := by decide +kernel
theorem dM_most_85 : decode bM_most 85 = .ok (.iastore, 1) := by decide +kernel
theorem dM_most_86 : decode bM_most 86 = .ok (.aload_n 0, 1) := by decide +kernel
theorem dM_most_87 : decode bM_most 87 = .ok (.getfield 32, 3) := by decide +kernel
theorem dM_most_90 : decode bM_most 90 = .ok (.iload_n 1, 1) := by decide +kernel
theorem dM_most_91 : decode bM_most 91 = .ok (.iload_n 2, 1) := by decide +kernel
theorem dM_most_92 : decode bM_most 92 = .ok (.iconst 1, 1) := by decide +kernel
theorem dM_most_93 : decode bM_most 93 = .ok (.if_icmp .ne 7, 3) := by decide +kernel
theorem dM_most_96 : decode bM_most 96 = .ok (.iload_n 3, 1) := by decide +kernel
theorem dM_most_97 : decode bM_most 97 = .ok (.goto 9, 3) := by decide +kernel
theorem dM_most_100 : decode bM_most 100 = .ok (.aload_n 0, 1) := by decide +kernel
theorem dM_most_101 : decode bM_most 101 = .ok (.getfield 32, 3) := by decide +kernel
theorem dM_most_104 : decode bM_most 104 = .ok (.iload_n 1, 1) := by decide +kernel
theorem dM_most_105 : decode bM_most 105 = .ok (.iaload, 1) := by decide +kernel
theorem dM_most_106 : decode bM_most 106 = .ok (.iastore, 1) := by decide +kernel
theorem dM_most_107 : decode bM_most 107 = .ok (.iload 4, 2) := by decide +kernel
theorem dM_most_109 : decode bM_most 109 = .ok (.ireturn, 1) := by decide +kernel
theorem dM_ease_0 : decode bM_ease 0 = .ok (.aload_n 0, 1) := by decide +kernel
theorem dM_ease_1 : decode bM_ease 1 = .ok (.iload_n 1, 1) := by decide +kernel
theorem dM_ease_2 : decode bM_ease 2 = .ok (.invokestatic 92, 3) := by decide +kernel
theorem dM_ease_5 : decode bM_ease 5 = .ok (.ifCond .eq 19, 3) := by decide +kernel
theorem dM_ease_8 : decode bM_ease 8 = .ok (.iload_n 2, 1) := by decide +kernel
theorem dM_ease_9 : decode bM_ease 9 = .ok (.invokestatic 92, 3) := by decide +kernel
theorem dM_ease_12 : decode bM_ease 12 = .ok (.ifCond .eq 12, 3) := by decide +kernel
theorem dM_ease_15 : decode bM_ease 15 = .ok (.iload_n 1, 1) := by decide +kernel
theorem dM_ease_16 : decode bM_ease 16 = .ok (.iload_n 2, 1) := by decide +kernel
theorem dM_ease_17 : decode bM_ease 17 = .ok (.if_icmp .gt 7, 3) := by decide +kernel
theorem dM_ease_20 : decode bM_ease 20 = .ok (.iconst 0, 1) := by decide +kernel
theorem dM_ease_21 : decode bM_ease 21 = .ok (.goto 4, 3) := by decide +kernel
theorem dM_ease_24 : decode bM_ease 24 = .ok (.iconst 1, 1) := by decide +kernel
theorem dM_ease_25 : decode bM_ease 25 = .ok (.putfield 82, 3) := by decide +kernel
theorem dM_ease_28 : decode bM_ease 28 = .ok (.aload_n 0, 1) := by decide +kernel
theorem dM_ease_29 : decode bM_ease 29 = .ok (.getfield 82, 3) := by decide +kernel
theorem dM_ease_32 : decode bM_ease 32 = .ok (.ifCond .ne 13, 3) := by decide +kernel
theorem dM_ease_35 : decode bM_ease 35 = .ok (.aload_n 0, 1) := by decide +kernel
theorem dM_ease_36 : decode bM_ease 36 = .ok (.iload_n 1, 1) := by decide +kernel
theorem dM_ease_37 : decode bM_ease 37 = .ok (.putfield 116, 3) := by decide +kernel
theorem dM_ease_40 : decode bM_ease 40 = .ok (.aload_n 0, 1) := by decide +kernel
theorem dM_ease_41 : decode bM_ease 41 = .ok (.iload_n 2, 1) := by decide +kernel
theorem dM_ease_42 : decode bM_ease 42 = .ok (.putfield 119, 3) := by decide +kernel
theorem dM_ease_45 : decode bM_ease 45 = .ok (.return_, 1) := by decide +kernel
theorem dM_warmthOf_0 : decode bM_warmthOf 0 = .ok (.aload_n 0, 1) := by decide +kernel
theorem dM_warmthOf_1 : decode bM_warmthOf 1 = .ok (.getfield 13, 3) := by decide +kernel
theorem dM_warmthOf_4 : decode bM_warmthOf 4 = .ok (.iload_n 1, 1) := by decide +kernel
theorem dM_warmthOf_5 : decode bM_warmthOf 5 = .ok (.laload, 1) := by decide +kernel
theorem dM_warmthOf_6 : decode bM_warmthOf 6 = .ok (.aload_n 0, 1) := by decide +kernel
theorem dM_warmthOf_7 : decode bM_warmthOf 7 = .ok (.getfield 7, 3) := by decide +kernel
theorem dM_warmthOf_10 : decode bM_warmthOf 10 = .ok (.iload_n 1, 1) := by decide +kernel
theorem dM_warmthOf_11 : decode bM_warmthOf 11 = .ok (.iaload, 1) := by decide +kernel
theorem dM_warmthOf_12 : decode bM_warmthOf 12 = .ok (.invokestatic 122, 3) := by decide +kernel
theorem dM_warmthOf_15 : decode bM_warmthOf 15 = .ok (.lreturn, 1) := by decide +kernel
theorem dM_flows_0 : decode bM_flows 0 = .ok (.iconst 0, 1) := by decide +kernel
theorem dM_flows_1 : decode bM_flows 1 = .ok (.istore_n 2, 1) := by decide +kernel
theorem dM_flows_2 : decode bM_flows 2 = .ok (.iload_n 2, 1) := by decide +kernel
theorem dM_flows_3 : decode bM_flows 3 = .ok (.aload_n 0, 1) := by decide +kernel
theorem dM_flows_4 : decode bM_flows 4 = .ok (.getfield 89, 3) := by decide +kernel
theorem dM_flows_7 : decode bM_flows 7 = .ok (.if_icmp .ge 20, 3) := by decide +kernel
theorem dM_flows_10 : decode bM_flows 10 = .ok (.aload_n 0, 1) := by decide +kernel
theorem dM_flows_11 : decode bM_flows 11 = .ok (.getfield 71, 3) := by decide +kernel
theorem dM_flows_14 : decode bM_flows 14 = .ok (.iload_n 2, 1) := by decide +kernel
theorem dM_flows_15 : decode bM_flows 15 = .ok (.aload_n 0, 1) := by decide +kernel
theorem dM_flows_16 : decode bM_flows 16 = .ok (.iload_n 2, 1) := by decide +kernel
theorem dM_flows_17 : decode bM_flows 17 = .ok (.invokevirtual 126, 3) := by decide +kernel
theorem dM_flows_20 : decode bM_flows 20 = .ok (.lastore, 1) := by decide +kernel
theorem dM_flows_21 : decode bM_flows 21 = .ok (.iinc 2 1, 3) := by decide +kernel
theorem dM_flows_24 : decode bM_flows 24 = .ok (.goto (-22), 3) := by decide +kernel
theorem dM_flows_27 : decode bM_flows 27 = .ok (.iconst 0, 1) := by decide +kernel
theorem dM_flows_28 : decode bM_flows 28 = .ok (.istore_n 2, 1) := by decide +kernel
theorem dM_flows_29 : decode bM_flows 29 = .ok (.iload_n 2, 1) := by decide +kernel
theorem dM_flows_30 : decode bM_flows 30 = .ok (.aload_n 0, 1) := by decide +kernel
theorem dM_flows_31 : decode bM_flows 31 = .ok (.getfield 100, 3) := by decide +kernel
theorem dM_flows_34 : decode bM_flows 34 = .ok (.if_icmp .ge 109, 3) := by decide +kernel
theorem dM_flows_37 : decode bM_flows 37 = .ok (.aload_n 0, 1) := by decide +kernel
theorem dM_flows_38 : decode bM_flows 38 = .ok (.getfield 35, 3) := by decide +kernel
theorem dM_flows_41 : decode bM_flows 41 = .ok (.iload_n 2, 1) := by decide +kernel
theorem dM_flows_42 : decode bM_flows 42 = .ok (.iaload, 1) := by decide +kernel
theorem dM_flows_43 : decode bM_flows 43 = .ok (.istore_n 3, 1) := by decide +kernel
theorem dM_flows_44 : decode bM_flows 44 = .ok (.aload_n 0, 1) := by decide +kernel
theorem dM_flows_45 : decode bM_flows 45 = .ok (.getfield 38, 3) := by decide +kernel
theorem dM_flows_48 : decode bM_flows 48 = .ok (.iload_n 2, 1) := by decide +kernel
theorem dM_flows_49 : decode bM_flows 49 = .ok (.iaload, 1) := by decide +kernel
theorem dM_flows_50 : decode bM_flows 50 = .ok (.istore 4, 2) := by decide +kernel
theorem dM_flows_52 : decode bM_flows 52 = .ok (.aload_n 0, 1) := by decide +kernel
theorem dM_flows_53 : decode bM_flows 53 = .ok (.getfield 71, 3) := by decide +kernel
theorem dM_flows_56 : decode bM_flows 56 = .ok (.iload_n 3, 1) := by decide +kernel
theorem dM_flows_57 : decode bM_flows 57 = .ok (.laload, 1) := by decide +kernel
theorem dM_flows_58 : decode bM_flows 58 = .ok (.iload 4, 2) := by decide +kernel
theorem dM_flows_60 : decode bM_flows 60 = .ok (.ifCond .ge 13, 3) := by decide +kernel
theorem dM_flows_63 : decode bM_flows 63 = .ok (.aload_n 0, 1) := by decide +kernel
theorem dM_flows_64 : decode bM_flows 64 = .ok (.getfield 56, 3) := by decide +kernel
theorem dM_flows_67 : decode bM_flows 67 = .ok (.iload_n 1, 1) := by decide +kernel
theorem dM_flows_68 : decode bM_flows 68 = .ok (.iaload, 1) := by decide +kernel
theorem dM_flows_69 : decode bM_flows 69 = .ok (.i2l, 1) := by decide +kernel
theorem dM_flows_70 : decode bM_flows 70 = .ok (.goto 10, 3) := by decide +kernel
theorem dM_flows_73 : decode bM_flows 73 = .ok (.aload_n 0, 1) := by decide +kernel
theorem dM_flows_74 : decode bM_flows 74 = .ok (.getfield 71, 3) := by decide +kernel
theorem dM_flows_77 : decode bM_flows 77 = .ok (.iload 4, 2) := by decide +kernel
theorem dM_flows_79 : decode bM_flows 79 = .ok (.laload, 1) := by decide +kernel
theorem dM_flows_80 : decode bM_flows 80 = .ok (.lsub, 1) := by decide +kernel
theorem dM_flows_81 : decode bM_flows 81 = .ok (.aload_n 0, 1) := by decide +kernel
theorem dM_flows_82 : decode bM_flows 82 = .ok (.getfield 41, 3) := by decide +kernel
theorem dM_flows_85 : decode bM_flows 85 = .ok (.iload_n 2, 1) := by decide +kernel
theorem dM_flows_86 : decode bM_flows 86 = .ok (.iaload, 1) := by decide +kernel
theorem dM_flows_87 : decode bM_flows 87 = .ok (.i2l, 1) := by decide +kernel
theorem dM_flows_88 : decode bM_flows 88 = .ok (.lmul, 1) := by decide +kernel
theorem dM_flows_89 : decode bM_flows 89 = .ok (.ldc2_w 103, 3) := by decide +kernel
theorem dM_flows_92 : decode bM_flows 92 = .ok (.ldiv, 1) := by decide +kernel
theorem dM_flows_93 : decode bM_flows 93 = .ok (.lstore 5, 2) := by decide +kernel
theorem dM_flows_95 : decode bM_flows 95 = .ok (.aload_n 0, 1) := by decide +kernel
theorem dM_flows_96 : decode bM_flows 96 = .ok (.getfield 13, 3) := by decide +kernel
theorem dM_flows_99 : decode bM_flows 99 = .ok (.iload_n 3, 1) := by decide +kernel
theorem dM_flows_100 : decode bM_flows 100 = .ok (.dup2, 1) := by decide +kernel
theorem dM_flows_101 : decode bM_flows 101 = .ok (.laload, 1) := by decide +kernel
theorem dM_flows_102 : decode bM_flows 102 = .ok (.lload 5, 2) := by decide +kernel
theorem dM_flows_104 : decode bM_flows 104 = .ok (.lsub, 1) := by decide +kernel
theorem dM_flows_105 : decode bM_flows 105 = .ok (.lastore, 1) := by decide +kernel
theorem dM_flows_106 : decode bM_flows 106 = .ok (.iload 4, 2) := by decide +kernel
theorem dM_flows_108 : decode bM_flows 108 = .ok (.ifCond .ge 17, 3) := by decide +kernel
theorem dM_flows_111 : decode bM_flows 111 = .ok (.aload_n 0, 1) := by decide +kernel
theorem dM_flows_112 : decode bM_flows 112 = .ok (.dup, 1) := by decide +kernel
theorem dM_flows_113 : decode bM_flows 113 = .ok (.getfield 130, 3) := by decide +kernel
theorem dM_flows_116 : decode bM_flows 116 = .ok (.lload 5, 2) := by decide +kernel
theorem dM_flows_118 : decode bM_flows 118 = .ok (.ladd, 1) := by decide +kernel
theorem dM_flows_119 : decode bM_flows 119 = .ok (.putfield 130, 3) := by decide +kernel
theorem dM_flows_122 : decode bM_flows 122 = .ok (.goto 15, 3) := by decide +kernel
theorem dM_flows_125 : decode bM_flows 125 = .ok (.aload_n 0, 1) := by decide +kernel
theorem dM_flows_126 : decode bM_flows 126 = .ok (.getfield 13, 3) := by decide +kernel
theorem dM_flows_129 : decode bM_flows 129 = .ok (.iload 4, 2) := by decide +kernel
theorem dM_flows_131 : decode bM_flows 131 = .ok (.dup2, 1) := by decide +kernel
theorem dM_flows_132 : decode bM_flows 132 = .ok (.laload, 1) := by decide +kernel
theorem dM_flows_133 : decode bM_flows 133 = .ok (.lload 5, 2) := by decide +kernel
theorem dM_flows_135 : decode bM_flows 135 = .ok (.ladd, 1) := by decide +kernel
theorem dM_flows_136 : decode bM_flows 136 = .ok (.lastore, 1) := by decide +kernel
theorem dM_flows_137 : decode bM_flows 137 = .ok (.iinc 2 1, 3) := by decide +kernel
theorem dM_flows_140 : decode bM_flows 140 = .ok (.goto (-111), 3) := by decide +kernel
theorem dM_flows_143 : decode bM_flows 143 = .ok (.iconst 0, 1) := by decide +kernel
theorem dM_flows_144 : decode bM_flows 144 = .ok (.istore_n 2, 1) := by decide +kernel
theorem dM_flows_145 : decode bM_flows 145 = .ok (.iload_n 2, 1) := by decide +kernel
theorem dM_flows_146 : decode bM_flows 146 = .ok (.aload_n 0, 1) := by decide +kernel
theorem dM_flows_147 : decode bM_flows 147 = .ok (.getfield 112, 3) := by decide +kernel
theorem dM_flows_150 : decode bM_flows 150 = .ok (.if_icmp .ge 96, 3) := by decide +kernel
theorem dM_flows_153 : decode bM_flows 153 = .ok (.aload_n 0, 1) := by decide +kernel
theorem dM_flows_154 : decode bM_flows 154 = .ok (.getfield 44, 3) := by decide +kernel
theorem dM_flows_157 : decode bM_flows 157 = .ok (.iload_n 2, 1) := by decide +kernel
theorem dM_flows_158 : decode bM_flows 158 = .ok (.iaload, 1) := by decide +kernel
theorem dM_flows_159 : decode bM_flows 159 = .ok (.istore_n 3, 1) := by decide +kernel
theorem dM_flows_160 : decode bM_flows 160 = .ok (.aload_n 0, 1) := by decide +kernel
theorem dM_flows_161 : decode bM_flows 161 = .ok (.getfield 50, 3) := by decide +kernel
theorem dM_flows_164 : decode bM_flows 164 = .ok (.iload_n 2, 1) := by decide +kernel
theorem dM_flows_165 : decode bM_flows 165 = .ok (.iaload, 1) := by decide +kernel
theorem dM_flows_166 : decode bM_flows 166 = .ok (.aload_n 0, 1) := by decide +kernel
theorem dM_flows_167 : decode bM_flows 167 = .ok (.getfield 59, 3) := by decide +kernel
theorem dM_flows_170 : decode bM_flows 170 = .ok (.bipush 24, 2) := by decide +kernel
theorem dM_flows_172 : decode bM_flows 172 = .ok (.aload_n 0, 1) := by decide +kernel
theorem dM_flows_173 : decode bM_flows 173 = .ok (.getfield 47, 3) := by decide +kernel
theorem dM_flows_176 : decode bM_flows 176 = .ok (.iload_n 2, 1) := by decide +kernel
theorem dM_flows_177 : decode bM_flows 177 = .ok (.iaload, 1) := by decide +kernel
theorem dM_flows_178 : decode bM_flows 178 = .ok (.imul, 1) := by decide +kernel
theorem dM_flows_179 : decode bM_flows 179 = .ok (.iload_n 1, 1) := by decide +kernel
theorem dM_flows_180 : decode bM_flows 180 = .ok (.iadd, 1) := by decide +kernel
theorem dM_flows_181 : decode bM_flows 181 = .ok (.iaload, 1) := by decide +kernel
theorem dM_flows_182 : decode bM_flows 182 = .ok (.imul, 1) := by decide +kernel
theorem dM_flows_183 : decode bM_flows 183 = .ok (.bipush 10, 2) := by decide +kernel
theorem dM_flows_185 : decode bM_flows 185 = .ok (.idiv, 1) := by decide +kernel
theorem dM_flows_186 : decode bM_flows 186 = .ok (.istore 4, 2) := by decide +kernel
theorem dM_flows_188 : decode bM_flows 188 = .ok (.aload_n 0, 1) := by decide +kernel
theorem dM_flows_189 : decode bM_flows 189 = .ok (.getfield 71, 3) := by decide +kernel
theorem dM_flows_192 : decode bM_flows 192 = .ok (.iload_n 3, 1) := by decide +kernel
theorem dM_flows_193 : decode bM_flows 193 = .ok (.laload, 1) := by decide +kernel
theorem dM_flows_194 : decode bM_flows 194 = .ok (.aload_n 0, 1) := by decide +kernel
theorem dM_flows_195 : decode bM_flows 195 = .ok (.getfield 53, 3) := by decide +kernel
theorem dM_flows_198 : decode bM_flows 198 = .ok (.iload_n 2, 1) := by decide +kernel
theorem dM_flows_199 : decode bM_flows 199 = .ok (.iaload, 1) := by decide +kernel
theorem dM_flows_200 : decode bM_flows 200 = .ok (.i2l, 1) := by decide +kernel
theorem dM_flows_201 : decode bM_flows 201 = .ok (.lcmp, 1) := by decide +kernel
theorem dM_flows_202 : decode bM_flows 202 = .ok (.ifCond .le 10, 3) := by decide +kernel
theorem dM_flows_205 : decode bM_flows 205 = .ok (.iload 4, 2) := by decide +kernel
theorem dM_flows_207 : decode bM_flows 207 = .ok (.iconst 4, 1) := by decide +kernel
theorem dM_flows_208 : decode bM_flows 208 = .ok (.idiv, 1) := by decide +kernel
theorem dM_flows_209 : decode bM_flows 209 = .ok (.goto 5, 3) := by decide +kernel
theorem dM_flows_212 : decode bM_flows 212 = .ok (.iload 4, 2) := by decide +kernel
theorem dM_flows_214 : decode bM_flows 214 = .ok (.istore 4, 2) := by decide +kernel
theorem dM_flows_216 : decode bM_flows 216 = .ok (.aload_n 0, 1) := by decide +kernel
theorem dM_flows_217 : decode bM_flows 217 = .ok (.getfield 13, 3) := by decide +kernel
theorem dM_flows_220 : decode bM_flows 220 = .ok (.iload_n 3, 1) := by decide +kernel
theorem dM_flows_221 : decode bM_flows 221 = .ok (.dup2, 1) := by decide +kernel
theorem dM_flows_222 : decode bM_flows 222 = .ok (.laload, 1) := by decide +kernel
theorem dM_flows_223 : decode bM_flows 223 = .ok (.iload 4, 2) := by decide +kernel
theorem dM_flows_225 : decode bM_flows 225 = .ok (.i2l, 1) := by decide +kernel
theorem dM_flows_226 : decode bM_flows 226 = .ok (.ladd, 1) := by decide +kernel
theorem dM_flows_227 : decode bM_flows 227 = .ok (.lastore, 1) := by decide +kernel
theorem dM_flows_228 : decode bM_flows 228 = .ok (.aload_n 0, 1) := by decide +kernel
theorem dM_flows_229 : decode bM_flows 229 = .ok (.dup, 1) := by decide +kernel
theorem dM_flows_230 : decode bM_flows 230 = .ok (.getfield 133, 3) := by decide +kernel
theorem dM_flows_233 : decode bM_flows 233 = .ok (.iload 4, 2) := by decide +kernel
theorem dM_flows_235 : decode bM_flows 235 = .ok (.i2l, 1) := by decide +kernel
theorem dM_flows_236 : decode bM_flows 236 = .ok (.ladd, 1) := by decide +kernel
theorem dM_flows_237 : decode bM_flows 237 = .ok (.putfield 133, 3) := by decide +kernel
theorem dM_flows_240 : decode bM_flows 240 = .ok (.iinc 2 1, 3) := by decide +kernel
theorem dM_flows_243 : decode bM_flows 243 = .ok (.goto (-98), 3) := by decide +kernel
theorem dM_flows_246 : decode bM_flows 246 = .ok (.iconst 0, 1) := by decide +kernel
theorem dM_flows_247 : decode bM_flows 247 = .ok (.istore_n 2, 1) := by decide +kernel
theorem dM_flows_248 : decode bM_flows 248 = .ok (.iload_n 2, 1) := by decide +kernel
theorem dM_flows_249 : decode bM_flows 249 = .ok (.aload_n 0, 1) := by decide +kernel
theorem dM_flows_250 : decode bM_flows 250 = .ok (.getfield 89, 3) := by decide +kernel
theorem dM_flows_253 : decode bM_flows 253 = .ok (.if_icmp .ge 59, 3) := by decide +kernel
theorem dM_flows_256 : decode bM_flows 256 = .ok (.aload_n 0, 1) := by decide +kernel
theorem dM_flows_257 : decode bM_flows 257 = .ok (.getfield 13, 3) := by decide +kernel
theorem dM_flows_260 : decode bM_flows 260 = .ok (.iload_n 2, 1) := by decide +kernel
theorem dM_flows_261 : decode bM_flows 261 = .ok (.dup2, 1) := by decide +kernel
theorem dM_flows_262 : decode bM_flows 262 = .ok (.laload, 1) := by decide +kernel
theorem dM_flows_263 : decode bM_flows 263 = .ok (.ldc2_w 103, 3) := by decide +kernel
theorem dM_flows_266 : decode bM_flows 266 = .ok (.aload_n 0, 1) := by decide +kernel
theorem dM_flows_267 : decode bM_flows 267 = .ok (.getfield 62, 3) := by decide +kernel
theorem dM_flows_270 : decode bM_flows 270 = .ok (.bipush 24, 2) := by decide +kernel
theorem dM_flows_272 : decode bM_flows 272 = .ok (.iload_n 2, 1) := by decide +kernel
theorem dM_flows_273 : decode bM_flows 273 = .ok (.imul, 1) := by decide +kernel
theorem dM_flows_274 : decode bM_flows 274 = .ok (.iload_n 1, 1) := by decide +kernel
theorem dM_flows_275 : decode bM_flows 275 = .ok (.iadd, 1) := by decide +kernel
theorem dM_flows_276 : decode bM_flows 276 = .ok (.iaload, 1) := by decide +kernel
theorem dM_flows_277 : decode bM_flows 277 = .ok (.i2l, 1) := by decide +kernel
theorem dM_flows_278 : decode bM_flows 278 = .ok (.lmul, 1) := by decide +kernel
theorem dM_flows_279 : decode bM_flows 279 = .ok (.ladd, 1) := by decide +kernel
theorem dM_flows_280 : decode bM_flows 280 = .ok (.lastore, 1) := by decide +kernel
theorem dM_flows_281 : decode bM_flows 281 = .ok (.aload_n 0, 1) := by decide +kernel
theorem dM_flows_282 : decode bM_flows 282 = .ok (.dup, 1) := by decide +kernel
theorem dM_flows_283 : decode bM_flows 283 = .ok (.getfield 136, 3) := by decide +kernel
theorem dM_flows_286 : decode bM_flows 286 = .ok (.ldc2_w 103, 3) := by decide +kernel
theorem dM_flows_289 : decode bM_flows 289 = .ok (.aload_n 0, 1) := by decide +kernel
theorem dM_flows_290 : decode bM_flows 290 = .ok (.getfield 62, 3) := by decide +kernel
theorem dM_flows_293 : decode bM_flows 293 = .ok (.bipush 24, 2) := by decide +kernel
theorem dM_flows_295 : decode bM_flows 295 = .ok (.iload_n 2, 1) := by decide +kernel
theorem dM_flows_296 : decode bM_flows 296 = .ok (.imul, 1) := by decide +kernel
theorem dM_flows_297 : decode bM_flows 297 = .ok (.iload_n 1, 1) := by decide +kernel
theorem dM_flows_298 : decode bM_flows 298 = .ok (.iadd, 1) := by decide +kernel
theorem dM_flows_299 : decode bM_flows 299 = .ok (.iaload, 1) := by decide +kernel
theorem dM_flows_300 : decode bM_flows 300 = .ok (.i2l, 1) := by decide +kernel
theorem dM_flows_301 : decode bM_flows 301 = .ok (.lmul, 1) := by decide +kernel
theorem dM_flows_302 : decode bM_flows 302 = .ok (.ladd, 1) := by decide +kernel
theorem dM_flows_303 : decode bM_flows 303 = .ok (.putfield 136, 3) := by decide +kernel
theorem dM_flows_306 : decode bM_flows 306 = .ok (.iinc 2 1, 3) := by decide +kernel
theorem dM_flows_309 : decode bM_flows 309 = .ok (.goto (-61), 3) := by decide +kernel
theorem dM_flows_312 : decode bM_flows 312 = .ok (.return_, 1) := by decide +kernel
theorem dM_step_0 : decode bM_step 0 = .ok (.aload_n 0, 1) := by decide +kernel
theorem dM_step_1 : decode bM_step 1 = .ok (.getfield 139, 3) := by decide +kernel
theorem dM_step_4 : decode bM_step 4 = .ok (.iconst 4, 1) := by decide +kernel
theorem dM_step_5 : decode bM_step 5 = .ok (.idiv, 1) := by decide +kernel
theorem dM_step_6 : decode bM_step 6 = .ok (.bipush 24, 2) := by decide +kernel
theorem dM_step_8 : decode bM_step 8 = .ok (.irem, 1) := by decide +kernel
theorem dM_step_9 : decode bM_step 9 = .ok (.istore_n 1, 1) := by decide +kernel
theorem dM_step_10 : decode bM_step 10 = .ok (.aload_n 0, 1) := by decide +kernel
theorem dM_step_11 : decode bM_step 11 = .ok (.iload_n 1, 1) := by decide +kernel
theorem dM_step_12 : decode bM_step 12 = .ok (.invokevirtual 142, 3) := by decide +kernel
theorem dM_step_15 : decode bM_step 15 = .ok (.iconst 0, 1) := by decide +kernel
theorem dM_step_16 : decode bM_step 16 = .ok (.istore_n 2, 1) := by decide +kernel
theorem dM_step_17 : decode bM_step 17 = .ok (.iload_n 2, 1) := by decide +kernel
theorem dM_step_18 : decode bM_step 18 = .ok (.aload_n 0, 1) := by decide +kernel
theorem dM_step_19 : decode bM_step 19 = .ok (.getfield 89, 3) := by decide +kernel
theorem dM_step_22 : decode bM_step 22 = .ok (.if_icmp .ge 269, 3) := by decide +kernel
theorem dM_step_25 : decode bM_step 25 = .ok (.iload_n 2, 1) := by decide +kernel
theorem dM_step_26 : decode bM_step 26 = .ok (.aload_n 0, 1) := by decide +kernel
theorem dM_step_27 : decode bM_step 27 = .ok (.getfield 74, 3) := by decide +kernel
theorem dM_step_30 : decode bM_step 30 = .ok (.if_icmp .ne 21, 3) := by decide +kernel
theorem dM_step_33 : decode bM_step 33 = .ok (.aload_n 0, 1) := by decide +kernel
theorem dM_step_34 : decode bM_step 34 = .ok (.getfield 139, 3) := by decide +kernel
theorem dM_step_37 : decode bM_step 37 = .ok (.aload_n 0, 1) := by decide +kernel
theorem dM_step_38 : decode bM_step 38 = .ok (.getfield 146, 3) := by decide +kernel
theorem dM_step_41 : decode bM_step 41 = .ok (.if_icmp .lt 10, 3) := by decide +kernel
theorem dM_step_44 : decode bM_step 44 = .ok (.aload_n 0, 1) := by decide +kernel
theorem dM_step_45 : decode bM_step 45 = .ok (.getfield 149, 3) := by decide +kernel
theorem dM_step_48 : decode bM_step 48 = .ok (.goto 14, 3) := by decide +kernel
theorem dM_step_51 : decode bM_step 51 = .ok (.aload_n 0, 1) := by decide +kernel
theorem dM_step_52 : decode bM_step 52 = .ok (.getfield 65, 3) := by decide +kernel
theorem dM_step_55 : decode bM_step 55 = .ok (.bipush 24, 2) := by decide +kernel
theorem dM_step_57 : decode bM_step 57 = .ok (.iload_n 2, 1) := by decide +kernel
theorem dM_step_58 : decode bM_step 58 = .ok (.imul, 1) := by decide +kernel
theorem dM_step_59 : decode bM_step 59 = .ok (.iload_n 1, 1) := by decide +kernel
theorem dM_step_60 : decode bM_step 60 = .ok (.iadd, 1) := by decide +kernel
theorem dM_step_61 : decode bM_step 61 = .ok (.iaload, 1) := by decide +kernel
theorem dM_step_62 : decode bM_step 62 = .ok (.istore_n 3, 1) := by decide +kernel
theorem dM_step_63 : decode bM_step 63 = .ok (.iload_n 3, 1) := by decide +kernel
theorem dM_step_64 : decode bM_step 64 = .ok (.ldc 81, 2) := by decide +kernel
theorem dM_step_66 : decode bM_step 66 = .ok (.if_icmp .ne 7, 3) := by decide +kernel
theorem dM_step_69 : decode bM_step 69 = .ok (.lconst 0, 1) := by decide +kernel
theorem dM_step_70 : decode bM_step 70 = .ok (.goto 20, 3) := by decide +kernel
theorem dM_step_73 : decode bM_step 73 = .ok (.aload_n 0, 1) := by decide +kernel
theorem dM_step_74 : decode bM_step 74 = .ok (.getfield 7, 3) := by decide +kernel
theorem dM_step_77 : decode bM_step 77 = .ok (.iload_n 2, 1) := by decide +kernel
theorem dM_step_78 : decode bM_step 78 = .ok (.iaload, 1) := by decide +kernel
theorem dM_step_79 : decode bM_step 79 = .ok (.i2l, 1) := by decide +kernel
theorem dM_step_80 : decode bM_step 80 = .ok (.iload_n 3, 1) := by decide +kernel
theorem dM_step_81 : decode bM_step 81 = .ok (.i2l, 1) := by decide +kernel
theorem dM_step_82 : decode bM_step 82 = .ok (.lmul, 1) := by decide +kernel
theorem dM_step_83 : decode bM_step 83 = .ok (.aload_n 0, 1) := by decide +kernel
theorem dM_step_84 : decode bM_step 84 = .ok (.getfield 13, 3) := by decide +kernel
theorem dM_step_87 : decode bM_step 87 = .ok (.iload_n 2, 1) := by decide +kernel
theorem dM_step_88 : decode bM_step 88 = .ok (.laload, 1) := by decide +kernel
theorem dM_step_89 : decode bM_step 89 = .ok (.lsub, 1) := by decide +kernel
theorem dM_step_90 : decode bM_step 90 = .ok (.lstore 4, 2) := by decide +kernel
theorem dM_step_92 : decode bM_step 92 = .ok (.lload 4, 2) := by decide +kernel
theorem dM_step_94 : decode bM_step 94 = .ok (.lconst 0, 1) := by decide +kernel
theorem dM_step_95 : decode bM_step 95 = .ok (.lcmp, 1) := by decide +kernel
theorem dM_step_96 : decode bM_step 96 = .ok (.ifCond .ge 7, 3) := by decide +kernel
theorem dM_step_99 : decode bM_step 99 = .ok (.lconst 0, 1) := by decide +kernel
theorem dM_step_100 : decode bM_step 100 = .ok (.goto 28, 3) := by decide +kernel
theorem dM_step_103 : decode bM_step 103 = .ok (.lload 4, 2) := by decide +kernel
theorem dM_step_105 : decode bM_step 105 = .ok (.aload_n 0, 1) := by decide +kernel
theorem dM_step_106 : decode bM_step 106 = .ok (.getfield 29, 3) := by decide +kernel
theorem dM_step_109 : decode bM_step 109 = .ok (.iload_n 2, 1) := by decide +kernel
theorem dM_step_110 : decode bM_step 110 = .ok (.iaload, 1) := by decide +kernel
theorem dM_step_111 : decode bM_step 111 = .ok (.i2l, 1) := by decide +kernel
theorem dM_step_112 : decode bM_step 112 = .ok (.lcmp, 1) := by decide +kernel
theorem dM_step_113 : decode bM_step 113 = .ok (.ifCond .le 13, 3) := by decide +kernel
theorem dM_step_116 : decode bM_step 116 = .ok (.aload_n 0, 1) := by decide +kernel
theorem dM_step_117 : decode bM_step 117 = .ok (.getfield 29, 3) := by decide +kernel
theorem dM_step_120 : decode bM_step 120 = .ok (.iload_n 2, 1) := by decide +kernel
theorem dM_step_121 : decode bM_step 121 = .ok (.iaload, 1) := by decide +kernel
theorem dM_step_122 : decode bM_step 122 = .ok (.i2l, 1) := by decide +kernel
theorem dM_step_123 : decode bM_step 123 = .ok (.goto 5, 3) := by decide +kernel
theorem dM_step_126 : decode bM_step 126 = .ok (.lload 4, 2) := by decide +kernel
theorem dM_step_128 : decode bM_step 128 = .ok (.lstore 6, 2) := by decide +kernel
theorem dM_step_130 : decode bM_step 130 = .ok (.aload_n 0, 1) := by decide +kernel
theorem dM_step_131 : decode bM_step 131 = .ok (.getfield 13, 3) := by decide +kernel
theorem dM_step_134 : decode bM_step 134 = .ok (.iload_n 2, 1) := by decide +kernel
theorem dM_step_135 : decode bM_step 135 = .ok (.dup2, 1) := by decide +kernel
theorem dM_step_136 : decode bM_step 136 = .ok (.laload, 1) := by decide +kernel
theorem dM_step_137 : decode bM_step 137 = .ok (.lload 6, 2) := by decide +kernel
theorem dM_step_139 : decode bM_step 139 = .ok (.ladd, 1) := by decide +kernel
theorem dM_step_140 : decode bM_step 140 = .ok (.lastore, 1) := by decide +kernel
theorem dM_step_141 : decode bM_step 141 = .ok (.aload_n 0, 1) := by decide +kernel
theorem dM_step_142 : decode bM_step 142 = .ok (.getfield 20, 3) := by decide +kernel
theorem dM_step_145 : decode bM_step 145 = .ok (.iload_n 2, 1) := by decide +kernel
theorem dM_step_146 : decode bM_step 146 = .ok (.dup2, 1) := by decide +kernel
theorem dM_step_147 : decode bM_step 147 = .ok (.laload, 1) := by decide +kernel
theorem dM_step_148 : decode bM_step 148 = .ok (.lload 6, 2) := by decide +kernel
theorem dM_step_150 : decode bM_step 150 = .ok (.ladd, 1) := by decide +kernel
theorem dM_step_151 : decode bM_step 151 = .ok (.lastore, 1) := by decide +kernel
theorem dM_step_152 : decode bM_step 152 = .ok (.aload_n 0, 1) := by decide +kernel
theorem dM_step_153 : decode bM_step 153 = .ok (.getfield 26, 3) := by decide +kernel
theorem dM_step_156 : decode bM_step 156 = .ok (.iload_n 2, 1) := by decide +kernel
theorem dM_step_157 : decode bM_step 157 = .ok (.lload 6, 2) := by decide +kernel
theorem dM_step_159 : decode bM_step 159 = .ok (.aload_n 0, 1) := by decide +kernel
theorem dM_step_160 : decode bM_step 160 = .ok (.getfield 26, 3) := by decide +kernel
theorem dM_step_163 : decode bM_step 163 = .ok (.iload_n 2, 1) := by decide +kernel
theorem dM_step_164 : decode bM_step 164 = .ok (.laload, 1) := by decide +kernel
theorem dM_step_165 : decode bM_step 165 = .ok (.lcmp, 1) := by decide +kernel
theorem dM_step_166 : decode bM_step 166 = .ok (.ifCond .le 8, 3) := by decide +kernel
theorem dM_step_169 : decode bM_step 169 = .ok (.lload 6, 2) := by decide +kernel
theorem dM_step_171 : decode bM_step 171 = .ok (.goto 9, 3) := by decide +kernel
theorem dM_step_174 : decode bM_step 174 = .ok (.aload_n 0, 1) := by decide +kernel
theorem dM_step_175 : decode bM_step 175 = .ok (.getfield 26, 3) := by decide +kernel
theorem dM_step_178 : decode bM_step 178 = .ok (.iload_n 2, 1) := by decide +kernel
theorem dM_step_179 : decode bM_step 179 = .ok (.laload, 1) := by decide +kernel
theorem dM_step_180 : decode bM_step 180 = .ok (.lastore, 1) := by decide +kernel
theorem dM_step_181 : decode bM_step 181 = .ok (.aload_n 0, 1) := by decide +kernel
theorem dM_step_182 : decode bM_step 182 = .ok (.getfield 68, 3) := by decide +kernel
theorem dM_step_185 : decode bM_step 185 = .ok (.bipush 24, 2) := by decide +kernel
theorem dM_step_187 : decode bM_step 187 = .ok (.iload_n 2, 1) := by decide +kernel
theorem dM_step_188 : decode bM_step 188 = .ok (.imul, 1) := by decide +kernel
theorem dM_step_189 : decode bM_step 189 = .ok (.iload_n 1, 1) := by decide +kernel
theorem dM_step_190 : decode bM_step 190 = .ok (.iadd, 1) := by decide +kernel
theorem dM_step_191 : decode bM_step 191 = .ok (.iaload, 1) := by decide +kernel
theorem dM_step_192 : decode bM_step 192 = .ok (.istore 8, 2) := by decide +kernel
theorem dM_step_194 : decode bM_step 194 = .ok (.iload 8, 2) := by decide +kernel
theorem dM_step_196 : decode bM_step 196 = .ok (.ldc 81, 2) := by decide +kernel
theorem dM_step_198 : decode bM_step 198 = .ok (.if_icmp .ne 7, 3) := by decide +kernel
theorem dM_step_201 : decode bM_step 201 = .ok (.lconst 0, 1) := by decide +kernel
theorem dM_step_202 : decode bM_step 202 = .ok (.goto 21, 3) := by decide +kernel
theorem dM_step_205 : decode bM_step 205 = .ok (.aload_n 0, 1) := by decide +kernel
theorem dM_step_206 : decode bM_step 206 = .ok (.getfield 13, 3) := by decide +kernel
theorem dM_step_209 : decode bM_step 209 = .ok (.iload_n 2, 1) := by decide +kernel
theorem dM_step_210 : decode bM_step 210 = .ok (.laload, 1) := by decide +kernel
theorem dM_step_211 : decode bM_step 211 = .ok (.aload_n 0, 1) := by decide +kernel
theorem dM_step_212 : decode bM_step 212 = .ok (.getfield 7, 3) := by decide +kernel
theorem dM_step_215 : decode bM_step 215 = .ok (.iload_n 2, 1) := by decide +kernel
theorem dM_step_216 : decode bM_step 216 = .ok (.iaload, 1) := by decide +kernel
theorem dM_step_217 : decode bM_step 217 = .ok (.i2l, 1) := by decide +kernel
theorem dM_step_218 : decode bM_step 218 = .ok (.iload 8, 2) := by decide +kernel
theorem dM_step_220 : decode bM_step 220 = .ok (.i2l, 1) := by decide +kernel
theorem dM_step_221 : decode bM_step 221 = .ok (.lmul, 1) := by decide +kernel
end
section
theorem dM_step_222 : decode bM_step 222 = .ok (.lsub, 1) := by decide +kernel
theorem dM_step_223 : decode bM_step 223 = .ok (.lstore 9, 2) := by decide +kernel
theorem dM_step_225 : decode bM_step 225 = .ok (.lload 9, 2) := by decide +kernel
theorem dM_step_227 : decode bM_step 227 = .ok (.lconst 0, 1) := by decide +kernel
theorem dM_step_228 : decode bM_step 228 = .ok (.lcmp, 1) := by decide +kernel
theorem dM_step_229 : decode bM_step 229 = .ok (.ifCond .ge 7, 3) := by decide +kernel
theorem dM_step_232 : decode bM_step 232 = .ok (.lconst 0, 1) := by decide +kernel
theorem dM_step_233 : decode bM_step 233 = .ok (.goto 28, 3) := by decide +kernel
theorem dM_step_236 : decode bM_step 236 = .ok (.lload 9, 2) := by decide +kernel
theorem dM_step_238 : decode bM_step 238 = .ok (.aload_n 0, 1) := by decide +kernel
theorem dM_step_239 : decode bM_step 239 = .ok (.getfield 32, 3) := by decide +kernel
theorem dM_step_242 : decode bM_step 242 = .ok (.iload_n 2, 1) := by decide +kernel
theorem dM_step_243 : decode bM_step 243 = .ok (.iaload, 1) := by decide +kernel
theorem dM_step_244 : decode bM_step 244 = .ok (.i2l, 1) := by decide +kernel
theorem dM_step_245 : decode bM_step 245 = .ok (.lcmp, 1) := by decide +kernel
theorem dM_step_246 : decode bM_step 246 = .ok (.ifCond .le 13, 3) := by decide +kernel
theorem dM_step_249 : decode bM_step 249 = .ok (.aload_n 0, 1) := by decide +kernel
theorem dM_step_250 : decode bM_step 250 = .ok (.getfield 32, 3) := by decide +kernel
theorem dM_step_253 : decode bM_step 253 = .ok (.iload_n 2, 1) := by decide +kernel
theorem dM_step_254 : decode bM_step 254 = .ok (.iaload, 1) := by decide +kernel
theorem dM_step_255 : decode bM_step 255 = .ok (.i2l, 1) := by decide +kernel
theorem dM_step_256 : decode bM_step 256 = .ok (.goto 5, 3) := by decide +kernel
theorem dM_step_259 : decode bM_step 259 = .ok (.lload 9, 2) := by decide +kernel
theorem dM_step_261 : decode bM_step 261 = .ok (.lstore 11, 2) := by decide +kernel
theorem dM_step_263 : decode bM_step 263 = .ok (.aload_n 0, 1) := by decide +kernel
theorem dM_step_264 : decode bM_step 264 = .ok (.getfield 13, 3) := by decide +kernel
theorem dM_step_267 : decode bM_step 267 = .ok (.iload_n 2, 1) := by decide +kernel
theorem dM_step_268 : decode bM_step 268 = .ok (.dup2, 1) := by decide +kernel
theorem dM_step_269 : decode bM_step 269 = .ok (.laload, 1) := by decide +kernel
theorem dM_step_270 : decode bM_step 270 = .ok (.lload 11, 2) := by decide +kernel
theorem dM_step_272 : decode bM_step 272 = .ok (.lsub, 1) := by decide +kernel
theorem dM_step_273 : decode bM_step 273 = .ok (.lastore, 1) := by decide +kernel
theorem dM_step_274 : decode bM_step 274 = .ok (.aload_n 0, 1) := by decide +kernel
theorem dM_step_275 : decode bM_step 275 = .ok (.getfield 23, 3) := by decide +kernel
theorem dM_step_278 : decode bM_step 278 = .ok (.iload_n 2, 1) := by decide +kernel
theorem dM_step_279 : decode bM_step 279 = .ok (.dup2, 1) := by decide +kernel
theorem dM_step_280 : decode bM_step 280 = .ok (.laload, 1) := by decide +kernel
theorem dM_step_281 : decode bM_step 281 = .ok (.lload 11, 2) := by decide +kernel
theorem dM_step_283 : decode bM_step 283 = .ok (.ladd, 1) := by decide +kernel
theorem dM_step_284 : decode bM_step 284 = .ok (.lastore, 1) := by decide +kernel
theorem dM_step_285 : decode bM_step 285 = .ok (.iinc 2 1, 3) := by decide +kernel
theorem dM_step_288 : decode bM_step 288 = .ok (.goto (-271), 3) := by decide +kernel
theorem dM_step_291 : decode bM_step 291 = .ok (.aload_n 0, 1) := by decide +kernel
theorem dM_step_292 : decode bM_step 292 = .ok (.dup, 1) := by decide +kernel
theorem dM_step_293 : decode bM_step 293 = .ok (.getfield 139, 3) := by decide +kernel
theorem dM_step_296 : decode bM_step 296 = .ok (.iconst 1, 1) := by decide +kernel
theorem dM_step_297 : decode bM_step 297 = .ok (.iadd, 1) := by decide +kernel
theorem dM_step_298 : decode bM_step 298 = .ok (.putfield 139, 3) := by decide +kernel
theorem dM_step_301 : decode bM_step 301 = .ok (.aload_n 0, 1) := by decide +kernel
theorem dM_step_302 : decode bM_step 302 = .ok (.getfield 139, 3) := by decide +kernel
theorem dM_step_305 : decode bM_step 305 = .ok (.iconst 4, 1) := by decide +kernel
theorem dM_step_306 : decode bM_step 306 = .ok (.irem, 1) := by decide +kernel
theorem dM_step_307 : decode bM_step 307 = .ok (.ifCond .ne 121, 3) := by decide +kernel
theorem dM_step_310 : decode bM_step 310 = .ok (.iconst 0, 1) := by decide +kernel
theorem dM_step_311 : decode bM_step 311 = .ok (.istore_n 2, 1) := by decide +kernel
theorem dM_step_312 : decode bM_step 312 = .ok (.iload_n 2, 1) := by decide +kernel
theorem dM_step_313 : decode bM_step 313 = .ok (.aload_n 0, 1) := by decide +kernel
theorem dM_step_314 : decode bM_step 314 = .ok (.getfield 89, 3) := by decide +kernel
theorem dM_step_317 : decode bM_step 317 = .ok (.if_icmp .ge 111, 3) := by decide +kernel
theorem dM_step_320 : decode bM_step 320 = .ok (.aload_n 0, 1) := by decide +kernel
theorem dM_step_321 : decode bM_step 321 = .ok (.iload_n 2, 1) := by decide +kernel
theorem dM_step_322 : decode bM_step 322 = .ok (.invokevirtual 126, 3) := by decide +kernel
theorem dM_step_325 : decode bM_step 325 = .ok (.lstore_n 3, 1) := by decide +kernel
theorem dM_step_326 : decode bM_step 326 = .ok (.aload_n 0, 1) := by decide +kernel
theorem dM_step_327 : decode bM_step 327 = .ok (.getfield 17, 3) := by decide +kernel
theorem dM_step_330 : decode bM_step 330 = .ok (.iload_n 2, 1) := by decide +kernel
theorem dM_step_331 : decode bM_step 331 = .ok (.dup2, 1) := by decide +kernel
theorem dM_step_332 : decode bM_step 332 = .ok (.iaload, 1) := by decide +kernel
theorem dM_step_333 : decode bM_step 333 = .ok (.aload_n 0, 1) := by decide +kernel
theorem dM_step_334 : decode bM_step 334 = .ok (.getfield 62, 3) := by decide +kernel
theorem dM_step_337 : decode bM_step 337 = .ok (.bipush 24, 2) := by decide +kernel
theorem dM_step_339 : decode bM_step 339 = .ok (.iload_n 2, 1) := by decide +kernel
theorem dM_step_340 : decode bM_step 340 = .ok (.imul, 1) := by decide +kernel
theorem dM_step_341 : decode bM_step 341 = .ok (.iload_n 1, 1) := by decide +kernel
theorem dM_step_342 : decode bM_step 342 = .ok (.iadd, 1) := by decide +kernel
theorem dM_step_343 : decode bM_step 343 = .ok (.iaload, 1) := by decide +kernel
theorem dM_step_344 : decode bM_step 344 = .ok (.ifCond .le 27, 3) := by decide +kernel
theorem dM_step_347 : decode bM_step 347 = .ok (.lload_n 3, 1) := by decide +kernel
theorem dM_step_348 : decode bM_step 348 = .ok (.aload_n 0, 1) := by decide +kernel
theorem dM_step_349 : decode bM_step 349 = .ok (.getfield 116, 3) := by decide +kernel
theorem dM_step_352 : decode bM_step 352 = .ok (.i2l, 1) := by decide +kernel
theorem dM_step_353 : decode bM_step 353 = .ok (.lcmp, 1) := by decide +kernel
theorem dM_step_354 : decode bM_step 354 = .ok (.ifCond .lt 13, 3) := by decide +kernel
theorem dM_step_357 : decode bM_step 357 = .ok (.lload_n 3, 1) := by decide +kernel
theorem dM_step_358 : decode bM_step 358 = .ok (.aload_n 0, 1) := by decide +kernel
theorem dM_step_359 : decode bM_step 359 = .ok (.getfield 119, 3) := by decide +kernel
theorem dM_step_362 : decode bM_step 362 = .ok (.i2l, 1) := by decide +kernel
theorem dM_step_363 : decode bM_step 363 = .ok (.lcmp, 1) := by decide +kernel
theorem dM_step_364 : decode bM_step 364 = .ok (.ifCond .le 7, 3) := by decide +kernel
theorem dM_step_367 : decode bM_step 367 = .ok (.iconst 1, 1) := by decide +kernel
theorem dM_step_368 : decode bM_step 368 = .ok (.goto 4, 3) := by decide +kernel
theorem dM_step_371 : decode bM_step 371 = .ok (.iconst 0, 1) := by decide +kernel
theorem dM_step_372 : decode bM_step 372 = .ok (.iadd, 1) := by decide +kernel
theorem dM_step_373 : decode bM_step 373 = .ok (.iastore, 1) := by decide +kernel
theorem dM_step_374 : decode bM_step 374 = .ok (.aload_n 0, 1) := by decide +kernel
theorem dM_step_375 : decode bM_step 375 = .ok (.aload_n 0, 1) := by decide +kernel
theorem dM_step_376 : decode bM_step 376 = .ok (.getfield 152, 3) := by decide +kernel
theorem dM_step_379 : decode bM_step 379 = .ok (.ifCond .ne 35, 3) := by decide +kernel
theorem dM_step_382 : decode bM_step 382 = .ok (.iload_n 2, 1) := by decide +kernel
theorem dM_step_383 : decode bM_step 383 = .ok (.aload_n 0, 1) := by decide +kernel
theorem dM_step_384 : decode bM_step 384 = .ok (.getfield 74, 3) := by decide +kernel
theorem dM_step_387 : decode bM_step 387 = .ok (.if_icmp .ne 31, 3) := by decide +kernel
theorem dM_step_390 : decode bM_step 390 = .ok (.aload_n 0, 1) := by decide +kernel
theorem dM_step_391 : decode bM_step 391 = .ok (.getfield 62, 3) := by decide +kernel
theorem dM_step_394 : decode bM_step 394 = .ok (.bipush 24, 2) := by decide +kernel
theorem dM_step_396 : decode bM_step 396 = .ok (.iload_n 2, 1) := by decide +kernel
theorem dM_step_397 : decode bM_step 397 = .ok (.imul, 1) := by decide +kernel
theorem dM_step_398 : decode bM_step 398 = .ok (.iload_n 1, 1) := by decide +kernel
theorem dM_step_399 : decode bM_step 399 = .ok (.iadd, 1) := by decide +kernel
theorem dM_step_400 : decode bM_step 400 = .ok (.iaload, 1) := by decide +kernel
theorem dM_step_401 : decode bM_step 401 = .ok (.ifCond .le 17, 3) := by decide +kernel
theorem dM_step_404 : decode bM_step 404 = .ok (.lload_n 3, 1) := by decide +kernel
theorem dM_step_405 : decode bM_step 405 = .ok (.aload_n 0, 1) := by decide +kernel
theorem dM_step_406 : decode bM_step 406 = .ok (.getfield 116, 3) := by decide +kernel
theorem dM_step_409 : decode bM_step 409 = .ok (.i2l, 1) := by decide +kernel
theorem dM_step_410 : decode bM_step 410 = .ok (.lcmp, 1) := by decide +kernel
theorem dM_step_411 : decode bM_step 411 = .ok (.ifCond .ge 7, 3) := by decide +kernel
theorem dM_step_414 : decode bM_step 414 = .ok (.iconst 1, 1) := by decide +kernel
theorem dM_step_415 : decode bM_step 415 = .ok (.goto 4, 3) := by decide +kernel
theorem dM_step_418 : decode bM_step 418 = .ok (.iconst 0, 1) := by decide +kernel
theorem dM_step_419 : decode bM_step 419 = .ok (.putfield 152, 3) := by decide +kernel
theorem dM_step_422 : decode bM_step 422 = .ok (.iinc 2 1, 3) := by decide +kernel
theorem dM_step_425 : decode bM_step 425 = .ok (.goto (-113), 3) := by decide +kernel
theorem dM_step_428 : decode bM_step 428 = .ok (.return_, 1) := by decide +kernel
theorem dM_run_0 : decode bM_run 0 = .ok (.aload_n 0, 1) := by decide +kernel
theorem dM_run_1 : decode bM_run 1 = .ok (.iload_n 1, 1) := by decide +kernel
theorem dM_run_2 : decode bM_run 2 = .ok (.iconst 1, 1) := by decide +kernel
theorem dM_run_3 : decode bM_run 3 = .ok (.sipush 400, 3) := by decide +kernel
theorem dM_run_6 : decode bM_run 6 = .ok (.invokestatic 85, 3) := by decide +kernel
theorem dM_run_9 : decode bM_run 9 = .ok (.ifCond .ne 7, 3) := by decide +kernel
theorem dM_run_12 : decode bM_run 12 = .ok (.iconst 1, 1) := by decide +kernel
theorem dM_run_13 : decode bM_run 13 = .ok (.goto 19, 3) := by decide +kernel
theorem dM_run_16 : decode bM_run 16 = .ok (.aload_n 0, 1) := by decide +kernel
theorem dM_run_17 : decode bM_run 17 = .ok (.getfield 139, 3) := by decide +kernel
theorem dM_run_20 : decode bM_run 20 = .ok (.iload_n 1, 1) := by decide +kernel
theorem dM_run_21 : decode bM_run 21 = .ok (.iadd, 1) := by decide +kernel
theorem dM_run_22 : decode bM_run 22 = .ok (.ldc 156, 2) := by decide +kernel
theorem dM_run_24 : decode bM_run 24 = .ok (.if_icmp .le 7, 3) := by decide +kernel
theorem dM_run_27 : decode bM_run 27 = .ok (.iconst 2, 1) := by decide +kernel
theorem dM_run_28 : decode bM_run 28 = .ok (.goto 4, 3) := by decide +kernel
theorem dM_run_31 : decode bM_run 31 = .ok (.iconst 0, 1) := by decide +kernel
theorem dM_run_32 : decode bM_run 32 = .ok (.putfield 82, 3) := by decide +kernel
theorem dM_run_35 : decode bM_run 35 = .ok (.aload_n 0, 1) := by decide +kernel
theorem dM_run_36 : decode bM_run 36 = .ok (.getfield 82, 3) := by decide +kernel
theorem dM_run_39 : decode bM_run 39 = .ok (.ifCond .le 5, 3) := by decide +kernel
theorem dM_run_42 : decode bM_run 42 = .ok (.iconst 0, 1) := by decide +kernel
theorem dM_run_43 : decode bM_run 43 = .ok (.ireturn, 1) := by decide +kernel
theorem dM_run_44 : decode bM_run 44 = .ok (.iconst 0, 1) := by decide +kernel
theorem dM_run_45 : decode bM_run 45 = .ok (.istore_n 2, 1) := by decide +kernel
theorem dM_run_46 : decode bM_run 46 = .ok (.iload_n 2, 1) := by decide +kernel
theorem dM_run_47 : decode bM_run 47 = .ok (.iload_n 1, 1) := by decide +kernel
theorem dM_run_48 : decode bM_run 48 = .ok (.if_icmp .ge 13, 3) := by decide +kernel
theorem dM_run_51 : decode bM_run 51 = .ok (.aload_n 0, 1) := by decide +kernel
theorem dM_run_52 : decode bM_run 52 = .ok (.invokevirtual 157, 3) := by decide +kernel
theorem dM_run_55 : decode bM_run 55 = .ok (.iinc 2 1, 3) := by decide +kernel
theorem dM_run_58 : decode bM_run 58 = .ok (.goto (-12), 3) := by decide +kernel
theorem dM_run_61 : decode bM_run 61 = .ok (.aload_n 0, 1) := by decide +kernel
theorem dM_run_62 : decode bM_run 62 = .ok (.getfield 139, 3) := by decide +kernel
theorem dM_run_65 : decode bM_run 65 = .ok (.ireturn, 1) := by decide +kernel
theorem dM_told_0 : decode bM_told 0 = .ok (.aload_n 0, 1) := by decide +kernel
theorem dM_told_1 : decode bM_told 1 = .ok (.aload_n 0, 1) := by decide +kernel
theorem dM_told_2 : decode bM_told 2 = .ok (.iload_n 1, 1) := by decide +kernel
theorem dM_told_3 : decode bM_told 3 = .ok (.invokevirtual 105, 3) := by decide +kernel
theorem dM_told_6 : decode bM_told 6 = .ok (.ifCond .eq 16, 3) := by decide +kernel
theorem dM_told_9 : decode bM_told 9 = .ok (.iload_n 2, 1) := by decide +kernel
theorem dM_told_10 : decode bM_told 10 = .ok (.iconst 0, 1) := by decide +kernel
theorem dM_told_11 : decode bM_told 11 = .ok (.iconst 5, 1) := by decide +kernel
theorem dM_told_12 : decode bM_told 12 = .ok (.invokestatic 85, 3) := by decide +kernel
theorem dM_told_15 : decode bM_told 15 = .ok (.ifCond .eq 7, 3) := by decide +kernel
theorem dM_told_18 : decode bM_told 18 = .ok (.iconst 0, 1) := by decide +kernel
theorem dM_told_19 : decode bM_told 19 = .ok (.goto 4, 3) := by decide +kernel
theorem dM_told_22 : decode bM_told 22 = .ok (.iconst 1, 1) := by decide +kernel
theorem dM_told_23 : decode bM_told 23 = .ok (.putfield 82, 3) := by decide +kernel
theorem dM_told_26 : decode bM_told 26 = .ok (.aload_n 0, 1) := by decide +kernel
theorem dM_told_27 : decode bM_told 27 = .ok (.getfield 82, 3) := by decide +kernel
theorem dM_told_30 : decode bM_told 30 = .ok (.ifCond .le 5, 3) := by decide +kernel
theorem dM_told_33 : decode bM_told 33 = .ok (.lconst 0, 1) := by decide +kernel
theorem dM_told_34 : decode bM_told 34 = .ok (.lreturn, 1) := by decide +kernel
theorem dM_told_35 : decode bM_told 35 = .ok (.iload_n 2, 1) := by decide +kernel
theorem dM_told_36 : decode bM_told 36 = .ok (.tableswitch 71 0 4 #[36, 42, 49, 57, 64], 36) := by decide +kernel
theorem dM_told_72 : decode bM_told 72 = .ok (.aload_n 0, 1) := by decide +kernel
theorem dM_told_73 : decode bM_told 73 = .ok (.iload_n 1, 1) := by decide +kernel
theorem dM_told_74 : decode bM_told 74 = .ok (.invokevirtual 126, 3) := by decide +kernel
theorem dM_told_77 : decode bM_told 77 = .ok (.lreturn, 1) := by decide +kernel
theorem dM_told_78 : decode bM_told 78 = .ok (.aload_n 0, 1) := by decide +kernel
theorem dM_told_79 : decode bM_told 79 = .ok (.getfield 13, 3) := by decide +kernel
theorem dM_told_82 : decode bM_told 82 = .ok (.iload_n 1, 1) := by decide +kernel
theorem dM_told_83 : decode bM_told 83 = .ok (.laload, 1) := by decide +kernel
theorem dM_told_84 : decode bM_told 84 = .ok (.lreturn, 1) := by decide +kernel
theorem dM_told_85 : decode bM_told 85 = .ok (.aload_n 0, 1) := by decide +kernel
theorem dM_told_86 : decode bM_told 86 = .ok (.getfield 17, 3) := by decide +kernel
theorem dM_told_89 : decode bM_told 89 = .ok (.iload_n 1, 1) := by decide +kernel
theorem dM_told_90 : decode bM_told 90 = .ok (.iaload, 1) := by decide +kernel
theorem dM_told_91 : decode bM_told 91 = .ok (.i2l, 1) := by decide +kernel
theorem dM_told_92 : decode bM_told 92 = .ok (.lreturn, 1) := by decide +kernel
theorem dM_told_93 : decode bM_told 93 = .ok (.aload_n 0, 1) := by decide +kernel
theorem dM_told_94 : decode bM_told 94 = .ok (.getfield 20, 3) := by decide +kernel
theorem dM_told_97 : decode bM_told 97 = .ok (.iload_n 1, 1) := by decide +kernel
theorem dM_told_98 : decode bM_told 98 = .ok (.laload, 1) := by decide +kernel
theorem dM_told_99 : decode bM_told 99 = .ok (.lreturn, 1) := by decide +kernel
theorem dM_told_100 : decode bM_told 100 = .ok (.aload_n 0, 1) := by decide +kernel
theorem dM_told_101 : decode bM_told 101 = .ok (.getfield 23, 3) := by decide +kernel
theorem dM_told_104 : decode bM_told 104 = .ok (.iload_n 1, 1) := by decide +kernel
theorem dM_told_105 : decode bM_told 105 = .ok (.laload, 1) := by decide +kernel
theorem dM_told_106 : decode bM_told 106 = .ok (.lreturn, 1) := by decide +kernel
theorem dM_told_107 : decode bM_told 107 = .ok (.aload_n 0, 1) := by decide +kernel
theorem dM_told_108 : decode bM_told 108 = .ok (.getfield 26, 3) := by decide +kernel
theorem dM_told_111 : decode bM_told 111 = .ok (.iload_n 1, 1) := by decide +kernel
theorem dM_told_112 : decode bM_told 112 = .ok (.laload, 1) := by decide +kernel
theorem dM_told_113 : decode bM_told 113 = .ok (.lreturn, 1) := by decide +kernel
theorem dM_balance_0 : decode bM_balance 0 = .ok (.aload_n 0, 1) := by decide +kernel
theorem dM_balance_1 : decode bM_balance 1 = .ok (.iload_n 1, 1) := by decide +kernel
theorem dM_balance_2 : decode bM_balance 2 = .ok (.iconst 0, 1) := by decide +kernel
theorem dM_balance_3 : decode bM_balance 3 = .ok (.bipush 6, 2) := by decide +kernel
theorem dM_balance_5 : decode bM_balance 5 = .ok (.invokestatic 85, 3) := by decide +kernel
theorem dM_balance_8 : decode bM_balance 8 = .ok (.ifCond .eq 7, 3) := by decide +kernel
theorem dM_balance_11 : decode bM_balance 11 = .ok (.iconst 0, 1) := by decide +kernel
theorem dM_balance_12 : decode bM_balance 12 = .ok (.goto 4, 3) := by decide +kernel
theorem dM_balance_15 : decode bM_balance 15 = .ok (.iconst 1, 1) := by decide +kernel
theorem dM_balance_16 : decode bM_balance 16 = .ok (.putfield 82, 3) := by decide +kernel
theorem dM_balance_19 : decode bM_balance 19 = .ok (.aload_n 0, 1) := by decide +kernel
theorem dM_balance_20 : decode bM_balance 20 = .ok (.getfield 82, 3) := by decide +kernel
theorem dM_balance_23 : decode bM_balance 23 = .ok (.ifCond .le 5, 3) := by decide +kernel
theorem dM_balance_26 : decode bM_balance 26 = .ok (.lconst 0, 1) := by decide +kernel
theorem dM_balance_27 : decode bM_balance 27 = .ok (.lreturn, 1) := by decide +kernel
theorem dM_balance_28 : decode bM_balance 28 = .ok (.lconst 0, 1) := by decide +kernel
theorem dM_balance_29 : decode bM_balance 29 = .ok (.lstore_n 2, 1) := by decide +kernel
theorem dM_balance_30 : decode bM_balance 30 = .ok (.iconst 0, 1) := by decide +kernel
theorem dM_balance_31 : decode bM_balance 31 = .ok (.istore 4, 2) := by decide +kernel
theorem dM_balance_33 : decode bM_balance 33 = .ok (.iload 4, 2) := by decide +kernel
theorem dM_balance_35 : decode bM_balance 35 = .ok (.aload_n 0, 1) := by decide +kernel
theorem dM_balance_36 : decode bM_balance 36 = .ok (.getfield 89, 3) := by decide +kernel
theorem dM_balance_39 : decode bM_balance 39 = .ok (.if_icmp .ge 62, 3) := by decide +kernel
theorem dM_balance_42 : decode bM_balance 42 = .ok (.iload_n 1, 1) := by decide +kernel
theorem dM_balance_43 : decode bM_balance 43 = .ok (.ifCond .eq 13, 3) := by decide +kernel
theorem dM_balance_46 : decode bM_balance 46 = .ok (.iload_n 1, 1) := by decide +kernel
theorem dM_balance_47 : decode bM_balance 47 = .ok (.iconst 2, 1) := by decide +kernel
theorem dM_balance_48 : decode bM_balance 48 = .ok (.if_icmp .eq 8, 3) := by decide +kernel
theorem dM_balance_51 : decode bM_balance 51 = .ok (.iload_n 1, 1) := by decide +kernel
theorem dM_balance_52 : decode bM_balance 52 = .ok (.iconst 3, 1) := by decide +kernel
theorem dM_balance_53 : decode bM_balance 53 = .ok (.if_icmp .ne 48, 3) := by decide +kernel
theorem dM_balance_56 : decode bM_balance 56 = .ok (.lload_n 2, 1) := by decide +kernel
theorem dM_balance_57 : decode bM_balance 57 = .ok (.iload_n 1, 1) := by decide +kernel
theorem dM_balance_58 : decode bM_balance 58 = .ok (.ifCond .ne 13, 3) := by decide +kernel
theorem dM_balance_61 : decode bM_balance 61 = .ok (.aload_n 0, 1) := by decide +kernel
theorem dM_balance_62 : decode bM_balance 62 = .ok (.getfield 13, 3) := by decide +kernel
theorem dM_balance_65 : decode bM_balance 65 = .ok (.iload 4, 2) := by decide +kernel
theorem dM_balance_67 : decode bM_balance 67 = .ok (.laload, 1) := by decide +kernel
theorem dM_balance_68 : decode bM_balance 68 = .ok (.goto 25, 3) := by decide +kernel
theorem dM_balance_71 : decode bM_balance 71 = .ok (.iload_n 1, 1) := by decide +kernel
theorem dM_balance_72 : decode bM_balance 72 = .ok (.iconst 2, 1) := by decide +kernel
theorem dM_balance_73 : decode bM_balance 73 = .ok (.if_icmp .ne 13, 3) := by decide +kernel
theorem dM_balance_76 : decode bM_balance 76 = .ok (.aload_n 0, 1) := by decide +kernel
theorem dM_balance_77 : decode bM_balance 77 = .ok (.getfield 20, 3) := by decide +kernel
theorem dM_balance_80 : decode bM_balance 80 = .ok (.iload 4, 2) := by decide +kernel
theorem dM_balance_82 : decode bM_balance 82 = .ok (.laload, 1) := by decide +kernel
theorem dM_balance_83 : decode bM_balance 83 = .ok (.goto 10, 3) := by decide +kernel
theorem dM_balance_86 : decode bM_balance 86 = .ok (.aload_n 0, 1) := by decide +kernel
theorem dM_balance_87 : decode bM_balance 87 = .ok (.getfield 23, 3) := by decide +kernel
theorem dM_balance_90 : decode bM_balance 90 = .ok (.iload 4, 2) := by decide +kernel
theorem dM_balance_92 : decode bM_balance 92 = .ok (.laload, 1) := by decide +kernel
theorem dM_balance_93 : decode bM_balance 93 = .ok (.ladd, 1) := by decide +kernel
theorem dM_balance_94 : decode bM_balance 94 = .ok (.lstore_n 2, 1) := by decide +kernel
theorem dM_balance_95 : decode bM_balance 95 = .ok (.iinc 4 1, 3) := by decide +kernel
theorem dM_balance_98 : decode bM_balance 98 = .ok (.goto (-65), 3) := by decide +kernel
theorem dM_balance_101 : decode bM_balance 101 = .ok (.iload_n 1, 1) := by decide +kernel
theorem dM_balance_102 : decode bM_balance 102 = .ok (.iconst 1, 1) := by decide +kernel
theorem dM_balance_103 : decode bM_balance 103 = .ok (.if_icmp .ne 10, 3) := by decide +kernel
theorem dM_balance_106 : decode bM_balance 106 = .ok (.aload_n 0, 1) := by decide +kernel
theorem dM_balance_107 : decode bM_balance 107 = .ok (.getfield 96, 3) := by decide +kernel
theorem dM_balance_110 : decode bM_balance 110 = .ok (.goto 41, 3) := by decide +kernel
theorem dM_balance_113 : decode bM_balance 113 = .ok (.iload_n 1, 1) := by decide +kernel
theorem dM_balance_114 : decode bM_balance 114 = .ok (.iconst 4, 1) := by decide +kernel
theorem dM_balance_115 : decode bM_balance 115 = .ok (.if_icmp .ne 10, 3) := by decide +kernel
theorem dM_balance_118 : decode bM_balance 118 = .ok (.aload_n 0, 1) := by decide +kernel
theorem dM_balance_119 : decode bM_balance 119 = .ok (.getfield 133, 3) := by decide +kernel
theorem dM_balance_122 : decode bM_balance 122 = .ok (.goto 29, 3) := by decide +kernel
theorem dM_balance_125 : decode bM_balance 125 = .ok (.iload_n 1, 1) := by decide +kernel
theorem dM_balance_126 : decode bM_balance 126 = .ok (.iconst 5, 1) := by decide +kernel
theorem dM_balance_127 : decode bM_balance 127 = .ok (.if_icmp .ne 10, 3) := by decide +kernel
theorem dM_balance_130 : decode bM_balance 130 = .ok (.aload_n 0, 1) := by decide +kernel
theorem dM_balance_131 : decode bM_balance 131 = .ok (.getfield 136, 3) := by decide +kernel
theorem dM_balance_134 : decode bM_balance 134 = .ok (.goto 17, 3) := by decide +kernel
theorem dM_balance_137 : decode bM_balance 137 = .ok (.iload_n 1, 1) := by decide +kernel
theorem dM_balance_138 : decode bM_balance 138 = .ok (.bipush 6, 2) := by decide +kernel
theorem dM_balance_140 : decode bM_balance 140 = .ok (.if_icmp .ne 10, 3) := by decide +kernel
theorem dM_balance_143 : decode bM_balance 143 = .ok (.aload_n 0, 1) := by decide +kernel
theorem dM_balance_144 : decode bM_balance 144 = .ok (.getfield 130, 3) := by decide +kernel
theorem dM_balance_147 : decode bM_balance 147 = .ok (.goto 4, 3) := by decide +kernel
theorem dM_balance_150 : decode bM_balance 150 = .ok (.lload_n 2, 1) := by decide +kernel
theorem dM_balance_151 : decode bM_balance 151 = .ok (.lreturn, 1) := by decide +kernel
theorem dM_keep_0 : decode bM_keep 0 = .ok (.iconst 0, 1) := by decide +kernel
theorem dM_keep_1 : decode bM_keep 1 = .ok (.istore_n 1, 1) := by decide +kernel
theorem dM_keep_2 : decode bM_keep 2 = .ok (.iload_n 1, 1) := by decide +kernel
theorem dM_keep_3 : decode bM_keep 3 = .ok (.bipush 8, 2) := by decide +kernel
theorem dM_keep_5 : decode bM_keep 5 = .ok (.if_icmp .ge 82, 3) := by decide +kernel
theorem dM_keep_8 : decode bM_keep 8 = .ok (.aload_n 0, 1) := by decide +kernel
theorem dM_keep_9 : decode bM_keep 9 = .ok (.getfield 78, 3) := by decide +kernel
theorem dM_keep_12 : decode bM_keep 12 = .ok (.iload_n 1, 1) := by decide +kernel
theorem dM_keep_13 : decode bM_keep 13 = .ok (.aload_n 0, 1) := by decide +kernel
theorem dM_keep_14 : decode bM_keep 14 = .ok (.getfield 13, 3) := by decide +kernel
theorem dM_keep_17 : decode bM_keep 17 = .ok (.iload_n 1, 1) := by decide +kernel
theorem dM_keep_18 : decode bM_keep 18 = .ok (.laload, 1) := by decide +kernel
theorem dM_keep_19 : decode bM_keep 19 = .ok (.lastore, 1) := by decide +kernel
theorem dM_keep_20 : decode bM_keep 20 = .ok (.aload_n 0, 1) := by decide +kernel
theorem dM_keep_21 : decode bM_keep 21 = .ok (.getfield 78, 3) := by decide +kernel
theorem dM_keep_24 : decode bM_keep 24 = .ok (.bipush 8, 2) := by decide +kernel
theorem dM_keep_26 : decode bM_keep 26 = .ok (.iload_n 1, 1) := by decide +kernel
theorem dM_keep_27 : decode bM_keep 27 = .ok (.iadd, 1) := by decide +kernel
theorem dM_keep_28 : decode bM_keep 28 = .ok (.aload_n 0, 1) := by decide +kernel
theorem dM_keep_29 : decode bM_keep 29 = .ok (.getfield 17, 3) := by decide +kernel
theorem dM_keep_32 : decode bM_keep 32 = .ok (.iload_n 1, 1) := by decide +kernel
theorem dM_keep_33 : decode bM_keep 33 = .ok (.iaload, 1) := by decide +kernel
theorem dM_keep_34 : decode bM_keep 34 = .ok (.i2l, 1) := by decide +kernel
theorem dM_keep_35 : decode bM_keep 35 = .ok (.lastore, 1) := by decide +kernel
theorem dM_keep_36 : decode bM_keep 36 = .ok (.aload_n 0, 1) := by decide +kernel
theorem dM_keep_37 : decode bM_keep 37 = .ok (.getfield 78, 3) := by decide +kernel
theorem dM_keep_40 : decode bM_keep 40 = .ok (.bipush 16, 2) := by decide +kernel
theorem dM_keep_42 : decode bM_keep 42 = .ok (.iload_n 1, 1) := by decide +kernel
theorem dM_keep_43 : decode bM_keep 43 = .ok (.iadd, 1) := by decide +kernel
theorem dM_keep_44 : decode bM_keep 44 = .ok (.aload_n 0, 1) := by decide +kernel
theorem dM_keep_45 : decode bM_keep 45 = .ok (.getfield 20, 3) := by decide +kernel
theorem dM_keep_48 : decode bM_keep 48 = .ok (.iload_n 1, 1) := by decide +kernel
theorem dM_keep_49 : decode bM_keep 49 = .ok (.laload, 1) := by decide +kernel
theorem dM_keep_50 : decode bM_keep 50 = .ok (.lastore, 1) := by decide +kernel
theorem dM_keep_51 : decode bM_keep 51 = .ok (.aload_n 0, 1) := by decide +kernel
theorem dM_keep_52 : decode bM_keep 52 = .ok (.getfield 78, 3) := by decide +kernel
theorem dM_keep_55 : decode bM_keep 55 = .ok (.bipush 24, 2) := by decide +kernel
theorem dM_keep_57 : decode bM_keep 57 = .ok (.iload_n 1, 1) := by decide +kernel
theorem dM_keep_58 : decode bM_keep 58 = .ok (.iadd, 1) := by decide +kernel
theorem dM_keep_59 : decode bM_keep 59 = .ok (.aload_n 0, 1) := by decide +kernel
theorem dM_keep_60 : decode bM_keep 60 = .ok (.getfield 23, 3) := by decide +kernel
theorem dM_keep_63 : decode bM_keep 63 = .ok (.iload_n 1, 1) := by decide +kernel
theorem dM_keep_64 : decode bM_keep 64 = .ok (.laload, 1) := by decide +kernel
theorem dM_keep_65 : decode bM_keep 65 = .ok (.lastore, 1) := by decide +kernel
theorem dM_keep_66 : decode bM_keep 66 = .ok (.aload_n 0, 1) := by decide +kernel
theorem dM_keep_67 : decode bM_keep 67 = .ok (.getfield 78, 3) := by decide +kernel
theorem dM_keep_70 : decode bM_keep 70 = .ok (.bipush 32, 2) := by decide +kernel
theorem dM_keep_72 : decode bM_keep 72 = .ok (.iload_n 1, 1) := by decide +kernel
theorem dM_keep_73 : decode bM_keep 73 = .ok (.iadd, 1) := by decide +kernel
theorem dM_keep_74 : decode bM_keep 74 = .ok (.aload_n 0, 1) := by decide +kernel
theorem dM_keep_75 : decode bM_keep 75 = .ok (.getfield 26, 3) := by decide +kernel
theorem dM_keep_78 : decode bM_keep 78 = .ok (.iload_n 1, 1) := by decide +kernel
theorem dM_keep_79 : decode bM_keep 79 = .ok (.laload, 1) := by decide +kernel
theorem dM_keep_80 : decode bM_keep 80 = .ok (.lastore, 1) := by decide +kernel
theorem dM_keep_81 : decode bM_keep 81 = .ok (.iinc 1 1, 3) := by decide +kernel
theorem dM_keep_84 : decode bM_keep 84 = .ok (.goto (-82), 3) := by decide +kernel
theorem dM_keep_87 : decode bM_keep 87 = .ok (.aload_n 0, 1) := by decide +kernel
theorem dM_keep_88 : decode bM_keep 88 = .ok (.getfield 78, 3) := by decide +kernel
theorem dM_keep_91 : decode bM_keep 91 = .ok (.bipush 40, 2) := by decide +kernel
theorem dM_keep_93 : decode bM_keep 93 = .ok (.aload_n 0, 1) := by decide +kernel
theorem dM_keep_94 : decode bM_keep 94 = .ok (.getfield 139, 3) := by decide +kernel
theorem dM_keep_97 : decode bM_keep 97 = .ok (.i2l, 1) := by decide +kernel
theorem dM_keep_98 : decode bM_keep 98 = .ok (.lastore, 1) := by decide +kernel
theorem dM_keep_99 : decode bM_keep 99 = .ok (.aload_n 0, 1) := by decide +kernel
theorem dM_keep_100 : decode bM_keep 100 = .ok (.getfield 78, 3) := by decide +kernel
theorem dM_keep_103 : decode bM_keep 103 = .ok (.bipush 41, 2) := by decide +kernel
theorem dM_keep_105 : decode bM_keep 105 = .ok (.aload_n 0, 1) := by decide +kernel
theorem dM_keep_106 : decode bM_keep 106 = .ok (.getfield 133, 3) := by decide +kernel
theorem dM_keep_109 : decode bM_keep 109 = .ok (.lastore, 1) := by decide +kernel
theorem dM_keep_110 : decode bM_keep 110 = .ok (.aload_n 0, 1) := by decide +kernel
theorem dM_keep_111 : decode bM_keep 111 = .ok (.getfield 78, 3) := by decide +kernel
theorem dM_keep_114 : decode bM_keep 114 = .ok (.bipush 42, 2) := by decide +kernel
theorem dM_keep_116 : decode bM_keep 116 = .ok (.aload_n 0, 1) := by decide +kernel
theorem dM_keep_117 : decode bM_keep 117 = .ok (.getfield 136, 3) := by decide +kernel
theorem dM_keep_120 : decode bM_keep 120 = .ok (.lastore, 1) := by decide +kernel
theorem dM_keep_121 : decode bM_keep 121 = .ok (.aload_n 0, 1) := by decide +kernel
theorem dM_keep_122 : decode bM_keep 122 = .ok (.getfield 78, 3) := by decide +kernel
theorem dM_keep_125 : decode bM_keep 125 = .ok (.bipush 43, 2) := by decide +kernel
theorem dM_keep_127 : decode bM_keep 127 = .ok (.aload_n 0, 1) := by decide +kernel
theorem dM_keep_128 : decode bM_keep 128 = .ok (.getfield 130, 3) := by decide +kernel
theorem dM_keep_131 : decode bM_keep 131 = .ok (.lastore, 1) := by decide +kernel
theorem dM_keep_132 : decode bM_keep 132 = .ok (.return_, 1) := by decide +kernel
theorem dM_putBack_0 : decode bM_putBack 0 = .ok (.iconst 0, 1) := by decide +kernel
theorem dM_putBack_1 : decode bM_putBack 1 = .ok (.istore_n 1, 1) := by decide +kernel
theorem dM_putBack_2 : decode bM_putBack 2 = .ok (.iload_n 1, 1) := by decide +kernel
theorem dM_putBack_3 : decode bM_putBack 3 = .ok (.bipush 8, 2) := by decide +kernel
theorem dM_putBack_5 : decode bM_putBack 5 = .ok (.if_icmp .ge 82, 3) := by decide +kernel
theorem dM_putBack_8 : decode bM_putBack 8 = .ok (.aload_n 0, 1) := by decide +kernel
theorem dM_putBack_9 : decode bM_putBack 9 = .ok (.getfield 13, 3) := by decide +kernel
theorem dM_putBack_12 : decode bM_putBack 12 = .ok (.iload_n 1, 1) := by decide +kernel
theorem dM_putBack_13 : decode bM_putBack 13 = .ok (.aload_n 0, 1) := by decide +kernel
theorem dM_putBack_14 : decode bM_putBack 14 = .ok (.getfield 78, 3) := by decide +kernel
theorem dM_putBack_17 : decode bM_putBack 17 = .ok (.iload_n 1, 1) := by decide +kernel
theorem dM_putBack_18 : decode bM_putBack 18 = .ok (.laload, 1) := by decide +kernel
theorem dM_putBack_19 : decode bM_putBack 19 = .ok (.lastore, 1) := by decide +kernel
theorem dM_putBack_20 : decode bM_putBack 20 = .ok (.aload_n 0, 1) := by decide +kernel
theorem dM_putBack_21 : decode bM_putBack 21 = .ok (.getfield 17, 3) := by decide +kernel
theorem dM_putBack_24 : decode bM_putBack 24 = .ok (.iload_n 1, 1) := by decide +kernel
theorem dM_putBack_25 : decode bM_putBack 25 = .ok (.aload_n 0, 1) := by decide +kernel
theorem dM_putBack_26 : decode bM_putBack 26 = .ok (.getfield 78, 3) := by decide +kernel
theorem dM_putBack_29 : decode bM_putBack 29 = .ok (.bipush 8, 2) := by decide +kernel
theorem dM_putBack_31 : decode bM_putBack 31 = .ok (.iload_n 1, 1) := by decide +kernel
theorem dM_putBack_32 : decode bM_putBack 32 = .ok (.iadd, 1) := by decide +kernel
theorem dM_putBack_33 : decode bM_putBack 33 = .ok (.laload, 1) := by decide +kernel
theorem dM_putBack_34 : decode bM_putBack 34 = .ok (.l2i, 1) := by decide +kernel
theorem dM_putBack_35 : decode bM_putBack 35 = .ok (.iastore, 1) := by decide +kernel
theorem dM_putBack_36 : decode bM_putBack 36 = .ok (.aload_n 0, 1) := by decide +kernel
theorem dM_putBack_37 : decode bM_putBack 37 = .ok (.getfield 20, 3) := by decide +kernel
theorem dM_putBack_40 : decode bM_putBack 40 = .ok (.iload_n 1, 1) := by decide +kernel
theorem dM_putBack_41 : decode bM_putBack 41 = .ok (.aload_n 0, 1) := by decide +kernel
theorem dM_putBack_42 : decode bM_putBack 42 = .ok (.getfield 78, 3) := by decide +kernel
theorem dM_putBack_45 : decode bM_putBack 45 = .ok (.bipush 16, 2) := by decide +kernel
theorem dM_putBack_47 : decode bM_putBack 47 = .ok (.iload_n 1, 1) := by decide +kernel
theorem dM_putBack_48 : decode bM_putBack 48 = .ok (.iadd, 1) := by decide +kernel
theorem dM_putBack_49 : decode bM_putBack 49 = .ok (.laload, 1) := by decide +kernel
theorem dM_putBack_50 : decode bM_putBack 50 = .ok (.lastore, 1) := by decide +kernel
theorem dM_putBack_51 : decode bM_putBack 51 = .ok (.aload_n 0, 1) := by decide +kernel
theorem dM_putBack_52 : decode bM_putBack 52 = .ok (.getfield 23, 3) := by decide +kernel
theorem dM_putBack_55 : decode bM_putBack 55 = .ok (.iload_n 1, 1) := by decide +kernel
theorem dM_putBack_56 : decode bM_putBack 56 = .ok (.aload_n 0, 1) := by decide +kernel
theorem dM_putBack_57 : decode bM_putBack 57 = .ok (.getfield 78, 3) := by decide +kernel
theorem dM_putBack_60 : decode bM_putBack 60 = .ok (.bipush 24, 2) := by decide +kernel
theorem dM_putBack_62 : decode bM_putBack 62 = .ok (.iload_n 1, 1) := by decide +kernel
theorem dM_putBack_63 : decode bM_putBack 63 = .ok (.iadd, 1) := by decide +kernel
theorem dM_putBack_64 : decode bM_putBack 64 = .ok (.laload, 1) := by decide +kernel
theorem dM_putBack_65 : decode bM_putBack 65 = .ok (.lastore, 1) := by decide +kernel
theorem dM_putBack_66 : decode bM_putBack 66 = .ok (.aload_n 0, 1) := by decide +kernel
theorem dM_putBack_67 : decode bM_putBack 67 = .ok (.getfield 26, 3) := by decide +kernel
theorem dM_putBack_70 : decode bM_putBack 70 = .ok (.iload_n 1, 1) := by decide +kernel
theorem dM_putBack_71 : decode bM_putBack 71 = .ok (.aload_n 0, 1) := by decide +kernel
theorem dM_putBack_72 : decode bM_putBack 72 = .ok (.getfield 78, 3) := by decide +kernel
theorem dM_putBack_75 : decode bM_putBack 75 = .ok (.bipush 32, 2) := by decide +kernel
theorem dM_putBack_77 : decode bM_putBack 77 = .ok (.iload_n 1, 1) := by decide +kernel
theorem dM_putBack_78 : decode bM_putBack 78 = .ok (.iadd, 1) := by decide +kernel
theorem dM_putBack_79 : decode bM_putBack 79 = .ok (.laload, 1) := by decide +kernel
theorem dM_putBack_80 : decode bM_putBack 80 = .ok (.lastore, 1) := by decide +kernel
theorem dM_putBack_81 : decode bM_putBack 81 = .ok (.iinc 1 1, 3) := by decide +kernel
theorem dM_putBack_84 : decode bM_putBack 84 = .ok (.goto (-82), 3) := by decide +kernel
theorem dM_putBack_87 : decode bM_putBack 87 = .ok (.aload_n 0, 1) := by decide +kernel
theorem dM_putBack_88 : decode bM_putBack 88 = .ok (.aload_n 0, 1) := by decide +kernel
theorem dM_putBack_89 : decode bM_putBack 89 = .ok (.getfield 78, 3) := by decide +kernel
theorem dM_putBack_92 : decode bM_putBack 92 = .ok (.bipush 40, 2) := by decide +kernel
theorem dM_putBack_94 : decode bM_putBack 94 = .ok (.laload, 1) := by decide +kernel
theorem dM_putBack_95 : decode bM_putBack 95 = .ok (.l2i, 1) := by decide +kernel
theorem dM_putBack_96 : decode bM_putBack 96 = .ok (.putfield 139, 3) := by decide +kernel
theorem dM_putBack_99 : decode bM_putBack 99 = .ok (.aload_n 0, 1) := by decide +kernel
theorem dM_putBack_100 : decode bM_putBack 100 = .ok (.aload_n 0, 1) := by decide +kernel
theorem dM_putBack_101 : decode bM_putBack 101 = .ok (.getfield 78, 3) := by decide +kernel
theorem dM_putBack_104 : decode bM_putBack 104 = .ok (.bipush 41, 2) := by decide +kernel
theorem dM_putBack_106 : decode bM_putBack 106 = .ok (.laload, 1) := by decide +kernel
theorem dM_putBack_107 : decode bM_putBack 107 = .ok (.putfield 133, 3) := by decide +kernel
theorem dM_putBack_110 : decode bM_putBack 110 = .ok (.aload_n 0, 1) := by decide +kernel
theorem dM_putBack_111 : decode bM_putBack 111 = .ok (.aload_n 0, 1) := by decide +kernel
theorem dM_putBack_112 : decode bM_putBack 112 = .ok (.getfield 78, 3) := by decide +kernel
theorem dM_putBack_115 : decode bM_putBack 115 = .ok (.bipush 42, 2) := by decide +kernel
theorem dM_putBack_117 : decode bM_putBack 117 = .ok (.laload, 1) := by decide +kernel
theorem dM_putBack_118 : decode bM_putBack 118 = .ok (.putfield 136, 3) := by decide +kernel
theorem dM_putBack_121 : decode bM_putBack 121 = .ok (.aload_n 0, 1) := by decide +kernel
theorem dM_putBack_122 : decode bM_putBack 122 = .ok (.aload_n 0, 1) := by decide +kernel
theorem dM_putBack_123 : decode bM_putBack 123 = .ok (.getfield 78, 3) := by decide +kernel
theorem dM_putBack_126 : decode bM_putBack 126 = .ok (.bipush 43, 2) := by decide +kernel
theorem dM_putBack_128 : decode bM_putBack 128 = .ok (.laload, 1) := by decide +kernel
theorem dM_putBack_129 : decode bM_putBack 129 = .ok (.putfield 130, 3) := by decide +kernel
theorem dM_putBack_132 : decode bM_putBack 132 = .ok (.aload_n 0, 1) := by decide +kernel
theorem dM_putBack_133 : decode bM_putBack 133 = .ok (.iconst (-1), 1) := by decide +kernel
theorem dM_putBack_134 : decode bM_putBack 134 = .ok (.putfield 74, 3) := by decide +kernel
theorem dM_putBack_137 : decode bM_putBack 137 = .ok (.aload_n 0, 1) := by decide +kernel
theorem dM_putBack_138 : decode bM_putBack 138 = .ok (.iconst 0, 1) := by decide +kernel
theorem dM_putBack_139 : decode bM_putBack 139 = .ok (.putfield 152, 3) := by decide +kernel
theorem dM_putBack_142 : decode bM_putBack 142 = .ok (.return_, 1) := by decide +kernel
theorem dM_early_0 : decode bM_early 0 = .ok (.aload_n 0, 1) := by decide +kernel
theorem dM_early_1 : decode bM_early 1 = .ok (.aload_n 0, 1) := by decide +kernel
theorem dM_early_2 : decode bM_early 2 = .ok (.iload_n 1, 1) := by decide +kernel
theorem dM_early_3 : decode bM_early 3 = .ok (.invokevirtual 105, 3) := by decide +kernel
theorem dM_early_6 : decode bM_early 6 = .ok (.ifCond .eq 24, 3) := by decide +kernel
theorem dM_early_9 : decode bM_early 9 = .ok (.iload_n 2, 1) := by decide +kernel
theorem dM_early_10 : decode bM_early 10 = .ok (.iconst 0, 1) := by decide +kernel
theorem dM_early_11 : decode bM_early 11 = .ok (.bipush 23, 2) := by decide +kernel
theorem dM_early_13 : decode bM_early 13 = .ok (.invokestatic 85, 3) := by decide +kernel
theorem dM_early_16 : decode bM_early 16 = .ok (.ifCond .eq 14, 3) := by decide +kernel
theorem dM_early_19 : decode bM_early 19 = .ok (.iload_n 3, 1) := by decide +kernel
theorem dM_early_20 : decode bM_early 20 = .ok (.invokestatic 92, 3) := by decide +kernel
theorem dM_early_23 : decode bM_early 23 = .ok (.ifCond .eq 7, 3) := by decide +kernel
theorem dM_early_26 : decode bM_early 26 = .ok (.iconst 0, 1) := by decide +kernel
theorem dM_early_27 : decode bM_early 27 = .ok (.goto 4, 3) := by decide +kernel
theorem dM_early_30 : decode bM_early 30 = .ok (.iconst 1, 1) := by decide +kernel
theorem dM_early_31 : decode bM_early 31 = .ok (.putfield 82, 3) := by decide +kernel
theorem dM_early_34 : decode bM_early 34 = .ok (.aload_n 0, 1) := by decide +kernel
theorem dM_early_35 : decode bM_early 35 = .ok (.getfield 82, 3) := by decide +kernel
theorem dM_early_38 : decode bM_early 38 = .ok (.ifCond .le 5, 3) := by decide +kernel
theorem dM_early_41 : decode bM_early 41 = .ok (.iconst 0, 1) := by decide +kernel
theorem dM_early_42 : decode bM_early 42 = .ok (.ireturn, 1) := by decide +kernel
theorem dM_early_43 : decode bM_early 43 = .ok (.aload_n 0, 1) := by decide +kernel
theorem dM_early_44 : decode bM_early 44 = .ok (.getfield 139, 3) := by decide +kernel
theorem dM_early_47 : decode bM_early 47 = .ok (.iconst 1, 1) := by decide +kernel
theorem dM_early_48 : decode bM_early 48 = .ok (.iadd, 1) := by decide +kernel
theorem dM_early_49 : decode bM_early 49 = .ok (.istore 4, 2) := by decide +kernel
theorem dM_early_51 : decode bM_early 51 = .ok (.iload 4, 2) := by decide +kernel
theorem dM_early_53 : decode bM_early 53 = .ok (.iconst 4, 1) := by decide +kernel
theorem dM_early_54 : decode bM_early 54 = .ok (.irem, 1) := by decide +kernel
theorem dM_early_55 : decode bM_early 55 = .ok (.ifCond .ne 14, 3) := by decide +kernel
theorem dM_early_58 : decode bM_early 58 = .ok (.iload 4, 2) := by decide +kernel
theorem dM_early_60 : decode bM_early 60 = .ok (.iconst 4, 1) := by decide +kernel
theorem dM_early_61 : decode bM_early 61 = .ok (.idiv, 1) := by decide +kernel
theorem dM_early_62 : decode bM_early 62 = .ok (.bipush 24, 2) := by decide +kernel
theorem dM_early_64 : decode bM_early 64 = .ok (.irem, 1) := by decide +kernel
theorem dM_early_65 : decode bM_early 65 = .ok (.iload_n 2, 1) := by decide +kernel
theorem dM_early_66 : decode bM_early 66 = .ok (.if_icmp .eq 9, 3) := by decide +kernel
theorem dM_early_69 : decode bM_early 69 = .ok (.iinc 4 1, 3) := by decide +kernel
theorem dM_early_72 : decode bM_early 72 = .ok (.goto (-21), 3) := by decide +kernel
theorem dM_early_75 : decode bM_early 75 = .ok (.ldc 81, 2) := by decide +kernel
theorem dM_early_77 : decode bM_early 77 = .ok (.istore 5, 2) := by decide +kernel
theorem dM_early_79 : decode bM_early 79 = .ok (.iconst 0, 1) := by decide +kernel
theorem dM_early_80 : decode bM_early 80 = .ok (.istore 6, 2) := by decide +kernel
theorem dM_early_82 : decode bM_early 82 = .ok (.iload 6, 2) := by decide +kernel
theorem dM_early_84 : decode bM_early 84 = .ok (.bipush 24, 2) := by decide +kernel
theorem dM_early_86 : decode bM_early 86 = .ok (.if_icmp .gt 81, 3) := by decide +kernel
theorem dM_early_89 : decode bM_early 89 = .ok (.iload 5, 2) := by decide +kernel
theorem dM_early_91 : decode bM_early 91 = .ok (.ldc 81, 2) := by decide +kernel
theorem dM_early_93 : decode bM_early 93 = .ok (.if_icmp .ne 74, 3) := by decide +kernel
theorem dM_early_96 : decode bM_early 96 = .ok (.aload_n 0, 1) := by decide +kernel
theorem dM_early_97 : decode bM_early 97 = .ok (.invokevirtual 160, 3) := by decide +kernel
theorem dM_early_100 : decode bM_early 100 = .ok (.aload_n 0, 1) := by decide +kernel
theorem dM_early_101 : decode bM_early 101 = .ok (.iload_n 1, 1) := by decide +kernel
theorem dM_early_102 : decode bM_early 102 = .ok (.putfield 74, 3) := by decide +kernel
theorem dM_early_105 : decode bM_early 105 = .ok (.aload_n 0, 1) := by decide +kernel
theorem dM_early_106 : decode bM_early 106 = .ok (.iload_n 3, 1) := by decide +kernel
theorem dM_early_107 : decode bM_early 107 = .ok (.putfield 149, 3) := by decide +kernel
theorem dM_early_110 : decode bM_early 110 = .ok (.aload_n 0, 1) := by decide +kernel
theorem dM_early_111 : decode bM_early 111 = .ok (.iload 4, 2) := by decide +kernel
theorem dM_early_113 : decode bM_early 113 = .ok (.iconst 4, 1) := by decide +kernel
theorem dM_early_114 : decode bM_early 114 = .ok (.iload 6, 2) := by decide +kernel
theorem dM_early_116 : decode bM_early 116 = .ok (.imul, 1) := by decide +kernel
theorem dM_early_117 : decode bM_early 117 = .ok (.isub, 1) := by decide +kernel
theorem dM_early_118 : decode bM_early 118 = .ok (.putfield 146, 3) := by decide +kernel
theorem dM_early_121 : decode bM_early 121 = .ok (.aload_n 0, 1) := by decide +kernel
theorem dM_early_122 : decode bM_early 122 = .ok (.getfield 139, 3) := by decide +kernel
theorem dM_early_125 : decode bM_early 125 = .ok (.iload 4, 2) := by decide +kernel
theorem dM_early_127 : decode bM_early 127 = .ok (.if_icmp .ge 10, 3) := by decide +kernel
theorem dM_early_130 : decode bM_early 130 = .ok (.aload_n 0, 1) := by decide +kernel
theorem dM_early_131 : decode bM_early 131 = .ok (.invokevirtual 157, 3) := by decide +kernel
theorem dM_early_134 : decode bM_early 134 = .ok (.goto (-13), 3) := by decide +kernel
theorem dM_early_137 : decode bM_early 137 = .ok (.aload_n 0, 1) := by decide +kernel
theorem dM_early_138 : decode bM_early 138 = .ok (.iload_n 1, 1) := by decide +kernel
theorem dM_early_139 : decode bM_early 139 = .ok (.invokevirtual 126, 3) := by decide +kernel
theorem dM_early_142 : decode bM_early 142 = .ok (.iload_n 3, 1) := by decide +kernel
theorem dM_early_143 : decode bM_early 143 = .ok (.i2l, 1) := by decide +kernel
theorem dM_early_144 : decode bM_early 144 = .ok (.lcmp, 1) := by decide +kernel
theorem dM_early_145 : decode bM_early 145 = .ok (.ifCond .lt 8, 3) := by decide +kernel
theorem dM_early_148 : decode bM_early 148 = .ok (.iload 6, 2) := by decide +kernel
theorem dM_early_150 : decode bM_early 150 = .ok (.goto 5, 3) := by decide +kernel
theorem dM_early_153 : decode bM_early 153 = .ok (.ldc 81, 2) := by decide +kernel
theorem dM_early_155 : decode bM_early 155 = .ok (.istore 5, 2) := by decide +kernel
theorem dM_early_157 : decode bM_early 157 = .ok (.aload_n 0, 1) := by decide +kernel
theorem dM_early_158 : decode bM_early 158 = .ok (.invokevirtual 163, 3) := by decide +kernel
theorem dM_early_161 : decode bM_early 161 = .ok (.iinc 6 1, 3) := by decide +kernel
theorem dM_early_164 : decode bM_early 164 = .ok (.goto (-82), 3) := by decide +kernel
theorem dM_early_167 : decode bM_early 167 = .ok (.iload 5, 2) := by decide +kernel
theorem dM_early_169 : decode bM_early 169 = .ok (.ireturn, 1) := by decide +kernel
theorem dM_strong_0 : decode bM_strong 0 = .ok (.aload_n 0, 1) := by decide +kernel
theorem dM_strong_1 : decode bM_strong 1 = .ok (.aload_n 0, 1) := by decide +kernel
theorem dM_strong_2 : decode bM_strong 2 = .ok (.iload_n 1, 1) := by decide +kernel
theorem dM_strong_3 : decode bM_strong 3 = .ok (.invokevirtual 105, 3) := by decide +kernel
theorem dM_strong_6 : decode bM_strong 6 = .ok (.ifCond .eq 18, 3) := by decide +kernel
theorem dM_strong_9 : decode bM_strong 9 = .ok (.iload_n 2, 1) := by decide +kernel
theorem dM_strong_10 : decode bM_strong 10 = .ok (.iconst 1, 1) := by decide +kernel
theorem dM_strong_11 : decode bM_strong 11 = .ok (.sipush 192, 3) := by decide +kernel
theorem dM_strong_14 : decode bM_strong 14 = .ok (.invokestatic 85, 3) := by decide +kernel
theorem dM_strong_17 : decode bM_strong 17 = .ok (.ifCond .eq 7, 3) := by decide +kernel
theorem dM_strong_20 : decode bM_strong 20 = .ok (.iconst 0, 1) := by decide +kernel
theorem dM_strong_21 : decode bM_strong 21 = .ok (.goto 4, 3) := by decide +kernel
theorem dM_strong_24 : decode bM_strong 24 = .ok (.iconst 1, 1) := by decide +kernel
theorem dM_strong_25 : decode bM_strong 25 = .ok (.putfield 82, 3) := by decide +kernel
theorem dM_strong_28 : decode bM_strong 28 = .ok (.aload_n 0, 1) := by decide +kernel
theorem dM_strong_29 : decode bM_strong 29 = .ok (.getfield 82, 3) := by decide +kernel
theorem dM_strong_32 : decode bM_strong 32 = .ok (.ifCond .le 5, 3) := by decide +kernel
theorem dM_strong_35 : decode bM_strong 35 = .ok (.iconst 0, 1) := by decide +kernel
theorem dM_strong_36 : decode bM_strong 36 = .ok (.ireturn, 1) := by decide +kernel
theorem dM_strong_37 : decode bM_strong 37 = .ok (.aload_n 0, 1) := by decide +kernel
theorem dM_strong_38 : decode bM_strong 38 = .ok (.getfield 29, 3) := by decide +kernel
theorem dM_strong_41 : decode bM_strong 41 = .ok (.iload_n 1, 1) := by decide +kernel
theorem dM_strong_42 : decode bM_strong 42 = .ok (.iaload, 1) := by decide +kernel
theorem dM_strong_43 : decode bM_strong 43 = .ok (.istore_n 3, 1) := by decide +kernel
theorem dM_strong_44 : decode bM_strong 44 = .ok (.ldc 81, 2) := by decide +kernel
theorem dM_strong_46 : decode bM_strong 46 = .ok (.istore 4, 2) := by decide +kernel
theorem dM_strong_48 : decode bM_strong 48 = .ok (.iconst 0, 1) := by decide +kernel
theorem dM_strong_49 : decode bM_strong 49 = .ok (.istore 5, 2) := by decide +kernel
theorem dM_strong_51 : decode bM_strong 51 = .ok (.iload 5, 2) := by decide +kernel
theorem dM_strong_53 : decode bM_strong 53 = .ok (.ldc 156, 2) := by decide +kernel
theorem dM_strong_55 : decode bM_strong 55 = .ok (.if_icmp .gt 85, 3) := by decide +kernel
theorem dM_strong_58 : decode bM_strong 58 = .ok (.iload 4, 2) := by decide +kernel
theorem dM_strong_60 : decode bM_strong 60 = .ok (.ldc 81, 2) := by decide +kernel
theorem dM_strong_62 : decode bM_strong 62 = .ok (.if_icmp .ne 78, 3) := by decide +kernel
theorem dM_strong_65 : decode bM_strong 65 = .ok (.aload_n 0, 1) := by decide +kernel
theorem dM_strong_66 : decode bM_strong 66 = .ok (.invokevirtual 160, 3) := by decide +kernel
theorem dM_strong_69 : decode bM_strong 69 = .ok (.aload_n 0, 1) := by decide +kernel
theorem dM_strong_70 : decode bM_strong 70 = .ok (.getfield 29, 3) := by decide +kernel
theorem dM_strong_73 : decode bM_strong 73 = .ok (.iload_n 1, 1) := by decide +kernel
theorem dM_strong_74 : decode bM_strong 74 = .ok (.iload 5, 2) := by decide +kernel
theorem dM_strong_76 : decode bM_strong 76 = .ok (.iastore, 1) := by decide +kernel
theorem dM_strong_77 : decode bM_strong 77 = .ok (.aload_n 0, 1) := by decide +kernel
theorem dM_strong_78 : decode bM_strong 78 = .ok (.iload_n 1, 1) := by decide +kernel
theorem dM_strong_79 : decode bM_strong 79 = .ok (.putfield 74, 3) := by decide +kernel
theorem dM_strong_82 : decode bM_strong 82 = .ok (.aload_n 0, 1) := by decide +kernel
theorem dM_strong_83 : decode bM_strong 83 = .ok (.aload_n 0, 1) := by decide +kernel
theorem dM_strong_84 : decode bM_strong 84 = .ok (.getfield 139, 3) := by decide +kernel
theorem dM_strong_87 : decode bM_strong 87 = .ok (.iload_n 2, 1) := by decide +kernel
theorem dM_strong_88 : decode bM_strong 88 = .ok (.iadd, 1) := by decide +kernel
theorem dM_strong_89 : decode bM_strong 89 = .ok (.putfield 146, 3) := by decide +kernel
end
section
theorem dM_strong_92 : decode bM_strong 92 = .ok (.iconst 0, 1) := by decide +kernel
theorem dM_strong_93 : decode bM_strong 93 = .ok (.istore 6, 2) := by decide +kernel
theorem dM_strong_95 : decode bM_strong 95 = .ok (.iload 6, 2) := by decide +kernel
theorem dM_strong_97 : decode bM_strong 97 = .ok (.iload_n 2, 1) := by decide +kernel
theorem dM_strong_98 : decode bM_strong 98 = .ok (.if_icmp .ge 13, 3) := by decide +kernel
theorem dM_strong_101 : decode bM_strong 101 = .ok (.aload_n 0, 1) := by decide +kernel
theorem dM_strong_102 : decode bM_strong 102 = .ok (.invokevirtual 157, 3) := by decide +kernel
theorem dM_strong_105 : decode bM_strong 105 = .ok (.iinc 6 1, 3) := by decide +kernel
theorem dM_strong_108 : decode bM_strong 108 = .ok (.goto (-13), 3) := by decide +kernel
theorem dM_strong_111 : decode bM_strong 111 = .ok (.aload_n 0, 1) := by decide +kernel
theorem dM_strong_112 : decode bM_strong 112 = .ok (.getfield 152, 3) := by decide +kernel
theorem dM_strong_115 : decode bM_strong 115 = .ok (.ifCond .eq 8, 3) := by decide +kernel
theorem dM_strong_118 : decode bM_strong 118 = .ok (.ldc 81, 2) := by decide +kernel
theorem dM_strong_120 : decode bM_strong 120 = .ok (.goto 5, 3) := by decide +kernel
theorem dM_strong_123 : decode bM_strong 123 = .ok (.iload 5, 2) := by decide +kernel
theorem dM_strong_125 : decode bM_strong 125 = .ok (.istore 4, 2) := by decide +kernel
theorem dM_strong_127 : decode bM_strong 127 = .ok (.aload_n 0, 1) := by decide +kernel
theorem dM_strong_128 : decode bM_strong 128 = .ok (.invokevirtual 163, 3) := by decide +kernel
theorem dM_strong_131 : decode bM_strong 131 = .ok (.iinc 5 1000, 6) := by decide +kernel
theorem dM_strong_137 : decode bM_strong 137 = .ok (.goto (-86), 3) := by decide +kernel
theorem dM_strong_140 : decode bM_strong 140 = .ok (.aload_n 0, 1) := by decide +kernel
theorem dM_strong_141 : decode bM_strong 141 = .ok (.getfield 29, 3) := by decide +kernel
theorem dM_strong_144 : decode bM_strong 144 = .ok (.iload_n 1, 1) := by decide +kernel
theorem dM_strong_145 : decode bM_strong 145 = .ok (.iload_n 3, 1) := by decide +kernel
theorem dM_strong_146 : decode bM_strong 146 = .ok (.iastore, 1) := by decide +kernel
theorem dM_strong_147 : decode bM_strong 147 = .ok (.iload 4, 2) := by decide +kernel
theorem dM_strong_149 : decode bM_strong 149 = .ok (.ireturn, 1) := by decide +kernel
theorem dC_init_0 : decode bC_init 0 = .ok (.aload_n 0, 1) := by decide +kernel
theorem dC_init_1 : decode bC_init 1 = .ok (.invokespecial 3, 3) := by decide +kernel
theorem dC_init_4 : decode bC_init 4 = .ok (.aload_n 0, 1) := by decide +kernel
theorem dC_init_5 : decode bC_init 5 = .ok (.bipush 8, 2) := by decide +kernel
theorem dC_init_7 : decode bC_init 7 = .ok (.newarray .long, 2) := by decide +kernel
theorem dC_init_9 : decode bC_init 9 = .ok (.putfield 9, 3) := by decide +kernel
theorem dC_init_12 : decode bC_init 12 = .ok (.aload_n 0, 1) := by decide +kernel
theorem dC_init_13 : decode bC_init 13 = .ok (.bipush 8, 2) := by decide +kernel
theorem dC_init_15 : decode bC_init 15 = .ok (.newarray .long, 2) := by decide +kernel
theorem dC_init_17 : decode bC_init 17 = .ok (.putfield 15, 3) := by decide +kernel
theorem dC_init_20 : decode bC_init 20 = .ok (.aload_n 0, 1) := by decide +kernel
theorem dC_init_21 : decode bC_init 21 = .ok (.bipush 8, 2) := by decide +kernel
theorem dC_init_23 : decode bC_init 23 = .ok (.newarray .long, 2) := by decide +kernel
theorem dC_init_25 : decode bC_init 25 = .ok (.putfield 18, 3) := by decide +kernel
theorem dC_init_28 : decode bC_init 28 = .ok (.aload_n 0, 1) := by decide +kernel
theorem dC_init_29 : decode bC_init 29 = .ok (.bipush 8, 2) := by decide +kernel
theorem dC_init_31 : decode bC_init 31 = .ok (.newarray .long, 2) := by decide +kernel
theorem dC_init_33 : decode bC_init 33 = .ok (.putfield 21, 3) := by decide +kernel
theorem dC_init_36 : decode bC_init 36 = .ok (.aload_n 0, 1) := by decide +kernel
theorem dC_init_37 : decode bC_init 37 = .ok (.bipush 8, 2) := by decide +kernel
theorem dC_init_39 : decode bC_init 39 = .ok (.newarray .long, 2) := by decide +kernel
theorem dC_init_41 : decode bC_init 41 = .ok (.putfield 24, 3) := by decide +kernel
theorem dC_init_44 : decode bC_init 44 = .ok (.aload_n 0, 1) := by decide +kernel
theorem dC_init_45 : decode bC_init 45 = .ok (.bipush 8, 2) := by decide +kernel
theorem dC_init_47 : decode bC_init 47 = .ok (.newarray .int, 2) := by decide +kernel
theorem dC_init_49 : decode bC_init 49 = .ok (.putfield 27, 3) := by decide +kernel
theorem dC_init_52 : decode bC_init 52 = .ok (.aload_n 0, 1) := by decide +kernel
theorem dC_init_53 : decode bC_init 53 = .ok (.iconst (-1), 1) := by decide +kernel
theorem dC_init_54 : decode bC_init 54 = .ok (.putfield 31, 3) := by decide +kernel
theorem dC_init_57 : decode bC_init 57 = .ok (.aload_n 0, 1) := by decide +kernel
theorem dC_init_58 : decode bC_init 58 = .ok (.iconst (-1), 1) := by decide +kernel
theorem dC_init_59 : decode bC_init 59 = .ok (.putfield 35, 3) := by decide +kernel
theorem dC_init_62 : decode bC_init 62 = .ok (.aload_n 0, 1) := by decide +kernel
theorem dC_init_63 : decode bC_init 63 = .ok (.aload_n 1, 1) := by decide +kernel
theorem dC_init_64 : decode bC_init 64 = .ok (.putfield 38, 3) := by decide +kernel
theorem dC_init_67 : decode bC_init 67 = .ok (.return_, 1) := by decide +kernel
theorem dC_beginRoom_0 : decode bC_beginRoom 0 = .ok (.aload_n 0, 1) := by decide +kernel
theorem dC_beginRoom_1 : decode bC_beginRoom 1 = .ok (.getfield 9, 3) := by decide +kernel
theorem dC_beginRoom_4 : decode bC_beginRoom 4 = .ok (.iload_n 1, 1) := by decide +kernel
theorem dC_beginRoom_5 : decode bC_beginRoom 5 = .ok (.lload_n 2, 1) := by decide +kernel
theorem dC_beginRoom_6 : decode bC_beginRoom 6 = .ok (.lastore, 1) := by decide +kernel
theorem dC_beginRoom_7 : decode bC_beginRoom 7 = .ok (.aload_n 0, 1) := by decide +kernel
theorem dC_beginRoom_8 : decode bC_beginRoom 8 = .ok (.dup, 1) := by decide +kernel
theorem dC_beginRoom_9 : decode bC_beginRoom 9 = .ok (.getfield 42, 3) := by decide +kernel
theorem dC_beginRoom_12 : decode bC_beginRoom 12 = .ok (.lload_n 2, 1) := by decide +kernel
theorem dC_beginRoom_13 : decode bC_beginRoom 13 = .ok (.ladd, 1) := by decide +kernel
theorem dC_beginRoom_14 : decode bC_beginRoom 14 = .ok (.putfield 42, 3) := by decide +kernel
theorem dC_beginRoom_17 : decode bC_beginRoom 17 = .ok (.return_, 1) := by decide +kernel
theorem dC_copyOf_0 : decode bC_copyOf 0 = .ok (.aload_n 0, 1) := by decide +kernel
theorem dC_copyOf_1 : decode bC_copyOf 1 = .ok (.aload_n 1, 1) := by decide +kernel
theorem dC_copyOf_2 : decode bC_copyOf 2 = .ok (.getfield 46, 3) := by decide +kernel
theorem dC_copyOf_5 : decode bC_copyOf 5 = .ok (.putfield 46, 3) := by decide +kernel
theorem dC_copyOf_8 : decode bC_copyOf 8 = .ok (.aload_n 1, 1) := by decide +kernel
theorem dC_copyOf_9 : decode bC_copyOf 9 = .ok (.getfield 9, 3) := by decide +kernel
theorem dC_copyOf_12 : decode bC_copyOf 12 = .ok (.iconst 0, 1) := by decide +kernel
theorem dC_copyOf_13 : decode bC_copyOf 13 = .ok (.aload_n 0, 1) := by decide +kernel
theorem dC_copyOf_14 : decode bC_copyOf 14 = .ok (.getfield 9, 3) := by decide +kernel
theorem dC_copyOf_17 : decode bC_copyOf 17 = .ok (.iconst 0, 1) := by decide +kernel
theorem dC_copyOf_18 : decode bC_copyOf 18 = .ok (.bipush 8, 2) := by decide +kernel
theorem dC_copyOf_20 : decode bC_copyOf 20 = .ok (.invokestatic 49, 3) := by decide +kernel
theorem dC_copyOf_23 : decode bC_copyOf 23 = .ok (.aload_n 0, 1) := by decide +kernel
theorem dC_copyOf_24 : decode bC_copyOf 24 = .ok (.iconst (-1), 1) := by decide +kernel
theorem dC_copyOf_25 : decode bC_copyOf 25 = .ok (.putfield 31, 3) := by decide +kernel
theorem dC_copyOf_28 : decode bC_copyOf 28 = .ok (.aload_n 0, 1) := by decide +kernel
theorem dC_copyOf_29 : decode bC_copyOf 29 = .ok (.iconst (-1), 1) := by decide +kernel
theorem dC_copyOf_30 : decode bC_copyOf 30 = .ok (.putfield 35, 3) := by decide +kernel
theorem dC_copyOf_33 : decode bC_copyOf 33 = .ok (.aload_n 0, 1) := by decide +kernel
theorem dC_copyOf_34 : decode bC_copyOf 34 = .ok (.iconst 0, 1) := by decide +kernel
theorem dC_copyOf_35 : decode bC_copyOf 35 = .ok (.putfield 55, 3) := by decide +kernel
theorem dC_copyOf_38 : decode bC_copyOf 38 = .ok (.return_, 1) := by decide +kernel
theorem dC_trySet_0 : decode bC_trySet 0 = .ok (.aload_n 0, 1) := by decide +kernel
theorem dC_trySet_1 : decode bC_trySet 1 = .ok (.iload_n 1, 1) := by decide +kernel
theorem dC_trySet_2 : decode bC_trySet 2 = .ok (.putfield 31, 3) := by decide +kernel
theorem dC_trySet_5 : decode bC_trySet 5 = .ok (.aload_n 0, 1) := by decide +kernel
theorem dC_trySet_6 : decode bC_trySet 6 = .ok (.iload_n 2, 1) := by decide +kernel
theorem dC_trySet_7 : decode bC_trySet 7 = .ok (.putfield 59, 3) := by decide +kernel
theorem dC_trySet_10 : decode bC_trySet 10 = .ok (.aload_n 0, 1) := by decide +kernel
theorem dC_trySet_11 : decode bC_trySet 11 = .ok (.iload_n 3, 1) := by decide +kernel
theorem dC_trySet_12 : decode bC_trySet 12 = .ok (.putfield 62, 3) := by decide +kernel
theorem dC_trySet_15 : decode bC_trySet 15 = .ok (.return_, 1) := by decide +kernel
theorem dC_tryMost_0 : decode bC_tryMost 0 = .ok (.aload_n 0, 1) := by decide +kernel
theorem dC_tryMost_1 : decode bC_tryMost 1 = .ok (.iload_n 1, 1) := by decide +kernel
theorem dC_tryMost_2 : decode bC_tryMost 2 = .ok (.putfield 35, 3) := by decide +kernel
theorem dC_tryMost_5 : decode bC_tryMost 5 = .ok (.aload_n 0, 1) := by decide +kernel
theorem dC_tryMost_6 : decode bC_tryMost 6 = .ok (.iload_n 2, 1) := by decide +kernel
theorem dC_tryMost_7 : decode bC_tryMost 7 = .ok (.putfield 65, 3) := by decide +kernel
theorem dC_tryMost_10 : decode bC_tryMost 10 = .ok (.return_, 1) := by decide +kernel
theorem dC_warmthOf_0 : decode bC_warmthOf 0 = .ok (.aload_n 0, 1) := by decide +kernel
theorem dC_warmthOf_1 : decode bC_warmthOf 1 = .ok (.getfield 38, 3) := by decide +kernel
theorem dC_warmthOf_4 : decode bC_warmthOf 4 = .ok (.getfield 68, 3) := by decide +kernel
theorem dC_warmthOf_7 : decode bC_warmthOf 7 = .ok (.iload_n 1, 1) := by decide +kernel
theorem dC_warmthOf_8 : decode bC_warmthOf 8 = .ok (.iaload, 1) := by decide +kernel
theorem dC_warmthOf_9 : decode bC_warmthOf 9 = .ok (.i2l, 1) := by decide +kernel
theorem dC_warmthOf_10 : decode bC_warmthOf 10 = .ok (.lstore_n 2, 1) := by decide +kernel
theorem dC_warmthOf_11 : decode bC_warmthOf 11 = .ok (.lload_n 2, 1) := by decide +kernel
theorem dC_warmthOf_12 : decode bC_warmthOf 12 = .ok (.lconst 1, 1) := by decide +kernel
theorem dC_warmthOf_13 : decode bC_warmthOf 13 = .ok (.lcmp, 1) := by decide +kernel
theorem dC_warmthOf_14 : decode bC_warmthOf 14 = .ok (.ifCond .ge 7, 3) := by decide +kernel
theorem dC_warmthOf_17 : decode bC_warmthOf 17 = .ok (.lconst 0, 1) := by decide +kernel
theorem dC_warmthOf_18 : decode bC_warmthOf 18 = .ok (.goto 13, 3) := by decide +kernel
theorem dC_warmthOf_21 : decode bC_warmthOf 21 = .ok (.aload_n 0, 1) := by decide +kernel
theorem dC_warmthOf_22 : decode bC_warmthOf 22 = .ok (.getfield 9, 3) := by decide +kernel
theorem dC_warmthOf_25 : decode bC_warmthOf 25 = .ok (.iload_n 1, 1) := by decide +kernel
theorem dC_warmthOf_26 : decode bC_warmthOf 26 = .ok (.laload, 1) := by decide +kernel
theorem dC_warmthOf_27 : decode bC_warmthOf 27 = .ok (.lload_n 2, 1) := by decide +kernel
theorem dC_warmthOf_28 : decode bC_warmthOf 28 = .ok (.invokestatic 73, 3) := by decide +kernel
theorem dC_warmthOf_31 : decode bC_warmthOf 31 = .ok (.lreturn, 1) := by decide +kernel
theorem dC_sumOf_0 : decode bC_sumOf 0 = .ok (.lconst 0, 1) := by decide +kernel
theorem dC_sumOf_1 : decode bC_sumOf 1 = .ok (.lstore_n 2, 1) := by decide +kernel
theorem dC_sumOf_2 : decode bC_sumOf 2 = .ok (.iconst 0, 1) := by decide +kernel
theorem dC_sumOf_3 : decode bC_sumOf 3 = .ok (.istore 4, 2) := by decide +kernel
theorem dC_sumOf_5 : decode bC_sumOf 5 = .ok (.iload 4, 2) := by decide +kernel
theorem dC_sumOf_7 : decode bC_sumOf 7 = .ok (.aload_n 0, 1) := by decide +kernel
theorem dC_sumOf_8 : decode bC_sumOf 8 = .ok (.getfield 38, 3) := by decide +kernel
theorem dC_sumOf_11 : decode bC_sumOf 11 = .ok (.getfield 79, 3) := by decide +kernel
theorem dC_sumOf_14 : decode bC_sumOf 14 = .ok (.if_icmp .ge 16, 3) := by decide +kernel
theorem dC_sumOf_17 : decode bC_sumOf 17 = .ok (.lload_n 2, 1) := by decide +kernel
theorem dC_sumOf_18 : decode bC_sumOf 18 = .ok (.aload_n 1, 1) := by decide +kernel
theorem dC_sumOf_19 : decode bC_sumOf 19 = .ok (.iload 4, 2) := by decide +kernel
theorem dC_sumOf_21 : decode bC_sumOf 21 = .ok (.laload, 1) := by decide +kernel
theorem dC_sumOf_22 : decode bC_sumOf 22 = .ok (.ladd, 1) := by decide +kernel
theorem dC_sumOf_23 : decode bC_sumOf 23 = .ok (.lstore_n 2, 1) := by decide +kernel
theorem dC_sumOf_24 : decode bC_sumOf 24 = .ok (.iinc 4 1, 3) := by decide +kernel
theorem dC_sumOf_27 : decode bC_sumOf 27 = .ok (.goto (-22), 3) := by decide +kernel
theorem dC_sumOf_30 : decode bC_sumOf 30 = .ok (.lload_n 2, 1) := by decide +kernel
theorem dC_sumOf_31 : decode bC_sumOf 31 = .ok (.lreturn, 1) := by decide +kernel
theorem dC_nextBeginning_0 : decode bC_nextBeginning 0 = .ok (.iload_n 1, 1) := by decide +kernel
theorem dC_nextBeginning_1 : decode bC_nextBeginning 1 = .ok (.iconst 4, 1) := by decide +kernel
theorem dC_nextBeginning_2 : decode bC_nextBeginning 2 = .ok (.imul, 1) := by decide +kernel
theorem dC_nextBeginning_3 : decode bC_nextBeginning 3 = .ok (.aload_n 0, 1) := by decide +kernel
theorem dC_nextBeginning_4 : decode bC_nextBeginning 4 = .ok (.getfield 46, 3) := by decide +kernel
theorem dC_nextBeginning_7 : decode bC_nextBeginning 7 = .ok (.isub, 1) := by decide +kernel
theorem dC_nextBeginning_8 : decode bC_nextBeginning 8 = .ok (.bipush 96, 2) := by decide +kernel
theorem dC_nextBeginning_10 : decode bC_nextBeginning 10 = .ok (.invokestatic 82, 3) := by decide +kernel
theorem dC_nextBeginning_13 : decode bC_nextBeginning 13 = .ok (.istore_n 2, 1) := by decide +kernel
theorem dC_nextBeginning_14 : decode bC_nextBeginning 14 = .ok (.aload_n 0, 1) := by decide +kernel
theorem dC_nextBeginning_15 : decode bC_nextBeginning 15 = .ok (.getfield 46, 3) := by decide +kernel
theorem dC_nextBeginning_18 : decode bC_nextBeginning 18 = .ok (.iload_n 2, 1) := by decide +kernel
theorem dC_nextBeginning_19 : decode bC_nextBeginning 19 = .ok (.ifCond .ne 8, 3) := by decide +kernel
theorem dC_nextBeginning_22 : decode bC_nextBeginning 22 = .ok (.bipush 96, 2) := by decide +kernel
theorem dC_nextBeginning_24 : decode bC_nextBeginning 24 = .ok (.goto 4, 3) := by decide +kernel
theorem dC_nextBeginning_27 : decode bC_nextBeginning 27 = .ok (.iload_n 2, 1) := by decide +kernel
theorem dC_nextBeginning_28 : decode bC_nextBeginning 28 = .ok (.iadd, 1) := by decide +kernel
theorem dC_nextBeginning_29 : decode bC_nextBeginning 29 = .ok (.ireturn, 1) := by decide +kernel
theorem dC_staysUp_0 : decode bC_staysUp 0 = .ok (.iconst 0, 1) := by decide +kernel
theorem dC_staysUp_1 : decode bC_staysUp 1 = .ok (.istore_n 3, 1) := by decide +kernel
theorem dC_staysUp_2 : decode bC_staysUp 2 = .ok (.iload_n 3, 1) := by decide +kernel
theorem dC_staysUp_3 : decode bC_staysUp 3 = .ok (.iload_n 2, 1) := by decide +kernel
theorem dC_staysUp_4 : decode bC_staysUp 4 = .ok (.if_icmp .ge 55, 3) := by decide +kernel
theorem dC_staysUp_7 : decode bC_staysUp 7 = .ok (.aload_n 0, 1) := by decide +kernel
theorem dC_staysUp_8 : decode bC_staysUp 8 = .ok (.invokevirtual 86, 3) := by decide +kernel
theorem dC_staysUp_11 : decode bC_staysUp 11 = .ok (.istore 4, 2) := by decide +kernel
theorem dC_staysUp_13 : decode bC_staysUp 13 = .ok (.aload_n 0, 1) := by decide +kernel
theorem dC_staysUp_14 : decode bC_staysUp 14 = .ok (.invokevirtual 90, 3) := by decide +kernel
theorem dC_staysUp_17 : decode bC_staysUp 17 = .ok (.aload_n 0, 1) := by decide +kernel
theorem dC_staysUp_18 : decode bC_staysUp 18 = .ok (.invokevirtual 93, 3) := by decide +kernel
theorem dC_staysUp_21 : decode bC_staysUp 21 = .ok (.ifCond .eq 32, 3) := by decide +kernel
theorem dC_staysUp_24 : decode bC_staysUp 24 = .ok (.aload_n 0, 1) := by decide +kernel
theorem dC_staysUp_25 : decode bC_staysUp 25 = .ok (.iload_n 1, 1) := by decide +kernel
theorem dC_staysUp_26 : decode bC_staysUp 26 = .ok (.iload 4, 2) := by decide +kernel
theorem dC_staysUp_28 : decode bC_staysUp 28 = .ok (.invokevirtual 97, 3) := by decide +kernel
theorem dC_staysUp_31 : decode bC_staysUp 31 = .ok (.ifCond .eq 22, 3) := by decide +kernel
theorem dC_staysUp_34 : decode bC_staysUp 34 = .ok (.aload_n 0, 1) := by decide +kernel
theorem dC_staysUp_35 : decode bC_staysUp 35 = .ok (.iload_n 1, 1) := by decide +kernel
theorem dC_staysUp_36 : decode bC_staysUp 36 = .ok (.invokevirtual 101, 3) := by decide +kernel
theorem dC_staysUp_39 : decode bC_staysUp 39 = .ok (.aload_n 0, 1) := by decide +kernel
theorem dC_staysUp_40 : decode bC_staysUp 40 = .ok (.getfield 38, 3) := by decide +kernel
theorem dC_staysUp_43 : decode bC_staysUp 43 = .ok (.getfield 105, 3) := by decide +kernel
theorem dC_staysUp_46 : decode bC_staysUp 46 = .ok (.i2l, 1) := by decide +kernel
theorem dC_staysUp_47 : decode bC_staysUp 47 = .ok (.lcmp, 1) := by decide +kernel
theorem dC_staysUp_48 : decode bC_staysUp 48 = .ok (.ifCond .ge 5, 3) := by decide +kernel
theorem dC_staysUp_51 : decode bC_staysUp 51 = .ok (.iconst 0, 1) := by decide +kernel
theorem dC_staysUp_52 : decode bC_staysUp 52 = .ok (.ireturn, 1) := by decide +kernel
theorem dC_staysUp_53 : decode bC_staysUp 53 = .ok (.iinc 3 1, 3) := by decide +kernel
theorem dC_staysUp_56 : decode bC_staysUp 56 = .ok (.goto (-54), 3) := by decide +kernel
theorem dC_staysUp_59 : decode bC_staysUp 59 = .ok (.iconst 1, 1) := by decide +kernel
theorem dC_staysUp_60 : decode bC_staysUp 60 = .ok (.ireturn, 1) := by decide +kernel
theorem dC_step_0 : decode bC_step 0 = .ok (.aload_n 0, 1) := by decide +kernel
theorem dC_step_1 : decode bC_step 1 = .ok (.invokevirtual 86, 3) := by decide +kernel
theorem dC_step_4 : decode bC_step 4 = .ok (.istore_n 1, 1) := by decide +kernel
theorem dC_step_5 : decode bC_step 5 = .ok (.iconst 0, 1) := by decide +kernel
theorem dC_step_6 : decode bC_step 6 = .ok (.istore_n 2, 1) := by decide +kernel
theorem dC_step_7 : decode bC_step 7 = .ok (.iload_n 2, 1) := by decide +kernel
theorem dC_step_8 : decode bC_step 8 = .ok (.aload_n 0, 1) := by decide +kernel
theorem dC_step_9 : decode bC_step 9 = .ok (.getfield 38, 3) := by decide +kernel
theorem dC_step_12 : decode bC_step 12 = .ok (.getfield 79, 3) := by decide +kernel
theorem dC_step_15 : decode bC_step 15 = .ok (.if_icmp .ge 20, 3) := by decide +kernel
theorem dC_step_18 : decode bC_step 18 = .ok (.aload_n 0, 1) := by decide +kernel
theorem dC_step_19 : decode bC_step 19 = .ok (.getfield 15, 3) := by decide +kernel
theorem dC_step_22 : decode bC_step 22 = .ok (.iload_n 2, 1) := by decide +kernel
theorem dC_step_23 : decode bC_step 23 = .ok (.aload_n 0, 1) := by decide +kernel
theorem dC_step_24 : decode bC_step 24 = .ok (.iload_n 2, 1) := by decide +kernel
theorem dC_step_25 : decode bC_step 25 = .ok (.invokevirtual 101, 3) := by decide +kernel
theorem dC_step_28 : decode bC_step 28 = .ok (.lastore, 1) := by decide +kernel
theorem dC_step_29 : decode bC_step 29 = .ok (.iinc 2 1, 3) := by decide +kernel
theorem dC_step_32 : decode bC_step 32 = .ok (.goto (-25), 3) := by decide +kernel
theorem dC_step_35 : decode bC_step 35 = .ok (.aload_n 0, 1) := by decide +kernel
theorem dC_step_36 : decode bC_step 36 = .ok (.iload_n 1, 1) := by decide +kernel
theorem dC_step_37 : decode bC_step 37 = .ok (.invokevirtual 108, 3) := by decide +kernel
theorem dC_step_40 : decode bC_step 40 = .ok (.aload_n 0, 1) := by decide +kernel
theorem dC_step_41 : decode bC_step 41 = .ok (.iload_n 1, 1) := by decide +kernel
theorem dC_step_42 : decode bC_step 42 = .ok (.invokevirtual 112, 3) := by decide +kernel
theorem dC_step_45 : decode bC_step 45 = .ok (.iconst 0, 1) := by decide +kernel
theorem dC_step_46 : decode bC_step 46 = .ok (.istore_n 2, 1) := by decide +kernel
theorem dC_step_47 : decode bC_step 47 = .ok (.iload_n 2, 1) := by decide +kernel
theorem dC_step_48 : decode bC_step 48 = .ok (.aload_n 0, 1) := by decide +kernel
theorem dC_step_49 : decode bC_step 49 = .ok (.getfield 38, 3) := by decide +kernel
theorem dC_step_52 : decode bC_step 52 = .ok (.getfield 79, 3) := by decide +kernel
theorem dC_step_55 : decode bC_step 55 = .ok (.if_icmp .ge 27, 3) := by decide +kernel
theorem dC_step_58 : decode bC_step 58 = .ok (.aload_n 0, 1) := by decide +kernel
theorem dC_step_59 : decode bC_step 59 = .ok (.iload_n 2, 1) := by decide +kernel
theorem dC_step_60 : decode bC_step 60 = .ok (.iload_n 1, 1) := by decide +kernel
theorem dC_step_61 : decode bC_step 61 = .ok (.invokevirtual 115, 3) := by decide +kernel
theorem dC_step_64 : decode bC_step 64 = .ok (.aload_n 0, 1) := by decide +kernel
theorem dC_step_65 : decode bC_step 65 = .ok (.iload_n 2, 1) := by decide +kernel
theorem dC_step_66 : decode bC_step 66 = .ok (.iload_n 1, 1) := by decide +kernel
theorem dC_step_67 : decode bC_step 67 = .ok (.invokevirtual 119, 3) := by decide +kernel
theorem dC_step_70 : decode bC_step 70 = .ok (.aload_n 0, 1) := by decide +kernel
theorem dC_step_71 : decode bC_step 71 = .ok (.iload_n 2, 1) := by decide +kernel
theorem dC_step_72 : decode bC_step 72 = .ok (.iload_n 1, 1) := by decide +kernel
theorem dC_step_73 : decode bC_step 73 = .ok (.invokevirtual 122, 3) := by decide +kernel
theorem dC_step_76 : decode bC_step 76 = .ok (.iinc 2 1, 3) := by decide +kernel
theorem dC_step_79 : decode bC_step 79 = .ok (.goto (-32), 3) := by decide +kernel
theorem dC_step_82 : decode bC_step 82 = .ok (.aload_n 0, 1) := by decide +kernel
theorem dC_step_83 : decode bC_step 83 = .ok (.dup, 1) := by decide +kernel
theorem dC_step_84 : decode bC_step 84 = .ok (.getfield 46, 3) := by decide +kernel
theorem dC_step_87 : decode bC_step 87 = .ok (.iconst 1, 1) := by decide +kernel
theorem dC_step_88 : decode bC_step 88 = .ok (.iadd, 1) := by decide +kernel
theorem dC_step_89 : decode bC_step 89 = .ok (.putfield 46, 3) := by decide +kernel
theorem dC_step_92 : decode bC_step 92 = .ok (.aload_n 0, 1) := by decide +kernel
theorem dC_step_93 : decode bC_step 93 = .ok (.invokevirtual 93, 3) := by decide +kernel
theorem dC_step_96 : decode bC_step 96 = .ok (.ifCond .eq 8, 3) := by decide +kernel
theorem dC_step_99 : decode bC_step 99 = .ok (.aload_n 0, 1) := by decide +kernel
theorem dC_step_100 : decode bC_step 100 = .ok (.iload_n 1, 1) := by decide +kernel
theorem dC_step_101 : decode bC_step 101 = .ok (.invokevirtual 125, 3) := by decide +kernel
theorem dC_step_104 : decode bC_step 104 = .ok (.return_, 1) := by decide +kernel
theorem dC_hourOfDay_0 : decode bC_hourOfDay 0 = .ok (.aload_n 0, 1) := by decide +kernel
theorem dC_hourOfDay_1 : decode bC_hourOfDay 1 = .ok (.getfield 46, 3) := by decide +kernel
theorem dC_hourOfDay_4 : decode bC_hourOfDay 4 = .ok (.iconst 4, 1) := by decide +kernel
theorem dC_hourOfDay_5 : decode bC_hourOfDay 5 = .ok (.idiv, 1) := by decide +kernel
theorem dC_hourOfDay_6 : decode bC_hourOfDay 6 = .ok (.bipush 24, 2) := by decide +kernel
theorem dC_hourOfDay_8 : decode bC_hourOfDay 8 = .ok (.irem, 1) := by decide +kernel
theorem dC_hourOfDay_9 : decode bC_hourOfDay 9 = .ok (.ireturn, 1) := by decide +kernel
theorem dC_hourEnds_0 : decode bC_hourEnds 0 = .ok (.aload_n 0, 1) := by decide +kernel
theorem dC_hourEnds_1 : decode bC_hourEnds 1 = .ok (.getfield 46, 3) := by decide +kernel
theorem dC_hourEnds_4 : decode bC_hourEnds 4 = .ok (.iconst 4, 1) := by decide +kernel
theorem dC_hourEnds_5 : decode bC_hourEnds 5 = .ok (.irem, 1) := by decide +kernel
theorem dC_hourEnds_6 : decode bC_hourEnds 6 = .ok (.ifCond .ne 7, 3) := by decide +kernel
theorem dC_hourEnds_9 : decode bC_hourEnds 9 = .ok (.iconst 1, 1) := by decide +kernel
theorem dC_hourEnds_10 : decode bC_hourEnds 10 = .ok (.goto 4, 3) := by decide +kernel
theorem dC_hourEnds_13 : decode bC_hourEnds 13 = .ok (.iconst 0, 1) := by decide +kernel
theorem dC_hourEnds_14 : decode bC_hourEnds 14 = .ok (.ireturn, 1) := by decide +kernel
theorem dC_planned_0 : decode bC_planned 0 = .ok (.aload_n 0, 1) := by decide +kernel
theorem dC_planned_1 : decode bC_planned 1 = .ok (.getfield 38, 3) := by decide +kernel
theorem dC_planned_4 : decode bC_planned 4 = .ok (.getfield 128, 3) := by decide +kernel
theorem dC_planned_7 : decode bC_planned 7 = .ok (.iload_n 1, 1) := by decide +kernel
theorem dC_planned_8 : decode bC_planned 8 = .ok (.aaload, 1) := by decide +kernel
theorem dC_planned_9 : decode bC_planned 9 = .ok (.iload_n 2, 1) := by decide +kernel
theorem dC_planned_10 : decode bC_planned 10 = .ok (.bipush 24, 2) := by decide +kernel
theorem dC_planned_12 : decode bC_planned 12 = .ok (.imul, 1) := by decide +kernel
theorem dC_planned_13 : decode bC_planned 13 = .ok (.iload_n 3, 1) := by decide +kernel
theorem dC_planned_14 : decode bC_planned 14 = .ok (.iadd, 1) := by decide +kernel
theorem dC_planned_15 : decode bC_planned 15 = .ok (.iaload, 1) := by decide +kernel
theorem dC_planned_16 : decode bC_planned 16 = .ok (.ireturn, 1) := by decide +kernel
theorem dC_hasPersons_0 : decode bC_hasPersons 0 = .ok (.aload_n 0, 1) := by decide +kernel
theorem dC_hasPersons_1 : decode bC_hasPersons 1 = .ok (.iconst 0, 1) := by decide +kernel
theorem dC_hasPersons_2 : decode bC_hasPersons 2 = .ok (.iload_n 1, 1) := by decide +kernel
theorem dC_hasPersons_3 : decode bC_hasPersons 3 = .ok (.iload_n 2, 1) := by decide +kernel
theorem dC_hasPersons_4 : decode bC_hasPersons 4 = .ok (.invokevirtual 132, 3) := by decide +kernel
theorem dC_hasPersons_7 : decode bC_hasPersons 7 = .ok (.ifCond .le 7, 3) := by decide +kernel
theorem dC_hasPersons_10 : decode bC_hasPersons 10 = .ok (.iconst 1, 1) := by decide +kernel
theorem dC_hasPersons_11 : decode bC_hasPersons 11 = .ok (.goto 4, 3) := by decide +kernel
theorem dC_hasPersons_14 : decode bC_hasPersons 14 = .ok (.iconst 0, 1) := by decide +kernel
theorem dC_hasPersons_15 : decode bC_hasPersons 15 = .ok (.ireturn, 1) := by decide +kernel
theorem dC_passWalls_0 : decode bC_passWalls 0 = .ok (.iconst 0, 1) := by decide +kernel
theorem dC_passWalls_1 : decode bC_passWalls 1 = .ok (.istore_n 2, 1) := by decide +kernel
theorem dC_passWalls_2 : decode bC_passWalls 2 = .ok (.iload_n 2, 1) := by decide +kernel
theorem dC_passWalls_3 : decode bC_passWalls 3 = .ok (.aload_n 0, 1) := by decide +kernel
theorem dC_passWalls_4 : decode bC_passWalls 4 = .ok (.getfield 38, 3) := by decide +kernel
theorem dC_passWalls_7 : decode bC_passWalls 7 = .ok (.getfield 136, 3) := by decide +kernel
theorem dC_passWalls_10 : decode bC_passWalls 10 = .ok (.if_icmp .ge 127, 3) := by decide +kernel
theorem dC_passWalls_13 : decode bC_passWalls 13 = .ok (.aload_n 0, 1) := by decide +kernel
theorem dC_passWalls_14 : decode bC_passWalls 14 = .ok (.getfield 38, 3) := by decide +kernel
theorem dC_passWalls_17 : decode bC_passWalls 17 = .ok (.getfield 139, 3) := by decide +kernel
theorem dC_passWalls_20 : decode bC_passWalls 20 = .ok (.iload_n 2, 1) := by decide +kernel
theorem dC_passWalls_21 : decode bC_passWalls 21 = .ok (.iaload, 1) := by decide +kernel
theorem dC_passWalls_22 : decode bC_passWalls 22 = .ok (.istore_n 3, 1) := by decide +kernel
theorem dC_passWalls_23 : decode bC_passWalls 23 = .ok (.aload_n 0, 1) := by decide +kernel
theorem dC_passWalls_24 : decode bC_passWalls 24 = .ok (.getfield 38, 3) := by decide +kernel
theorem dC_passWalls_27 : decode bC_passWalls 27 = .ok (.getfield 142, 3) := by decide +kernel
theorem dC_passWalls_30 : decode bC_passWalls 30 = .ok (.iload_n 2, 1) := by decide +kernel
theorem dC_passWalls_31 : decode bC_passWalls 31 = .ok (.iaload, 1) := by decide +kernel
theorem dC_passWalls_32 : decode bC_passWalls 32 = .ok (.istore 4, 2) := by decide +kernel
theorem dC_passWalls_34 : decode bC_passWalls 34 = .ok (.iload 4, 2) := by decide +kernel
theorem dC_passWalls_36 : decode bC_passWalls 36 = .ok (.iconst (-1), 1) := by decide +kernel
theorem dC_passWalls_37 : decode bC_passWalls 37 = .ok (.if_icmp .ne 16, 3) := by decide +kernel
theorem dC_passWalls_40 : decode bC_passWalls 40 = .ok (.aload_n 0, 1) := by decide +kernel
theorem dC_passWalls_41 : decode bC_passWalls 41 = .ok (.getfield 38, 3) := by decide +kernel
theorem dC_passWalls_44 : decode bC_passWalls 44 = .ok (.getfield 145, 3) := by decide +kernel
theorem dC_passWalls_47 : decode bC_passWalls 47 = .ok (.iload_n 1, 1) := by decide +kernel
theorem dC_passWalls_48 : decode bC_passWalls 48 = .ok (.iaload, 1) := by decide +kernel
theorem dC_passWalls_49 : decode bC_passWalls 49 = .ok (.i2l, 1) := by decide +kernel
theorem dC_passWalls_50 : decode bC_passWalls 50 = .ok (.goto 10, 3) := by decide +kernel
theorem dC_passWalls_53 : decode bC_passWalls 53 = .ok (.aload_n 0, 1) := by decide +kernel
theorem dC_passWalls_54 : decode bC_passWalls 54 = .ok (.getfield 15, 3) := by decide +kernel
theorem dC_passWalls_57 : decode bC_passWalls 57 = .ok (.iload 4, 2) := by decide +kernel
theorem dC_passWalls_59 : decode bC_passWalls 59 = .ok (.laload, 1) := by decide +kernel
theorem dC_passWalls_60 : decode bC_passWalls 60 = .ok (.lstore 5, 2) := by decide +kernel
theorem dC_passWalls_62 : decode bC_passWalls 62 = .ok (.aload_n 0, 1) := by decide +kernel
theorem dC_passWalls_63 : decode bC_passWalls 63 = .ok (.getfield 15, 3) := by decide +kernel
theorem dC_passWalls_66 : decode bC_passWalls 66 = .ok (.iload_n 3, 1) := by decide +kernel
theorem dC_passWalls_67 : decode bC_passWalls 67 = .ok (.laload, 1) := by decide +kernel
theorem dC_passWalls_68 : decode bC_passWalls 68 = .ok (.lload 5, 2) := by decide +kernel
theorem dC_passWalls_70 : decode bC_passWalls 70 = .ok (.lsub, 1) := by decide +kernel
theorem dC_passWalls_71 : decode bC_passWalls 71 = .ok (.aload_n 0, 1) := by decide +kernel
theorem dC_passWalls_72 : decode bC_passWalls 72 = .ok (.getfield 38, 3) := by decide +kernel
theorem dC_passWalls_75 : decode bC_passWalls 75 = .ok (.getfield 148, 3) := by decide +kernel
theorem dC_passWalls_78 : decode bC_passWalls 78 = .ok (.iload_n 2, 1) := by decide +kernel
theorem dC_passWalls_79 : decode bC_passWalls 79 = .ok (.iaload, 1) := by decide +kernel
theorem dC_passWalls_80 : decode bC_passWalls 80 = .ok (.i2l, 1) := by decide +kernel
theorem dC_passWalls_81 : decode bC_passWalls 81 = .ok (.lmul, 1) := by decide +kernel
theorem dC_passWalls_82 : decode bC_passWalls 82 = .ok (.ldc2_w 151, 3) := by decide +kernel
theorem dC_passWalls_85 : decode bC_passWalls 85 = .ok (.ldiv, 1) := by decide +kernel
theorem dC_passWalls_86 : decode bC_passWalls 86 = .ok (.lstore 7, 2) := by decide +kernel
theorem dC_passWalls_88 : decode bC_passWalls 88 = .ok (.aload_n 0, 1) := by decide +kernel
theorem dC_passWalls_89 : decode bC_passWalls 89 = .ok (.getfield 9, 3) := by decide +kernel
theorem dC_passWalls_92 : decode bC_passWalls 92 = .ok (.iload_n 3, 1) := by decide +kernel
theorem dC_passWalls_93 : decode bC_passWalls 93 = .ok (.dup2, 1) := by decide +kernel
theorem dC_passWalls_94 : decode bC_passWalls 94 = .ok (.laload, 1) := by decide +kernel
theorem dC_passWalls_95 : decode bC_passWalls 95 = .ok (.lload 7, 2) := by decide +kernel
theorem dC_passWalls_97 : decode bC_passWalls 97 = .ok (.lsub, 1) := by decide +kernel
theorem dC_passWalls_98 : decode bC_passWalls 98 = .ok (.lastore, 1) := by decide +kernel
theorem dC_passWalls_99 : decode bC_passWalls 99 = .ok (.iload 4, 2) := by decide +kernel
theorem dC_passWalls_101 : decode bC_passWalls 101 = .ok (.iconst (-1), 1) := by decide +kernel
theorem dC_passWalls_102 : decode bC_passWalls 102 = .ok (.if_icmp .ne 17, 3) := by decide +kernel
theorem dC_passWalls_105 : decode bC_passWalls 105 = .ok (.aload_n 0, 1) := by decide +kernel
theorem dC_passWalls_106 : decode bC_passWalls 106 = .ok (.dup, 1) := by decide +kernel
theorem dC_passWalls_107 : decode bC_passWalls 107 = .ok (.getfield 153, 3) := by decide +kernel
theorem dC_passWalls_110 : decode bC_passWalls 110 = .ok (.lload 7, 2) := by decide +kernel
theorem dC_passWalls_112 : decode bC_passWalls 112 = .ok (.ladd, 1) := by decide +kernel
theorem dC_passWalls_113 : decode bC_passWalls 113 = .ok (.putfield 153, 3) := by decide +kernel
theorem dC_passWalls_116 : decode bC_passWalls 116 = .ok (.goto 15, 3) := by decide +kernel
theorem dC_passWalls_119 : decode bC_passWalls 119 = .ok (.aload_n 0, 1) := by decide +kernel
theorem dC_passWalls_120 : decode bC_passWalls 120 = .ok (.getfield 9, 3) := by decide +kernel
theorem dC_passWalls_123 : decode bC_passWalls 123 = .ok (.iload 4, 2) := by decide +kernel
theorem dC_passWalls_125 : decode bC_passWalls 125 = .ok (.dup2, 1) := by decide +kernel
theorem dC_passWalls_126 : decode bC_passWalls 126 = .ok (.laload, 1) := by decide +kernel
theorem dC_passWalls_127 : decode bC_passWalls 127 = .ok (.lload 7, 2) := by decide +kernel
theorem dC_passWalls_129 : decode bC_passWalls 129 = .ok (.ladd, 1) := by decide +kernel
theorem dC_passWalls_130 : decode bC_passWalls 130 = .ok (.lastore, 1) := by decide +kernel
theorem dC_passWalls_131 : decode bC_passWalls 131 = .ok (.iinc 2 1, 3) := by decide +kernel
theorem dC_passWalls_134 : decode bC_passWalls 134 = .ok (.goto (-132), 3) := by decide +kernel
theorem dC_passWalls_137 : decode bC_passWalls 137 = .ok (.return_, 1) := by decide +kernel
theorem dC_passWindows_0 : decode bC_passWindows 0 = .ok (.iconst 0, 1) := by decide +kernel
theorem dC_passWindows_1 : decode bC_passWindows 1 = .ok (.istore_n 2, 1) := by decide +kernel
theorem dC_passWindows_2 : decode bC_passWindows 2 = .ok (.iload_n 2, 1) := by decide +kernel
theorem dC_passWindows_3 : decode bC_passWindows 3 = .ok (.aload_n 0, 1) := by decide +kernel
theorem dC_passWindows_4 : decode bC_passWindows 4 = .ok (.getfield 38, 3) := by decide +kernel
theorem dC_passWindows_7 : decode bC_passWindows 7 = .ok (.getfield 156, 3) := by decide +kernel
theorem dC_passWindows_10 : decode bC_passWindows 10 = .ok (.if_icmp .ge 103, 3) := by decide +kernel
theorem dC_passWindows_13 : decode bC_passWindows 13 = .ok (.aload_n 0, 1) := by decide +kernel
theorem dC_passWindows_14 : decode bC_passWindows 14 = .ok (.getfield 38, 3) := by decide +kernel
theorem dC_passWindows_17 : decode bC_passWindows 17 = .ok (.getfield 159, 3) := by decide +kernel
theorem dC_passWindows_20 : decode bC_passWindows 20 = .ok (.iload_n 2, 1) := by decide +kernel
theorem dC_passWindows_21 : decode bC_passWindows 21 = .ok (.iaload, 1) := by decide +kernel
theorem dC_passWindows_22 : decode bC_passWindows 22 = .ok (.istore_n 3, 1) := by decide +kernel
theorem dC_passWindows_23 : decode bC_passWindows 23 = .ok (.aload_n 0, 1) := by decide +kernel
theorem dC_passWindows_24 : decode bC_passWindows 24 = .ok (.getfield 38, 3) := by decide +kernel
theorem dC_passWindows_27 : decode bC_passWindows 27 = .ok (.getfield 162, 3) := by decide +kernel
theorem dC_passWindows_30 : decode bC_passWindows 30 = .ok (.iload_n 2, 1) := by decide +kernel
theorem dC_passWindows_31 : decode bC_passWindows 31 = .ok (.iaload, 1) := by decide +kernel
theorem dC_passWindows_32 : decode bC_passWindows 32 = .ok (.aload_n 0, 1) := by decide +kernel
theorem dC_passWindows_33 : decode bC_passWindows 33 = .ok (.getfield 38, 3) := by decide +kernel
theorem dC_passWindows_36 : decode bC_passWindows 36 = .ok (.getfield 165, 3) := by decide +kernel
theorem dC_passWindows_39 : decode bC_passWindows 39 = .ok (.aload_n 0, 1) := by decide +kernel
theorem dC_passWindows_40 : decode bC_passWindows 40 = .ok (.getfield 38, 3) := by decide +kernel
theorem dC_passWindows_43 : decode bC_passWindows 43 = .ok (.getfield 168, 3) := by decide +kernel
theorem dC_passWindows_46 : decode bC_passWindows 46 = .ok (.iload_n 2, 1) := by decide +kernel
theorem dC_passWindows_47 : decode bC_passWindows 47 = .ok (.iaload, 1) := by decide +kernel
theorem dC_passWindows_48 : decode bC_passWindows 48 = .ok (.aaload, 1) := by decide +kernel
theorem dC_passWindows_49 : decode bC_passWindows 49 = .ok (.iload_n 1, 1) := by decide +kernel
theorem dC_passWindows_50 : decode bC_passWindows 50 = .ok (.iaload, 1) := by decide +kernel
theorem dC_passWindows_51 : decode bC_passWindows 51 = .ok (.imul, 1) := by decide +kernel
theorem dC_passWindows_52 : decode bC_passWindows 52 = .ok (.bipush 10, 2) := by decide +kernel
theorem dC_passWindows_54 : decode bC_passWindows 54 = .ok (.idiv, 1) := by decide +kernel
theorem dC_passWindows_55 : decode bC_passWindows 55 = .ok (.istore 4, 2) := by decide +kernel
theorem dC_passWindows_57 : decode bC_passWindows 57 = .ok (.aload_n 0, 1) := by decide +kernel
theorem dC_passWindows_58 : decode bC_passWindows 58 = .ok (.getfield 15, 3) := by decide +kernel
theorem dC_passWindows_61 : decode bC_passWindows 61 = .ok (.iload_n 3, 1) := by decide +kernel
theorem dC_passWindows_62 : decode bC_passWindows 62 = .ok (.laload, 1) := by decide +kernel
theorem dC_passWindows_63 : decode bC_passWindows 63 = .ok (.aload_n 0, 1) := by decide +kernel
theorem dC_passWindows_64 : decode bC_passWindows 64 = .ok (.getfield 38, 3) := by decide +kernel
theorem dC_passWindows_67 : decode bC_passWindows 67 = .ok (.getfield 171, 3) := by decide +kernel
theorem dC_passWindows_70 : decode bC_passWindows 70 = .ok (.iload_n 2, 1) := by decide +kernel
theorem dC_passWindows_71 : decode bC_passWindows 71 = .ok (.iaload, 1) := by decide +kernel
theorem dC_passWindows_72 : decode bC_passWindows 72 = .ok (.i2l, 1) := by decide +kernel
theorem dC_passWindows_73 : decode bC_passWindows 73 = .ok (.lcmp, 1) := by decide +kernel
theorem dC_passWindows_74 : decode bC_passWindows 74 = .ok (.ifCond .le 9, 3) := by decide +kernel
theorem dC_passWindows_77 : decode bC_passWindows 77 = .ok (.iload 4, 2) := by decide +kernel
theorem dC_passWindows_79 : decode bC_passWindows 79 = .ok (.iconst 4, 1) := by decide +kernel
theorem dC_passWindows_80 : decode bC_passWindows 80 = .ok (.idiv, 1) := by decide +kernel
theorem dC_passWindows_81 : decode bC_passWindows 81 = .ok (.istore 4, 2) := by decide +kernel
theorem dC_passWindows_83 : decode bC_passWindows 83 = .ok (.aload_n 0, 1) := by decide +kernel
theorem dC_passWindows_84 : decode bC_passWindows 84 = .ok (.getfield 9, 3) := by decide +kernel
theorem dC_passWindows_87 : decode bC_passWindows 87 = .ok (.iload_n 3, 1) := by decide +kernel
theorem dC_passWindows_88 : decode bC_passWindows 88 = .ok (.dup2, 1) := by decide +kernel
theorem dC_passWindows_89 : decode bC_passWindows 89 = .ok (.laload, 1) := by decide +kernel
theorem dC_passWindows_90 : decode bC_passWindows 90 = .ok (.iload 4, 2) := by decide +kernel
theorem dC_passWindows_92 : decode bC_passWindows 92 = .ok (.i2l, 1) := by decide +kernel
theorem dC_passWindows_93 : decode bC_passWindows 93 = .ok (.ladd, 1) := by decide +kernel
theorem dC_passWindows_94 : decode bC_passWindows 94 = .ok (.lastore, 1) := by decide +kernel
theorem dC_passWindows_95 : decode bC_passWindows 95 = .ok (.aload_n 0, 1) := by decide +kernel
theorem dC_passWindows_96 : decode bC_passWindows 96 = .ok (.dup, 1) := by decide +kernel
theorem dC_passWindows_97 : decode bC_passWindows 97 = .ok (.getfield 174, 3) := by decide +kernel
theorem dC_passWindows_100 : decode bC_passWindows 100 = .ok (.iload 4, 2) := by decide +kernel
theorem dC_passWindows_102 : decode bC_passWindows 102 = .ok (.i2l, 1) := by decide +kernel
theorem dC_passWindows_103 : decode bC_passWindows 103 = .ok (.ladd, 1) := by decide +kernel
theorem dC_passWindows_104 : decode bC_passWindows 104 = .ok (.putfield 174, 3) := by decide +kernel
theorem dC_passWindows_107 : decode bC_passWindows 107 = .ok (.iinc 2 1, 3) := by decide +kernel
theorem dC_passWindows_110 : decode bC_passWindows 110 = .ok (.goto (-108), 3) := by decide +kernel
theorem dC_passWindows_113 : decode bC_passWindows 113 = .ok (.return_, 1) := by decide +kernel
theorem dC_bringPersons_0 : decode bC_bringPersons 0 = .ok (.aload_n 0, 1) := by decide +kernel
theorem dC_bringPersons_1 : decode bC_bringPersons 1 = .ok (.iconst 0, 1) := by decide +kernel
theorem dC_bringPersons_2 : decode bC_bringPersons 2 = .ok (.iload_n 1, 1) := by decide +kernel
theorem dC_bringPersons_3 : decode bC_bringPersons 3 = .ok (.iload_n 2, 1) := by decide +kernel
theorem dC_bringPersons_4 : decode bC_bringPersons 4 = .ok (.invokevirtual 132, 3) := by decide +kernel
theorem dC_bringPersons_7 : decode bC_bringPersons 7 = .ok (.bipush 100, 2) := by decide +kernel
theorem dC_bringPersons_9 : decode bC_bringPersons 9 = .ok (.imul, 1) := by decide +kernel
theorem dC_bringPersons_10 : decode bC_bringPersons 10 = .ok (.istore_n 3, 1) := by decide +kernel
theorem dC_bringPersons_11 : decode bC_bringPersons 11 = .ok (.aload_n 0, 1) := by decide +kernel
theorem dC_bringPersons_12 : decode bC_bringPersons 12 = .ok (.getfield 9, 3) := by decide +kernel
theorem dC_bringPersons_15 : decode bC_bringPersons 15 = .ok (.iload_n 1, 1) := by decide +kernel
theorem dC_bringPersons_16 : decode bC_bringPersons 16 = .ok (.dup2, 1) := by decide +kernel
theorem dC_bringPersons_17 : decode bC_bringPersons 17 = .ok (.laload, 1) := by decide +kernel
theorem dC_bringPersons_18 : decode bC_bringPersons 18 = .ok (.iload_n 3, 1) := by decide +kernel
theorem dC_bringPersons_19 : decode bC_bringPersons 19 = .ok (.i2l, 1) := by decide +kernel
theorem dC_bringPersons_20 : decode bC_bringPersons 20 = .ok (.ladd, 1) := by decide +kernel
theorem dC_bringPersons_21 : decode bC_bringPersons 21 = .ok (.lastore, 1) := by decide +kernel
theorem dC_bringPersons_22 : decode bC_bringPersons 22 = .ok (.aload_n 0, 1) := by decide +kernel
theorem dC_bringPersons_23 : decode bC_bringPersons 23 = .ok (.dup, 1) := by decide +kernel
theorem dC_bringPersons_24 : decode bC_bringPersons 24 = .ok (.getfield 177, 3) := by decide +kernel
theorem dC_bringPersons_27 : decode bC_bringPersons 27 = .ok (.iload_n 3, 1) := by decide +kernel
theorem dC_bringPersons_28 : decode bC_bringPersons 28 = .ok (.i2l, 1) := by decide +kernel
theorem dC_bringPersons_29 : decode bC_bringPersons 29 = .ok (.ladd, 1) := by decide +kernel
theorem dC_bringPersons_30 : decode bC_bringPersons 30 = .ok (.putfield 177, 3) := by decide +kernel
theorem dC_bringPersons_33 : decode bC_bringPersons 33 = .ok (.return_, 1) := by decide +kernel
theorem dC_heatUp_0 : decode bC_heatUp 0 = .ok (.aload_n 0, 1) := by decide +kernel
theorem dC_heatUp_1 : decode bC_heatUp 1 = .ok (.iload_n 1, 1) := by decide +kernel
theorem dC_heatUp_2 : decode bC_heatUp 2 = .ok (.iload_n 2, 1) := by decide +kernel
theorem dC_heatUp_3 : decode bC_heatUp 3 = .ok (.invokevirtual 180, 3) := by decide +kernel
theorem dC_heatUp_6 : decode bC_heatUp 6 = .ok (.istore_n 3, 1) := by decide +kernel
theorem dC_heatUp_7 : decode bC_heatUp 7 = .ok (.iload_n 3, 1) := by decide +kernel
theorem dC_heatUp_8 : decode bC_heatUp 8 = .ok (.ldc 183, 2) := by decide +kernel
theorem dC_heatUp_10 : decode bC_heatUp 10 = .ok (.if_icmp .ne 4, 3) := by decide +kernel
theorem dC_heatUp_13 : decode bC_heatUp 13 = .ok (.return_, 1) := by decide +kernel
theorem dC_heatUp_14 : decode bC_heatUp 14 = .ok (.aload_n 0, 1) := by decide +kernel
theorem dC_heatUp_15 : decode bC_heatUp 15 = .ok (.getfield 38, 3) := by decide +kernel
theorem dC_heatUp_18 : decode bC_heatUp 18 = .ok (.getfield 68, 3) := by decide +kernel
theorem dC_heatUp_21 : decode bC_heatUp 21 = .ok (.iload_n 1, 1) := by decide +kernel
theorem dC_heatUp_22 : decode bC_heatUp 22 = .ok (.iaload, 1) := by decide +kernel
theorem dC_heatUp_23 : decode bC_heatUp 23 = .ok (.i2l, 1) := by decide +kernel
theorem dC_heatUp_24 : decode bC_heatUp 24 = .ok (.iload_n 3, 1) := by decide +kernel
theorem dC_heatUp_25 : decode bC_heatUp 25 = .ok (.i2l, 1) := by decide +kernel
theorem dC_heatUp_26 : decode bC_heatUp 26 = .ok (.lmul, 1) := by decide +kernel
theorem dC_heatUp_27 : decode bC_heatUp 27 = .ok (.aload_n 0, 1) := by decide +kernel
theorem dC_heatUp_28 : decode bC_heatUp 28 = .ok (.getfield 9, 3) := by decide +kernel
theorem dC_heatUp_31 : decode bC_heatUp 31 = .ok (.iload_n 1, 1) := by decide +kernel
theorem dC_heatUp_32 : decode bC_heatUp 32 = .ok (.laload, 1) := by decide +kernel
theorem dC_heatUp_33 : decode bC_heatUp 33 = .ok (.lsub, 1) := by decide +kernel
theorem dC_heatUp_34 : decode bC_heatUp 34 = .ok (.lstore 4, 2) := by decide +kernel
theorem dC_heatUp_36 : decode bC_heatUp 36 = .ok (.lload 4, 2) := by decide +kernel
theorem dC_heatUp_38 : decode bC_heatUp 38 = .ok (.lconst 0, 1) := by decide +kernel
theorem dC_heatUp_39 : decode bC_heatUp 39 = .ok (.lcmp, 1) := by decide +kernel
theorem dC_heatUp_40 : decode bC_heatUp 40 = .ok (.ifCond .gt 4, 3) := by decide +kernel
theorem dC_heatUp_43 : decode bC_heatUp 43 = .ok (.return_, 1) := by decide +kernel
theorem dC_heatUp_44 : decode bC_heatUp 44 = .ok (.aload_n 0, 1) := by decide +kernel
theorem dC_heatUp_45 : decode bC_heatUp 45 = .ok (.iload_n 1, 1) := by decide +kernel
theorem dC_heatUp_46 : decode bC_heatUp 46 = .ok (.invokevirtual 184, 3) := by decide +kernel
theorem dC_heatUp_49 : decode bC_heatUp 49 = .ok (.i2l, 1) := by decide +kernel
theorem dC_heatUp_50 : decode bC_heatUp 50 = .ok (.lstore 6, 2) := by decide +kernel
theorem dC_heatUp_52 : decode bC_heatUp 52 = .ok (.iload_n 1, 1) := by decide +kernel
theorem dC_heatUp_53 : decode bC_heatUp 53 = .ok (.aload_n 0, 1) := by decide +kernel
theorem dC_heatUp_54 : decode bC_heatUp 54 = .ok (.getfield 35, 3) := by decide +kernel
theorem dC_heatUp_57 : decode bC_heatUp 57 = .ok (.if_icmp .ne 16, 3) := by decide +kernel
theorem dC_heatUp_60 : decode bC_heatUp 60 = .ok (.lload 4, 2) := by decide +kernel
theorem dC_heatUp_62 : decode bC_heatUp 62 = .ok (.lload 6, 2) := by decide +kernel
theorem dC_heatUp_64 : decode bC_heatUp 64 = .ok (.lcmp, 1) := by decide +kernel
theorem dC_heatUp_65 : decode bC_heatUp 65 = .ok (.ifCond .le 8, 3) := by decide +kernel
theorem dC_heatUp_68 : decode bC_heatUp 68 = .ok (.aload_n 0, 1) := by decide +kernel
theorem dC_heatUp_69 : decode bC_heatUp 69 = .ok (.iconst 1, 1) := by decide +kernel
theorem dC_heatUp_70 : decode bC_heatUp 70 = .ok (.putfield 55, 3) := by decide +kernel
theorem dC_heatUp_73 : decode bC_heatUp 73 = .ok (.lload 4, 2) := by decide +kernel
theorem dC_heatUp_75 : decode bC_heatUp 75 = .ok (.lload 6, 2) := by decide +kernel
theorem dC_heatUp_77 : decode bC_heatUp 77 = .ok (.invokestatic 188, 3) := by decide +kernel
theorem dC_heatUp_80 : decode bC_heatUp 80 = .ok (.lstore 8, 2) := by decide +kernel
theorem dC_heatUp_82 : decode bC_heatUp 82 = .ok (.aload_n 0, 1) := by decide +kernel
theorem dC_heatUp_83 : decode bC_heatUp 83 = .ok (.getfield 9, 3) := by decide +kernel
theorem dC_heatUp_86 : decode bC_heatUp 86 = .ok (.iload_n 1, 1) := by decide +kernel
theorem dC_heatUp_87 : decode bC_heatUp 87 = .ok (.dup2, 1) := by decide +kernel
theorem dC_heatUp_88 : decode bC_heatUp 88 = .ok (.laload, 1) := by decide +kernel
theorem dC_heatUp_89 : decode bC_heatUp 89 = .ok (.lload 8, 2) := by decide +kernel
theorem dC_heatUp_91 : decode bC_heatUp 91 = .ok (.ladd, 1) := by decide +kernel
theorem dC_heatUp_92 : decode bC_heatUp 92 = .ok (.lastore, 1) := by decide +kernel
theorem dC_heatUp_93 : decode bC_heatUp 93 = .ok (.aload_n 0, 1) := by decide +kernel
theorem dC_heatUp_94 : decode bC_heatUp 94 = .ok (.getfield 18, 3) := by decide +kernel
theorem dC_heatUp_97 : decode bC_heatUp 97 = .ok (.iload_n 1, 1) := by decide +kernel
theorem dC_heatUp_98 : decode bC_heatUp 98 = .ok (.dup2, 1) := by decide +kernel
theorem dC_heatUp_99 : decode bC_heatUp 99 = .ok (.laload, 1) := by decide +kernel
theorem dC_heatUp_100 : decode bC_heatUp 100 = .ok (.lload 8, 2) := by decide +kernel
theorem dC_heatUp_102 : decode bC_heatUp 102 = .ok (.ladd, 1) := by decide +kernel
theorem dC_heatUp_103 : decode bC_heatUp 103 = .ok (.lastore, 1) := by decide +kernel
theorem dC_heatUp_104 : decode bC_heatUp 104 = .ok (.aload_n 0, 1) := by decide +kernel
theorem dC_heatUp_105 : decode bC_heatUp 105 = .ok (.getfield 24, 3) := by decide +kernel
theorem dC_heatUp_108 : decode bC_heatUp 108 = .ok (.iload_n 1, 1) := by decide +kernel
theorem dC_heatUp_109 : decode bC_heatUp 109 = .ok (.aload_n 0, 1) := by decide +kernel
theorem dC_heatUp_110 : decode bC_heatUp 110 = .ok (.getfield 24, 3) := by decide +kernel
theorem dC_heatUp_113 : decode bC_heatUp 113 = .ok (.iload_n 1, 1) := by decide +kernel
theorem dC_heatUp_114 : decode bC_heatUp 114 = .ok (.laload, 1) := by decide +kernel
theorem dC_heatUp_115 : decode bC_heatUp 115 = .ok (.lload 8, 2) := by decide +kernel
theorem dC_heatUp_117 : decode bC_heatUp 117 = .ok (.invokestatic 191, 3) := by decide +kernel
theorem dC_heatUp_120 : decode bC_heatUp 120 = .ok (.lastore, 1) := by decide +kernel
theorem dC_heatUp_121 : decode bC_heatUp 121 = .ok (.return_, 1) := by decide +kernel
theorem dC_setOf_0 : decode bC_setOf 0 = .ok (.iload_n 1, 1) := by decide +kernel
theorem dC_setOf_1 : decode bC_setOf 1 = .ok (.aload_n 0, 1) := by decide +kernel
theorem dC_setOf_2 : decode bC_setOf 2 = .ok (.getfield 31, 3) := by decide +kernel
theorem dC_setOf_5 : decode bC_setOf 5 = .ok (.if_icmp .ne 21, 3) := by decide +kernel
theorem dC_setOf_8 : decode bC_setOf 8 = .ok (.aload_n 0, 1) := by decide +kernel
theorem dC_setOf_9 : decode bC_setOf 9 = .ok (.getfield 46, 3) := by decide +kernel
theorem dC_setOf_12 : decode bC_setOf 12 = .ok (.aload_n 0, 1) := by decide +kernel
theorem dC_setOf_13 : decode bC_setOf 13 = .ok (.getfield 62, 3) := by decide +kernel
theorem dC_setOf_16 : decode bC_setOf 16 = .ok (.if_icmp .lt 10, 3) := by decide +kernel
theorem dC_setOf_19 : decode bC_setOf 19 = .ok (.aload_n 0, 1) := by decide +kernel
theorem dC_setOf_20 : decode bC_setOf 20 = .ok (.getfield 59, 3) := by decide +kernel
theorem dC_setOf_23 : decode bC_setOf 23 = .ok (.goto 10, 3) := by decide +kernel
theorem dC_setOf_26 : decode bC_setOf 26 = .ok (.aload_n 0, 1) := by decide +kernel
theorem dC_setOf_27 : decode bC_setOf 27 = .ok (.iconst 1, 1) := by decide +kernel
theorem dC_setOf_28 : decode bC_setOf 28 = .ok (.iload_n 1, 1) := by decide +kernel
theorem dC_setOf_29 : decode bC_setOf 29 = .ok (.iload_n 2, 1) := by decide +kernel
theorem dC_setOf_30 : decode bC_setOf 30 = .ok (.invokevirtual 132, 3) := by decide +kernel
theorem dC_setOf_33 : decode bC_setOf 33 = .ok (.ireturn, 1) := by decide +kernel
theorem dC_heatingOf_0 : decode bC_heatingOf 0 = .ok (.iload_n 1, 1) := by decide +kernel
theorem dC_heatingOf_1 : decode bC_heatingOf 1 = .ok (.aload_n 0, 1) := by decide +kernel
theorem dC_heatingOf_2 : decode bC_heatingOf 2 = .ok (.getfield 35, 3) := by decide +kernel
theorem dC_heatingOf_5 : decode bC_heatingOf 5 = .ok (.if_icmp .ne 10, 3) := by decide +kernel
theorem dC_heatingOf_8 : decode bC_heatingOf 8 = .ok (.aload_n 0, 1) := by decide +kernel
theorem dC_heatingOf_9 : decode bC_heatingOf 9 = .ok (.getfield 65, 3) := by decide +kernel
theorem dC_heatingOf_12 : decode bC_heatingOf 12 = .ok (.goto 14, 3) := by decide +kernel
theorem dC_heatingOf_15 : decode bC_heatingOf 15 = .ok (.aload_n 0, 1) := by decide +kernel
theorem dC_heatingOf_16 : decode bC_heatingOf 16 = .ok (.getfield 38, 3) := by decide +kernel
theorem dC_heatingOf_19 : decode bC_heatingOf 19 = .ok (.getfield 194, 3) := by decide +kernel
theorem dC_heatingOf_22 : decode bC_heatingOf 22 = .ok (.iconst 0, 1) := by decide +kernel
theorem dC_heatingOf_23 : decode bC_heatingOf 23 = .ok (.aaload, 1) := by decide +kernel
theorem dC_heatingOf_24 : decode bC_heatingOf 24 = .ok (.iload_n 1, 1) := by decide +kernel
theorem dC_heatingOf_25 : decode bC_heatingOf 25 = .ok (.iaload, 1) := by decide +kernel
theorem dC_heatingOf_26 : decode bC_heatingOf 26 = .ok (.ireturn, 1) := by decide +kernel
theorem dC_coolDown_0 : decode bC_coolDown 0 = .ok (.aload_n 0, 1) := by decide +kernel
theorem dC_coolDown_1 : decode bC_coolDown 1 = .ok (.iconst 2, 1) := by decide +kernel
theorem dC_coolDown_2 : decode bC_coolDown 2 = .ok (.iload_n 1, 1) := by decide +kernel
theorem dC_coolDown_3 : decode bC_coolDown 3 = .ok (.iload_n 2, 1) := by decide +kernel
theorem dC_coolDown_4 : decode bC_coolDown 4 = .ok (.invokevirtual 132, 3) := by decide +kernel
theorem dC_coolDown_7 : decode bC_coolDown 7 = .ok (.istore_n 3, 1) := by decide +kernel
theorem dC_coolDown_8 : decode bC_coolDown 8 = .ok (.iload_n 3, 1) := by decide +kernel
theorem dC_coolDown_9 : decode bC_coolDown 9 = .ok (.ldc 183, 2) := by decide +kernel
theorem dC_coolDown_11 : decode bC_coolDown 11 = .ok (.if_icmp .ne 4, 3) := by decide +kernel
theorem dC_coolDown_14 : decode bC_coolDown 14 = .ok (.return_, 1) := by decide +kernel
theorem dC_coolDown_15 : decode bC_coolDown 15 = .ok (.aload_n 0, 1) := by decide +kernel
theorem dC_coolDown_16 : decode bC_coolDown 16 = .ok (.getfield 9, 3) := by decide +kernel
theorem dC_coolDown_19 : decode bC_coolDown 19 = .ok (.iload_n 1, 1) := by decide +kernel
theorem dC_coolDown_20 : decode bC_coolDown 20 = .ok (.laload, 1) := by decide +kernel
theorem dC_coolDown_21 : decode bC_coolDown 21 = .ok (.aload_n 0, 1) := by decide +kernel
theorem dC_coolDown_22 : decode bC_coolDown 22 = .ok (.getfield 38, 3) := by decide +kernel
theorem dC_coolDown_25 : decode bC_coolDown 25 = .ok (.getfield 68, 3) := by decide +kernel
theorem dC_coolDown_28 : decode bC_coolDown 28 = .ok (.iload_n 1, 1) := by decide +kernel
end
section
theorem dC_coolDown_29 : decode bC_coolDown 29 = .ok (.iaload, 1) := by decide +kernel
theorem dC_coolDown_30 : decode bC_coolDown 30 = .ok (.i2l, 1) := by decide +kernel
theorem dC_coolDown_31 : decode bC_coolDown 31 = .ok (.iload_n 3, 1) := by decide +kernel
theorem dC_coolDown_32 : decode bC_coolDown 32 = .ok (.i2l, 1) := by decide +kernel
theorem dC_coolDown_33 : decode bC_coolDown 33 = .ok (.lmul, 1) := by decide +kernel
theorem dC_coolDown_34 : decode bC_coolDown 34 = .ok (.lsub, 1) := by decide +kernel
theorem dC_coolDown_35 : decode bC_coolDown 35 = .ok (.lstore 4, 2) := by decide +kernel
theorem dC_coolDown_37 : decode bC_coolDown 37 = .ok (.lload 4, 2) := by decide +kernel
theorem dC_coolDown_39 : decode bC_coolDown 39 = .ok (.lconst 0, 1) := by decide +kernel
theorem dC_coolDown_40 : decode bC_coolDown 40 = .ok (.lcmp, 1) := by decide +kernel
theorem dC_coolDown_41 : decode bC_coolDown 41 = .ok (.ifCond .gt 4, 3) := by decide +kernel
theorem dC_coolDown_44 : decode bC_coolDown 44 = .ok (.return_, 1) := by decide +kernel
theorem dC_coolDown_45 : decode bC_coolDown 45 = .ok (.lload 4, 2) := by decide +kernel
theorem dC_coolDown_47 : decode bC_coolDown 47 = .ok (.aload_n 0, 1) := by decide +kernel
theorem dC_coolDown_48 : decode bC_coolDown 48 = .ok (.getfield 38, 3) := by decide +kernel
theorem dC_coolDown_51 : decode bC_coolDown 51 = .ok (.getfield 194, 3) := by decide +kernel
theorem dC_coolDown_54 : decode bC_coolDown 54 = .ok (.iconst 1, 1) := by decide +kernel
theorem dC_coolDown_55 : decode bC_coolDown 55 = .ok (.aaload, 1) := by decide +kernel
theorem dC_coolDown_56 : decode bC_coolDown 56 = .ok (.iload_n 1, 1) := by decide +kernel
theorem dC_coolDown_57 : decode bC_coolDown 57 = .ok (.iaload, 1) := by decide +kernel
theorem dC_coolDown_58 : decode bC_coolDown 58 = .ok (.i2l, 1) := by decide +kernel
theorem dC_coolDown_59 : decode bC_coolDown 59 = .ok (.invokestatic 188, 3) := by decide +kernel
theorem dC_coolDown_62 : decode bC_coolDown 62 = .ok (.lstore 6, 2) := by decide +kernel
theorem dC_coolDown_64 : decode bC_coolDown 64 = .ok (.aload_n 0, 1) := by decide +kernel
theorem dC_coolDown_65 : decode bC_coolDown 65 = .ok (.getfield 9, 3) := by decide +kernel
theorem dC_coolDown_68 : decode bC_coolDown 68 = .ok (.iload_n 1, 1) := by decide +kernel
theorem dC_coolDown_69 : decode bC_coolDown 69 = .ok (.dup2, 1) := by decide +kernel
theorem dC_coolDown_70 : decode bC_coolDown 70 = .ok (.laload, 1) := by decide +kernel
theorem dC_coolDown_71 : decode bC_coolDown 71 = .ok (.lload 6, 2) := by decide +kernel
theorem dC_coolDown_73 : decode bC_coolDown 73 = .ok (.lsub, 1) := by decide +kernel
theorem dC_coolDown_74 : decode bC_coolDown 74 = .ok (.lastore, 1) := by decide +kernel
theorem dC_coolDown_75 : decode bC_coolDown 75 = .ok (.aload_n 0, 1) := by decide +kernel
theorem dC_coolDown_76 : decode bC_coolDown 76 = .ok (.getfield 21, 3) := by decide +kernel
theorem dC_coolDown_79 : decode bC_coolDown 79 = .ok (.iload_n 1, 1) := by decide +kernel
theorem dC_coolDown_80 : decode bC_coolDown 80 = .ok (.dup2, 1) := by decide +kernel
theorem dC_coolDown_81 : decode bC_coolDown 81 = .ok (.laload, 1) := by decide +kernel
theorem dC_coolDown_82 : decode bC_coolDown 82 = .ok (.lload 6, 2) := by decide +kernel
theorem dC_coolDown_84 : decode bC_coolDown 84 = .ok (.ladd, 1) := by decide +kernel
theorem dC_coolDown_85 : decode bC_coolDown 85 = .ok (.lastore, 1) := by decide +kernel
theorem dC_coolDown_86 : decode bC_coolDown 86 = .ok (.return_, 1) := by decide +kernel
theorem dC_countUneasy_0 : decode bC_countUneasy 0 = .ok (.iconst 0, 1) := by decide +kernel
theorem dC_countUneasy_1 : decode bC_countUneasy 1 = .ok (.istore_n 2, 1) := by decide +kernel
theorem dC_countUneasy_2 : decode bC_countUneasy 2 = .ok (.iload_n 2, 1) := by decide +kernel
theorem dC_countUneasy_3 : decode bC_countUneasy 3 = .ok (.aload_n 0, 1) := by decide +kernel
theorem dC_countUneasy_4 : decode bC_countUneasy 4 = .ok (.getfield 38, 3) := by decide +kernel
theorem dC_countUneasy_7 : decode bC_countUneasy 7 = .ok (.getfield 79, 3) := by decide +kernel
theorem dC_countUneasy_10 : decode bC_countUneasy 10 = .ok (.if_icmp .ge 60, 3) := by decide +kernel
theorem dC_countUneasy_13 : decode bC_countUneasy 13 = .ok (.aload_n 0, 1) := by decide +kernel
theorem dC_countUneasy_14 : decode bC_countUneasy 14 = .ok (.iload_n 2, 1) := by decide +kernel
theorem dC_countUneasy_15 : decode bC_countUneasy 15 = .ok (.invokevirtual 101, 3) := by decide +kernel
theorem dC_countUneasy_18 : decode bC_countUneasy 18 = .ok (.lstore_n 3, 1) := by decide +kernel
theorem dC_countUneasy_19 : decode bC_countUneasy 19 = .ok (.aload_n 0, 1) := by decide +kernel
theorem dC_countUneasy_20 : decode bC_countUneasy 20 = .ok (.iload_n 2, 1) := by decide +kernel
theorem dC_countUneasy_21 : decode bC_countUneasy 21 = .ok (.iload_n 1, 1) := by decide +kernel
theorem dC_countUneasy_22 : decode bC_countUneasy 22 = .ok (.invokevirtual 97, 3) := by decide +kernel
theorem dC_countUneasy_25 : decode bC_countUneasy 25 = .ok (.ifCond .eq 39, 3) := by decide +kernel
theorem dC_countUneasy_28 : decode bC_countUneasy 28 = .ok (.lload_n 3, 1) := by decide +kernel
theorem dC_countUneasy_29 : decode bC_countUneasy 29 = .ok (.aload_n 0, 1) := by decide +kernel
theorem dC_countUneasy_30 : decode bC_countUneasy 30 = .ok (.getfield 38, 3) := by decide +kernel
theorem dC_countUneasy_33 : decode bC_countUneasy 33 = .ok (.getfield 105, 3) := by decide +kernel
theorem dC_countUneasy_36 : decode bC_countUneasy 36 = .ok (.i2l, 1) := by decide +kernel
theorem dC_countUneasy_37 : decode bC_countUneasy 37 = .ok (.lcmp, 1) := by decide +kernel
theorem dC_countUneasy_38 : decode bC_countUneasy 38 = .ok (.ifCond .lt 16, 3) := by decide +kernel
theorem dC_countUneasy_41 : decode bC_countUneasy 41 = .ok (.lload_n 3, 1) := by decide +kernel
theorem dC_countUneasy_42 : decode bC_countUneasy 42 = .ok (.aload_n 0, 1) := by decide +kernel
theorem dC_countUneasy_43 : decode bC_countUneasy 43 = .ok (.getfield 38, 3) := by decide +kernel
theorem dC_countUneasy_46 : decode bC_countUneasy 46 = .ok (.getfield 197, 3) := by decide +kernel
theorem dC_countUneasy_49 : decode bC_countUneasy 49 = .ok (.i2l, 1) := by decide +kernel
theorem dC_countUneasy_50 : decode bC_countUneasy 50 = .ok (.lcmp, 1) := by decide +kernel
theorem dC_countUneasy_51 : decode bC_countUneasy 51 = .ok (.ifCond .le 13, 3) := by decide +kernel
theorem dC_countUneasy_54 : decode bC_countUneasy 54 = .ok (.aload_n 0, 1) := by decide +kernel
theorem dC_countUneasy_55 : decode bC_countUneasy 55 = .ok (.getfield 27, 3) := by decide +kernel
theorem dC_countUneasy_58 : decode bC_countUneasy 58 = .ok (.iload_n 2, 1) := by decide +kernel
theorem dC_countUneasy_59 : decode bC_countUneasy 59 = .ok (.dup2, 1) := by decide +kernel
theorem dC_countUneasy_60 : decode bC_countUneasy 60 = .ok (.iaload, 1) := by decide +kernel
theorem dC_countUneasy_61 : decode bC_countUneasy 61 = .ok (.iconst 1, 1) := by decide +kernel
theorem dC_countUneasy_62 : decode bC_countUneasy 62 = .ok (.iadd, 1) := by decide +kernel
theorem dC_countUneasy_63 : decode bC_countUneasy 63 = .ok (.iastore, 1) := by decide +kernel
theorem dC_countUneasy_64 : decode bC_countUneasy 64 = .ok (.iinc 2 1, 3) := by decide +kernel
theorem dC_countUneasy_67 : decode bC_countUneasy 67 = .ok (.goto (-65), 3) := by decide +kernel
theorem dC_countUneasy_70 : decode bC_countUneasy 70 = .ok (.return_, 1) := by decide +kernel
theorem dH_init_0 : decode bH_init 0 = .ok (.aload_n 0, 1) := by decide +kernel
theorem dH_init_1 : decode bH_init 1 = .ok (.invokespecial 3, 3) := by decide +kernel
theorem dH_init_4 : decode bH_init 4 = .ok (.aload_n 0, 1) := by decide +kernel
theorem dH_init_5 : decode bH_init 5 = .ok (.bipush 8, 2) := by decide +kernel
theorem dH_init_7 : decode bH_init 7 = .ok (.newarray .int, 2) := by decide +kernel
theorem dH_init_9 : decode bH_init 9 = .ok (.putfield 9, 3) := by decide +kernel
theorem dH_init_12 : decode bH_init 12 = .ok (.aload_n 0, 1) := by decide +kernel
theorem dH_init_13 : decode bH_init 13 = .ok (.bipush 8, 2) := by decide +kernel
theorem dH_init_15 : decode bH_init 15 = .ok (.newarray .int, 2) := by decide +kernel
theorem dH_init_17 : decode bH_init 17 = .ok (.putfield 15, 3) := by decide +kernel
theorem dH_init_20 : decode bH_init 20 = .ok (.aload_n 0, 1) := by decide +kernel
theorem dH_init_21 : decode bH_init 21 = .ok (.iconst 2, 1) := by decide +kernel
theorem dH_init_22 : decode bH_init 22 = .ok (.bipush 8, 2) := by decide +kernel
theorem dH_init_24 : decode bH_init 24 = .ok (.multianewarray 18 2, 4) := by decide +kernel
theorem dH_init_28 : decode bH_init 28 = .ok (.putfield 20, 3) := by decide +kernel
theorem dH_init_31 : decode bH_init 31 = .ok (.aload_n 0, 1) := by decide +kernel
theorem dH_init_32 : decode bH_init 32 = .ok (.iconst 3, 1) := by decide +kernel
theorem dH_init_33 : decode bH_init 33 = .ok (.sipush 192, 3) := by decide +kernel
theorem dH_init_36 : decode bH_init 36 = .ok (.multianewarray 18 2, 4) := by decide +kernel
theorem dH_init_40 : decode bH_init 40 = .ok (.putfield 23, 3) := by decide +kernel
theorem dH_init_43 : decode bH_init 43 = .ok (.aload_n 0, 1) := by decide +kernel
theorem dH_init_44 : decode bH_init 44 = .ok (.bipush 20, 2) := by decide +kernel
theorem dH_init_46 : decode bH_init 46 = .ok (.newarray .int, 2) := by decide +kernel
theorem dH_init_48 : decode bH_init 48 = .ok (.putfield 26, 3) := by decide +kernel
theorem dH_init_51 : decode bH_init 51 = .ok (.aload_n 0, 1) := by decide +kernel
theorem dH_init_52 : decode bH_init 52 = .ok (.bipush 20, 2) := by decide +kernel
theorem dH_init_54 : decode bH_init 54 = .ok (.newarray .int, 2) := by decide +kernel
theorem dH_init_56 : decode bH_init 56 = .ok (.putfield 29, 3) := by decide +kernel
theorem dH_init_59 : decode bH_init 59 = .ok (.aload_n 0, 1) := by decide +kernel
theorem dH_init_60 : decode bH_init 60 = .ok (.bipush 20, 2) := by decide +kernel
theorem dH_init_62 : decode bH_init 62 = .ok (.newarray .int, 2) := by decide +kernel
theorem dH_init_64 : decode bH_init 64 = .ok (.putfield 32, 3) := by decide +kernel
theorem dH_init_67 : decode bH_init 67 = .ok (.aload_n 0, 1) := by decide +kernel
theorem dH_init_68 : decode bH_init 68 = .ok (.bipush 12, 2) := by decide +kernel
theorem dH_init_70 : decode bH_init 70 = .ok (.newarray .int, 2) := by decide +kernel
theorem dH_init_72 : decode bH_init 72 = .ok (.putfield 35, 3) := by decide +kernel
theorem dH_init_75 : decode bH_init 75 = .ok (.aload_n 0, 1) := by decide +kernel
theorem dH_init_76 : decode bH_init 76 = .ok (.bipush 12, 2) := by decide +kernel
theorem dH_init_78 : decode bH_init 78 = .ok (.newarray .int, 2) := by decide +kernel
theorem dH_init_80 : decode bH_init 80 = .ok (.putfield 38, 3) := by decide +kernel
theorem dH_init_83 : decode bH_init 83 = .ok (.aload_n 0, 1) := by decide +kernel
theorem dH_init_84 : decode bH_init 84 = .ok (.bipush 12, 2) := by decide +kernel
theorem dH_init_86 : decode bH_init 86 = .ok (.newarray .int, 2) := by decide +kernel
theorem dH_init_88 : decode bH_init 88 = .ok (.putfield 41, 3) := by decide +kernel
theorem dH_init_91 : decode bH_init 91 = .ok (.aload_n 0, 1) := by decide +kernel
theorem dH_init_92 : decode bH_init 92 = .ok (.bipush 12, 2) := by decide +kernel
theorem dH_init_94 : decode bH_init 94 = .ok (.newarray .int, 2) := by decide +kernel
theorem dH_init_96 : decode bH_init 96 = .ok (.putfield 44, 3) := by decide +kernel
theorem dH_init_99 : decode bH_init 99 = .ok (.aload_n 0, 1) := by decide +kernel
theorem dH_init_100 : decode bH_init 100 = .ok (.bipush 24, 2) := by decide +kernel
theorem dH_init_102 : decode bH_init 102 = .ok (.newarray .int, 2) := by decide +kernel
theorem dH_init_104 : decode bH_init 104 = .ok (.putfield 47, 3) := by decide +kernel
theorem dH_init_107 : decode bH_init 107 = .ok (.aload_n 0, 1) := by decide +kernel
theorem dH_init_108 : decode bH_init 108 = .ok (.iconst 4, 1) := by decide +kernel
theorem dH_init_109 : decode bH_init 109 = .ok (.bipush 24, 2) := by decide +kernel
theorem dH_init_111 : decode bH_init 111 = .ok (.multianewarray 18 2, 4) := by decide +kernel
theorem dH_init_115 : decode bH_init 115 = .ok (.putfield 50, 3) := by decide +kernel
theorem dH_init_118 : decode bH_init 118 = .ok (.aload_n 0, 1) := by decide +kernel
theorem dH_init_119 : decode bH_init 119 = .ok (.getfield 23, 3) := by decide +kernel
theorem dH_init_122 : decode bH_init 122 = .ok (.iconst 1, 1) := by decide +kernel
theorem dH_init_123 : decode bH_init 123 = .ok (.aaload, 1) := by decide +kernel
theorem dH_init_124 : decode bH_init 124 = .ok (.ldc 53, 2) := by decide +kernel
theorem dH_init_126 : decode bH_init 126 = .ok (.invokestatic 54, 3) := by decide +kernel
theorem dH_init_129 : decode bH_init 129 = .ok (.aload_n 0, 1) := by decide +kernel
theorem dH_init_130 : decode bH_init 130 = .ok (.getfield 23, 3) := by decide +kernel
theorem dH_init_133 : decode bH_init 133 = .ok (.iconst 2, 1) := by decide +kernel
theorem dH_init_134 : decode bH_init 134 = .ok (.aaload, 1) := by decide +kernel
theorem dH_init_135 : decode bH_init 135 = .ok (.ldc 53, 2) := by decide +kernel
theorem dH_init_137 : decode bH_init 137 = .ok (.invokestatic 54, 3) := by decide +kernel
theorem dH_init_140 : decode bH_init 140 = .ok (.return_, 1) := by decide +kernel
theorem dH_hasRoom_0 : decode bH_hasRoom 0 = .ok (.iload_n 1, 1) := by decide +kernel
theorem dH_hasRoom_1 : decode bH_hasRoom 1 = .ok (.ifCond .lt 15, 3) := by decide +kernel
theorem dH_hasRoom_4 : decode bH_hasRoom 4 = .ok (.iload_n 1, 1) := by decide +kernel
theorem dH_hasRoom_5 : decode bH_hasRoom 5 = .ok (.aload_n 0, 1) := by decide +kernel
theorem dH_hasRoom_6 : decode bH_hasRoom 6 = .ok (.getfield 60, 3) := by decide +kernel
theorem dH_hasRoom_9 : decode bH_hasRoom 9 = .ok (.if_icmp .ge 7, 3) := by decide +kernel
theorem dH_hasRoom_12 : decode bH_hasRoom 12 = .ok (.iconst 1, 1) := by decide +kernel
theorem dH_hasRoom_13 : decode bH_hasRoom 13 = .ok (.goto 4, 3) := by decide +kernel
theorem dH_hasRoom_16 : decode bH_hasRoom 16 = .ok (.iconst 0, 1) := by decide +kernel
theorem dH_hasRoom_17 : decode bH_hasRoom 17 = .ok (.ireturn, 1) := by decide +kernel
theorem dH_bears_0 : decode bH_bears 0 = .ok (.aload_n 0, 1) := by decide +kernel
theorem dH_bears_1 : decode bH_bears 1 = .ok (.iload_n 1, 1) := by decide +kernel
theorem dH_bears_2 : decode bH_bears 2 = .ok (.invokevirtual 64, 3) := by decide +kernel
theorem dH_bears_5 : decode bH_bears 5 = .ok (.ifCond .eq 23, 3) := by decide +kernel
theorem dH_bears_8 : decode bH_bears 8 = .ok (.aload_n 0, 1) := by decide +kernel
theorem dH_bears_9 : decode bH_bears 9 = .ok (.getfield 15, 3) := by decide +kernel
theorem dH_bears_12 : decode bH_bears 12 = .ok (.iload_n 1, 1) := by decide +kernel
theorem dH_bears_13 : decode bH_bears 13 = .ok (.iaload, 1) := by decide +kernel
theorem dH_bears_14 : decode bH_bears 14 = .ok (.iload_n 2, 1) := by decide +kernel
theorem dH_bears_15 : decode bH_bears 15 = .ok (.iadd, 1) := by decide +kernel
theorem dH_bears_16 : decode bH_bears 16 = .ok (.bipush 100, 2) := by decide +kernel
theorem dH_bears_18 : decode bH_bears 18 = .ok (.aload_n 0, 1) := by decide +kernel
theorem dH_bears_19 : decode bH_bears 19 = .ok (.getfield 9, 3) := by decide +kernel
theorem dH_bears_22 : decode bH_bears 22 = .ok (.iload_n 1, 1) := by decide +kernel
theorem dH_bears_23 : decode bH_bears 23 = .ok (.iaload, 1) := by decide +kernel
theorem dH_bears_24 : decode bH_bears 24 = .ok (.imul, 1) := by decide +kernel
theorem dH_bears_25 : decode bH_bears 25 = .ok (.if_icmp .gt 7, 3) := by decide +kernel
theorem dH_bears_28 : decode bH_bears 28 = .ok (.iconst 1, 1) := by decide +kernel
theorem dH_bears_29 : decode bH_bears 29 = .ok (.goto 4, 3) := by decide +kernel
theorem dH_bears_32 : decode bH_bears 32 = .ok (.iconst 0, 1) := by decide +kernel
theorem dH_bears_33 : decode bH_bears 33 = .ok (.ireturn, 1) := by decide +kernel
theorem dH_addRoom_0 : decode bH_addRoom 0 = .ok (.aload_n 0, 1) := by decide +kernel
theorem dH_addRoom_1 : decode bH_addRoom 1 = .ok (.getfield 60, 3) := by decide +kernel
theorem dH_addRoom_4 : decode bH_addRoom 4 = .ok (.istore_n 2, 1) := by decide +kernel
theorem dH_addRoom_5 : decode bH_addRoom 5 = .ok (.aload_n 0, 1) := by decide +kernel
theorem dH_addRoom_6 : decode bH_addRoom 6 = .ok (.getfield 9, 3) := by decide +kernel
theorem dH_addRoom_9 : decode bH_addRoom 9 = .ok (.iload_n 2, 1) := by decide +kernel
theorem dH_addRoom_10 : decode bH_addRoom 10 = .ok (.iload_n 1, 1) := by decide +kernel
theorem dH_addRoom_11 : decode bH_addRoom 11 = .ok (.iastore, 1) := by decide +kernel
theorem dH_addRoom_12 : decode bH_addRoom 12 = .ok (.aload_n 0, 1) := by decide +kernel
theorem dH_addRoom_13 : decode bH_addRoom 13 = .ok (.dup, 1) := by decide +kernel
theorem dH_addRoom_14 : decode bH_addRoom 14 = .ok (.getfield 60, 3) := by decide +kernel
theorem dH_addRoom_17 : decode bH_addRoom 17 = .ok (.iconst 1, 1) := by decide +kernel
theorem dH_addRoom_18 : decode bH_addRoom 18 = .ok (.iadd, 1) := by decide +kernel
theorem dH_addRoom_19 : decode bH_addRoom 19 = .ok (.putfield 60, 3) := by decide +kernel
theorem dH_addRoom_22 : decode bH_addRoom 22 = .ok (.iload_n 2, 1) := by decide +kernel
theorem dH_addRoom_23 : decode bH_addRoom 23 = .ok (.ireturn, 1) := by decide +kernel
theorem dH_addWall_0 : decode bH_addWall 0 = .ok (.aload_n 0, 1) := by decide +kernel
theorem dH_addWall_1 : decode bH_addWall 1 = .ok (.getfield 68, 3) := by decide +kernel
theorem dH_addWall_4 : decode bH_addWall 4 = .ok (.istore 4, 2) := by decide +kernel
theorem dH_addWall_6 : decode bH_addWall 6 = .ok (.aload_n 0, 1) := by decide +kernel
theorem dH_addWall_7 : decode bH_addWall 7 = .ok (.getfield 26, 3) := by decide +kernel
theorem dH_addWall_10 : decode bH_addWall 10 = .ok (.iload 4, 2) := by decide +kernel
theorem dH_addWall_12 : decode bH_addWall 12 = .ok (.iload_n 1, 1) := by decide +kernel
theorem dH_addWall_13 : decode bH_addWall 13 = .ok (.iastore, 1) := by decide +kernel
theorem dH_addWall_14 : decode bH_addWall 14 = .ok (.aload_n 0, 1) := by decide +kernel
theorem dH_addWall_15 : decode bH_addWall 15 = .ok (.getfield 29, 3) := by decide +kernel
theorem dH_addWall_18 : decode bH_addWall 18 = .ok (.iload 4, 2) := by decide +kernel
theorem dH_addWall_20 : decode bH_addWall 20 = .ok (.iload_n 2, 1) := by decide +kernel
theorem dH_addWall_21 : decode bH_addWall 21 = .ok (.iastore, 1) := by decide +kernel
theorem dH_addWall_22 : decode bH_addWall 22 = .ok (.aload_n 0, 1) := by decide +kernel
theorem dH_addWall_23 : decode bH_addWall 23 = .ok (.dup, 1) := by decide +kernel
theorem dH_addWall_24 : decode bH_addWall 24 = .ok (.getfield 68, 3) := by decide +kernel
theorem dH_addWall_27 : decode bH_addWall 27 = .ok (.iconst 1, 1) := by decide +kernel
theorem dH_addWall_28 : decode bH_addWall 28 = .ok (.iadd, 1) := by decide +kernel
theorem dH_addWall_29 : decode bH_addWall 29 = .ok (.putfield 68, 3) := by decide +kernel
theorem dH_addWall_32 : decode bH_addWall 32 = .ok (.aload_n 0, 1) := by decide +kernel
theorem dH_addWall_33 : decode bH_addWall 33 = .ok (.iload 4, 2) := by decide +kernel
theorem dH_addWall_35 : decode bH_addWall 35 = .ok (.iload_n 3, 1) := by decide +kernel
theorem dH_addWall_36 : decode bH_addWall 36 = .ok (.invokevirtual 71, 3) := by decide +kernel
theorem dH_addWall_39 : decode bH_addWall 39 = .ok (.iload 4, 2) := by decide +kernel
theorem dH_addWall_41 : decode bH_addWall 41 = .ok (.ireturn, 1) := by decide +kernel
theorem dH_addLeads_0 : decode bH_addLeads 0 = .ok (.aload_n 0, 1) := by decide +kernel
theorem dH_addLeads_1 : decode bH_addLeads 1 = .ok (.getfield 32, 3) := by decide +kernel
theorem dH_addLeads_4 : decode bH_addLeads 4 = .ok (.iload_n 1, 1) := by decide +kernel
theorem dH_addLeads_5 : decode bH_addLeads 5 = .ok (.dup2, 1) := by decide +kernel
theorem dH_addLeads_6 : decode bH_addLeads 6 = .ok (.iaload, 1) := by decide +kernel
theorem dH_addLeads_7 : decode bH_addLeads 7 = .ok (.iload_n 2, 1) := by decide +kernel
theorem dH_addLeads_8 : decode bH_addLeads 8 = .ok (.iadd, 1) := by decide +kernel
theorem dH_addLeads_9 : decode bH_addLeads 9 = .ok (.iastore, 1) := by decide +kernel
theorem dH_addLeads_10 : decode bH_addLeads 10 = .ok (.aload_n 0, 1) := by decide +kernel
theorem dH_addLeads_11 : decode bH_addLeads 11 = .ok (.getfield 15, 3) := by decide +kernel
theorem dH_addLeads_14 : decode bH_addLeads 14 = .ok (.aload_n 0, 1) := by decide +kernel
theorem dH_addLeads_15 : decode bH_addLeads 15 = .ok (.getfield 26, 3) := by decide +kernel
theorem dH_addLeads_18 : decode bH_addLeads 18 = .ok (.iload_n 1, 1) := by decide +kernel
theorem dH_addLeads_19 : decode bH_addLeads 19 = .ok (.iaload, 1) := by decide +kernel
theorem dH_addLeads_20 : decode bH_addLeads 20 = .ok (.dup2, 1) := by decide +kernel
theorem dH_addLeads_21 : decode bH_addLeads 21 = .ok (.iaload, 1) := by decide +kernel
theorem dH_addLeads_22 : decode bH_addLeads 22 = .ok (.iload_n 2, 1) := by decide +kernel
theorem dH_addLeads_23 : decode bH_addLeads 23 = .ok (.iadd, 1) := by decide +kernel
theorem dH_addLeads_24 : decode bH_addLeads 24 = .ok (.iastore, 1) := by decide +kernel
theorem dH_addLeads_25 : decode bH_addLeads 25 = .ok (.aload_n 0, 1) := by decide +kernel
theorem dH_addLeads_26 : decode bH_addLeads 26 = .ok (.getfield 29, 3) := by decide +kernel
theorem dH_addLeads_29 : decode bH_addLeads 29 = .ok (.iload_n 1, 1) := by decide +kernel
theorem dH_addLeads_30 : decode bH_addLeads 30 = .ok (.iaload, 1) := by decide +kernel
theorem dH_addLeads_31 : decode bH_addLeads 31 = .ok (.iconst (-1), 1) := by decide +kernel
theorem dH_addLeads_32 : decode bH_addLeads 32 = .ok (.if_icmp .eq 18, 3) := by decide +kernel
theorem dH_addLeads_35 : decode bH_addLeads 35 = .ok (.aload_n 0, 1) := by decide +kernel
theorem dH_addLeads_36 : decode bH_addLeads 36 = .ok (.getfield 15, 3) := by decide +kernel
theorem dH_addLeads_39 : decode bH_addLeads 39 = .ok (.aload_n 0, 1) := by decide +kernel
theorem dH_addLeads_40 : decode bH_addLeads 40 = .ok (.getfield 29, 3) := by decide +kernel
theorem dH_addLeads_43 : decode bH_addLeads 43 = .ok (.iload_n 1, 1) := by decide +kernel
theorem dH_addLeads_44 : decode bH_addLeads 44 = .ok (.iaload, 1) := by decide +kernel
theorem dH_addLeads_45 : decode bH_addLeads 45 = .ok (.dup2, 1) := by decide +kernel
theorem dH_addLeads_46 : decode bH_addLeads 46 = .ok (.iaload, 1) := by decide +kernel
theorem dH_addLeads_47 : decode bH_addLeads 47 = .ok (.iload_n 2, 1) := by decide +kernel
theorem dH_addLeads_48 : decode bH_addLeads 48 = .ok (.iadd, 1) := by decide +kernel
theorem dH_addLeads_49 : decode bH_addLeads 49 = .ok (.iastore, 1) := by decide +kernel
theorem dH_addLeads_50 : decode bH_addLeads 50 = .ok (.return_, 1) := by decide +kernel
theorem dH_addWindow_0 : decode bH_addWindow 0 = .ok (.aload_n 0, 1) := by decide +kernel
theorem dH_addWindow_1 : decode bH_addWindow 1 = .ok (.getfield 75, 3) := by decide +kernel
theorem dH_addWindow_4 : decode bH_addWindow 4 = .ok (.istore 5, 2) := by decide +kernel
theorem dH_addWindow_6 : decode bH_addWindow 6 = .ok (.aload_n 0, 1) := by decide +kernel
theorem dH_addWindow_7 : decode bH_addWindow 7 = .ok (.getfield 35, 3) := by decide +kernel
theorem dH_addWindow_10 : decode bH_addWindow 10 = .ok (.iload 5, 2) := by decide +kernel
theorem dH_addWindow_12 : decode bH_addWindow 12 = .ok (.iload_n 1, 1) := by decide +kernel
theorem dH_addWindow_13 : decode bH_addWindow 13 = .ok (.iastore, 1) := by decide +kernel
theorem dH_addWindow_14 : decode bH_addWindow 14 = .ok (.aload_n 0, 1) := by decide +kernel
theorem dH_addWindow_15 : decode bH_addWindow 15 = .ok (.getfield 38, 3) := by decide +kernel
theorem dH_addWindow_18 : decode bH_addWindow 18 = .ok (.iload 5, 2) := by decide +kernel
theorem dH_addWindow_20 : decode bH_addWindow 20 = .ok (.iload_n 2, 1) := by decide +kernel
theorem dH_addWindow_21 : decode bH_addWindow 21 = .ok (.iastore, 1) := by decide +kernel
theorem dH_addWindow_22 : decode bH_addWindow 22 = .ok (.aload_n 0, 1) := by decide +kernel
theorem dH_addWindow_23 : decode bH_addWindow 23 = .ok (.getfield 41, 3) := by decide +kernel
theorem dH_addWindow_26 : decode bH_addWindow 26 = .ok (.iload 5, 2) := by decide +kernel
theorem dH_addWindow_28 : decode bH_addWindow 28 = .ok (.iload_n 3, 1) := by decide +kernel
theorem dH_addWindow_29 : decode bH_addWindow 29 = .ok (.iastore, 1) := by decide +kernel
theorem dH_addWindow_30 : decode bH_addWindow 30 = .ok (.aload_n 0, 1) := by decide +kernel
theorem dH_addWindow_31 : decode bH_addWindow 31 = .ok (.getfield 44, 3) := by decide +kernel
theorem dH_addWindow_34 : decode bH_addWindow 34 = .ok (.iload 5, 2) := by decide +kernel
theorem dH_addWindow_36 : decode bH_addWindow 36 = .ok (.iload 4, 2) := by decide +kernel
theorem dH_addWindow_38 : decode bH_addWindow 38 = .ok (.iastore, 1) := by decide +kernel
theorem dH_addWindow_39 : decode bH_addWindow 39 = .ok (.aload_n 0, 1) := by decide +kernel
theorem dH_addWindow_40 : decode bH_addWindow 40 = .ok (.dup, 1) := by decide +kernel
theorem dH_addWindow_41 : decode bH_addWindow 41 = .ok (.getfield 75, 3) := by decide +kernel
theorem dH_addWindow_44 : decode bH_addWindow 44 = .ok (.iconst 1, 1) := by decide +kernel
theorem dH_addWindow_45 : decode bH_addWindow 45 = .ok (.iadd, 1) := by decide +kernel
theorem dH_addWindow_46 : decode bH_addWindow 46 = .ok (.putfield 75, 3) := by decide +kernel
theorem dH_addWindow_49 : decode bH_addWindow 49 = .ok (.iload 5, 2) := by decide +kernel
theorem dH_addWindow_51 : decode bH_addWindow 51 = .ok (.ireturn, 1) := by decide +kernel
theorem dJ_floorDiv_0 : decode bJ_floorDiv 0 = .ok (.lload_n 0, 1) := by decide +kernel
theorem dJ_floorDiv_1 : decode bJ_floorDiv 1 = .ok (.lload_n 2, 1) := by decide +kernel
theorem dJ_floorDiv_2 : decode bJ_floorDiv 2 = .ok (.ldiv, 1) := by decide +kernel
theorem dJ_floorDiv_3 : decode bJ_floorDiv 3 = .ok (.lstore 4, 2) := by decide +kernel
theorem dJ_floorDiv_5 : decode bJ_floorDiv 5 = .ok (.lload_n 0, 1) := by decide +kernel
theorem dJ_floorDiv_6 : decode bJ_floorDiv 6 = .ok (.lload_n 2, 1) := by decide +kernel
theorem dJ_floorDiv_7 : decode bJ_floorDiv 7 = .ok (.lxor, 1) := by decide +kernel
theorem dJ_floorDiv_8 : decode bJ_floorDiv 8 = .ok (.lconst 0, 1) := by decide +kernel
theorem dJ_floorDiv_9 : decode bJ_floorDiv 9 = .ok (.lcmp, 1) := by decide +kernel
theorem dJ_floorDiv_10 : decode bJ_floorDiv 10 = .ok (.ifCond .ge 17, 3) := by decide +kernel
theorem dJ_floorDiv_13 : decode bJ_floorDiv 13 = .ok (.lload 4, 2) := by decide +kernel
theorem dJ_floorDiv_15 : decode bJ_floorDiv 15 = .ok (.lload_n 2, 1) := by decide +kernel
theorem dJ_floorDiv_16 : decode bJ_floorDiv 16 = .ok (.lmul, 1) := by decide +kernel
theorem dJ_floorDiv_17 : decode bJ_floorDiv 17 = .ok (.lload_n 0, 1) := by decide +kernel
theorem dJ_floorDiv_18 : decode bJ_floorDiv 18 = .ok (.lcmp, 1) := by decide +kernel
theorem dJ_floorDiv_19 : decode bJ_floorDiv 19 = .ok (.ifCond .eq 8, 3) := by decide +kernel
theorem dJ_floorDiv_22 : decode bJ_floorDiv 22 = .ok (.lload 4, 2) := by decide +kernel
theorem dJ_floorDiv_24 : decode bJ_floorDiv 24 = .ok (.lconst 1, 1) := by decide +kernel
theorem dJ_floorDiv_25 : decode bJ_floorDiv 25 = .ok (.lsub, 1) := by decide +kernel
theorem dJ_floorDiv_26 : decode bJ_floorDiv 26 = .ok (.lreturn, 1) := by decide +kernel
theorem dJ_floorDiv_27 : decode bJ_floorDiv 27 = .ok (.lload 4, 2) := by decide +kernel
theorem dJ_floorDiv_29 : decode bJ_floorDiv 29 = .ok (.lreturn, 1) := by decide +kernel
theorem dJ_floorMod_0 : decode bJ_floorMod 0 = .ok (.iload_n 0, 1) := by decide +kernel
theorem dJ_floorMod_1 : decode bJ_floorMod 1 = .ok (.iload_n 1, 1) := by decide +kernel
theorem dJ_floorMod_2 : decode bJ_floorMod 2 = .ok (.irem, 1) := by decide +kernel
theorem dJ_floorMod_3 : decode bJ_floorMod 3 = .ok (.istore_n 2, 1) := by decide +kernel
theorem dJ_floorMod_4 : decode bJ_floorMod 4 = .ok (.iload_n 0, 1) := by decide +kernel
theorem dJ_floorMod_5 : decode bJ_floorMod 5 = .ok (.iload_n 1, 1) := by decide +kernel
theorem dJ_floorMod_6 : decode bJ_floorMod 6 = .ok (.ixor, 1) := by decide +kernel
theorem dJ_floorMod_7 : decode bJ_floorMod 7 = .ok (.ifCond .ge 11, 3) := by decide +kernel
theorem dJ_floorMod_10 : decode bJ_floorMod 10 = .ok (.iload_n 2, 1) := by decide +kernel
theorem dJ_floorMod_11 : decode bJ_floorMod 11 = .ok (.ifCond .eq 7, 3) := by decide +kernel
theorem dJ_floorMod_14 : decode bJ_floorMod 14 = .ok (.iload_n 2, 1) := by decide +kernel
theorem dJ_floorMod_15 : decode bJ_floorMod 15 = .ok (.iload_n 1, 1) := by decide +kernel
theorem dJ_floorMod_16 : decode bJ_floorMod 16 = .ok (.iadd, 1) := by decide +kernel
theorem dJ_floorMod_17 : decode bJ_floorMod 17 = .ok (.ireturn, 1) := by decide +kernel
theorem dJ_floorMod_18 : decode bJ_floorMod 18 = .ok (.iload_n 2, 1) := by decide +kernel
theorem dJ_floorMod_19 : decode bJ_floorMod 19 = .ok (.ireturn, 1) := by decide +kernel
theorem dA_fill_0 : decode bA_fill 0 = .ok (.iconst 0, 1) := by decide +kernel
theorem dA_fill_1 : decode bA_fill 1 = .ok (.istore_n 2, 1) := by decide +kernel
theorem dA_fill_2 : decode bA_fill 2 = .ok (.aload_n 0, 1) := by decide +kernel
theorem dA_fill_3 : decode bA_fill 3 = .ok (.arraylength, 1) := by decide +kernel
theorem dA_fill_4 : decode bA_fill 4 = .ok (.istore_n 3, 1) := by decide +kernel
theorem dA_fill_5 : decode bA_fill 5 = .ok (.iload_n 2, 1) := by decide +kernel
theorem dA_fill_6 : decode bA_fill 6 = .ok (.iload_n 3, 1) := by decide +kernel
theorem dA_fill_7 : decode bA_fill 7 = .ok (.if_icmp .ge 13, 3) := by decide +kernel
theorem dA_fill_10 : decode bA_fill 10 = .ok (.aload_n 0, 1) := by decide +kernel
theorem dA_fill_11 : decode bA_fill 11 = .ok (.iload_n 2, 1) := by decide +kernel
theorem dA_fill_12 : decode bA_fill 12 = .ok (.iload_n 1, 1) := by decide +kernel
theorem dA_fill_13 : decode bA_fill 13 = .ok (.iastore, 1) := by decide +kernel
theorem dA_fill_14 : decode bA_fill 14 = .ok (.iinc 2 1, 3) := by decide +kernel
theorem dA_fill_17 : decode bA_fill 17 = .ok (.goto (-12), 3) := by decide +kernel
theorem dA_fill_20 : decode bA_fill 20 = .ok (.return_, 1) := by decide +kernel
end
section
section KP1
variable {p : Program} {l : Launch} {e : Env} {R : Room} {s : State} {m : MethodId} {args : Array Value} {below : List Frame} {meth : Method} {c : Code} {cells slots : Nat} {Q : State → Prop}
variable {cc : ByteArray} {own : String} {Ts : List Cond} {D : va_G} {cl : List vw_C} {tys : List (ClassId × FieldType)} {A : Nat → Prop} {nL : Nat}
variable {pc : Nat} {lv : List (Nat × Value)} {st : List Value} {ws : va_W}
def kC (p : Program) (s : State) (m : MethodId) (args : Array Value) (c : Code) (cc : ByteArray) (own : String) (Ts : List Cond) (D : va_G) (cl : List vw_C) (tys : List (ClassId × FieldType)) (A : Nat → Prop) (nL : Nat) : Prop :=
  (p.tables.exec = Jvm.exec ∧ c.code = cc ∧ c.maxLocals = nL ∧ s.vm.findClass own = some m.cls ∧ ∀ w ∈ Ts, w.before args s = true) ∧ va_K D cl tys s ∧ ∀ q : Nat, s.heap.size ≤ q → A q
def kW (p : Program) (l : Launch) (e : Env) (R : Room) (s : State) (m : MethodId) (args : Array Value) (below : List Frame) (meth : Method) (c : Code) (D : va_G) (cl : List vw_C) (A : Nat → Prop) (nL : Nat) (cells slots : Nat) (Q : State → Prop) (pc : Nat) (lv : List (Nat × Value)) (st : List Value) (ws : va_W) : Prop :=
  ∀ (H : Heap) (locs : List Loc) (ls : Array Slot), va_P D cl ws H → va_D A ws → va_S A s.heap H locs → lv_has ls nL lv → W p l e R s m args below meth c H locs cells slots Q (F0 m pc ls st)
theorem kw_iconst (C : kC p s m args c cc own Ts D cl tys A nL) {n : Int} {v : Int32} (d : decode cc pc = .ok (.iconst n, 1)) (hv : Int32.ofInt n = v) (kk : kW p l e R s m args below meth c D cl A nL cells slots Q (pc + 1) lv (.int v :: st) ws) : kW p l e R s m args below meth c D cl A nL cells slots Q pc lv st ws := fun H locs ls hP hD hS hl => lv_iconst C.1.1 C.1.2.1 d hv (kk H locs ls hP hD hS hl)
theorem kw_bipush (C : kC p s m args c cc own Ts D cl tys A nL) {n : Int} {v : Int32} (d : decode cc pc = .ok (.bipush n, 2)) (hv : (Int8.ofInt n).toInt32 = v) (kk : kW p l e R s m args below meth c D cl A nL cells slots Q (pc + 2) lv (.int v :: st) ws) : kW p l e R s m args below meth c D cl A nL cells slots Q pc lv st ws := fun H locs ls hP hD hS hl => lv_bipush C.1.1 C.1.2.1 d hv (kk H locs ls hP hD hS hl)
theorem kw_sipush (C : kC p s m args c cc own Ts D cl tys A nL) {n : Int} {v : Int32} (d : decode cc pc = .ok (.sipush n, 3)) (hv : (Int16.ofInt n).toInt32 = v) (kk : kW p l e R s m args below meth c D cl A nL cells slots Q (pc + 3) lv (.int v :: st) ws) : kW p l e R s m args below meth c D cl A nL cells slots Q pc lv st ws := fun H locs ls hP hD hS hl => lv_sipush C.1.1 C.1.2.1 d hv (kk H locs ls hP hD hS hl)
theorem kw_lconst (C : kC p s m args c cc own Ts D cl tys A nL) {n : Fin 2} {v : Int64} (d : decode cc pc = .ok (.lconst n, 1)) (hv : Int64.ofNat (n : Nat) = v) (kk : kW p l e R s m args below meth c D cl A nL cells slots Q (pc + 1) lv (.long v :: st) ws) : kW p l e R s m args below meth c D cl A nL cells slots Q pc lv st ws := fun H locs ls hP hD hS hl => lv_lconst C.1.1 C.1.2.1 d hv (kk H locs ls hP hD hS hl)
theorem kw_ldc (C : kC p s m args c cc own Ts D cl tys A nL) {index : Nat} {v : Int32} (hw : Jvm.Cond.constant own index v ∈ Ts) (d : decode cc pc = .ok (.ldc index, 2)) (kk : kW p l e R s m args below meth c D cl A nL cells slots Q (pc + 2) lv (.int v :: st) ws) : kW p l e R s m args below meth c D cl A nL cells slots Q pc lv st ws := fun H locs ls hP hD hS hl => lv_ldc C.1.1 C.1.2.1 C.1.2.2.2.1 (C.1.2.2.2.2 _ hw) d (kk H locs ls hP hD hS hl)
theorem kw_ldc2 (C : kC p s m args c cc own Ts D cl tys A nL) {index : Nat} {v : Int64} (hw : Jvm.Cond.constantLong own index v ∈ Ts) (d : decode cc pc = .ok (.ldc2_w index, 3)) (kk : kW p l e R s m args below meth c D cl A nL cells slots Q (pc + 3) lv (.long v :: st) ws) : kW p l e R s m args below meth c D cl A nL cells slots Q pc lv st ws := fun H locs ls hP hD hS hl => lv_ldc2 C.1.1 C.1.2.1 C.1.2.2.2.1 (C.1.2.2.2.2 _ hw) d (kk H locs ls hP hD hS hl)
theorem kw_iload_n (C : kC p s m args c cc own Ts D cl tys A nL) (k : Nat) {z : Fin 4} {i : Nat} {x : Int32} (d : decode cc pc = .ok (.iload_n z, 1)) (hz : (z : Nat) = i) (hk : lv[k]? = some (i, .int x)) (kk : kW p l e R s m args below meth c D cl A nL cells slots Q (pc + 1) lv (.int x :: st) ws) : kW p l e R s m args below meth c D cl A nL cells slots Q pc lv st ws := fun H locs ls hP hD hS hl => lv_iload_n C.1.1 C.1.2.1 d hz (lv_at hl k hk) (kk H locs ls hP hD hS hl)
theorem kw_iload (C : kC p s m args c cc own Ts D cl tys A nL) (k : Nat) {i : Nat} {x : Int32} (d : decode cc pc = .ok (.iload i, 2)) (hk : lv[k]? = some (i, .int x)) (kk : kW p l e R s m args below meth c D cl A nL cells slots Q (pc + 2) lv (.int x :: st) ws) : kW p l e R s m args below meth c D cl A nL cells slots Q pc lv st ws := fun H locs ls hP hD hS hl => lv_iload C.1.1 C.1.2.1 d (lv_at hl k hk) (kk H locs ls hP hD hS hl)
theorem kw_istore_n (C : kC p s m args c cc own Ts D cl tys A nL) {z : Fin 4} {i : Nat} {x : Int32} {lv' : List (Nat × Value)} (d : decode cc pc = .ok (.istore_n z, 1)) (hz : (z : Nat) = i) (hn : i < nL) (hl' : (i, Value.int x) :: lv.filter (fun q => !(q.1 == i) && !(q.1 + 1 == i && q.2.category == 2)) = lv') (kk : kW p l e R s m args below meth c D cl A nL cells slots Q (pc + 1) lv' st ws) : kW p l e R s m args below meth c D cl A nL cells slots Q pc lv (.int x :: st) ws := fun H locs ls hP hD hS hl => lv_istore_n C.1.1 C.1.2.1 d hz hl hn hl' (fun ls hl => (kk H locs ls hP hD hS hl))
theorem kw_istore (C : kC p s m args c cc own Ts D cl tys A nL) {i : Nat} {x : Int32} {lv' : List (Nat × Value)} (d : decode cc pc = .ok (.istore i, 2)) (hn : i < nL) (hl' : (i, Value.int x) :: lv.filter (fun q => !(q.1 == i) && !(q.1 + 1 == i && q.2.category == 2)) = lv') (kk : kW p l e R s m args below meth c D cl A nL cells slots Q (pc + 2) lv' st ws) : kW p l e R s m args below meth c D cl A nL cells slots Q pc lv (.int x :: st) ws := fun H locs ls hP hD hS hl => lv_istore C.1.1 C.1.2.1 d hl hn hl' (fun ls hl => (kk H locs ls hP hD hS hl))
theorem kw_lload_n (C : kC p s m args c cc own Ts D cl tys A nL) (k : Nat) {z : Fin 4} {i : Nat} {x : Int64} (d : decode cc pc = .ok (.lload_n z, 1)) (hz : (z : Nat) = i) (hk : lv[k]? = some (i, .long x)) (kk : kW p l e R s m args below meth c D cl A nL cells slots Q (pc + 1) lv (.long x :: st) ws) : kW p l e R s m args below meth c D cl A nL cells slots Q pc lv st ws := fun H locs ls hP hD hS hl => lv_lload_n C.1.1 C.1.2.1 d hz (lv_at hl k hk) (kk H locs ls hP hD hS hl)
theorem kw_lload (C : kC p s m args c cc own Ts D cl tys A nL) (k : Nat) {i : Nat} {x : Int64} (d : decode cc pc = .ok (.lload i, 2)) (hk : lv[k]? = some (i, .long x)) (kk : kW p l e R s m args below meth c D cl A nL cells slots Q (pc + 2) lv (.long x :: st) ws) : kW p l e R s m args below meth c D cl A nL cells slots Q pc lv st ws := fun H locs ls hP hD hS hl => lv_lload C.1.1 C.1.2.1 d (lv_at hl k hk) (kk H locs ls hP hD hS hl)
theorem kw_lstore_n (C : kC p s m args c cc own Ts D cl tys A nL) {z : Fin 4} {i : Nat} {x : Int64} {lv' : List (Nat × Value)} (d : decode cc pc = .ok (.lstore_n z, 1)) (hz : (z : Nat) = i) (hn : i + 1 < nL) (hl' : (i, Value.long x) :: lv.filter (fun q => !(q.1 == i) && (!(q.1 == i + 1) && !(q.1 + 1 == i && q.2.category == 2))) = lv') (kk : kW p l e R s m args below meth c D cl A nL cells slots Q (pc + 1) lv' st ws) : kW p l e R s m args below meth c D cl A nL cells slots Q pc lv (.long x :: st) ws := fun H locs ls hP hD hS hl => lv_lstore_n C.1.1 C.1.2.1 d hz hl hn hl' (fun ls hl => (kk H locs ls hP hD hS hl))
theorem kw_lstore (C : kC p s m args c cc own Ts D cl tys A nL) {i : Nat} {x : Int64} {lv' : List (Nat × Value)} (d : decode cc pc = .ok (.lstore i, 2)) (hn : i + 1 < nL) (hl' : (i, Value.long x) :: lv.filter (fun q => !(q.1 == i) && (!(q.1 == i + 1) && !(q.1 + 1 == i && q.2.category == 2))) = lv') (kk : kW p l e R s m args below meth c D cl A nL cells slots Q (pc + 2) lv' st ws) : kW p l e R s m args below meth c D cl A nL cells slots Q pc lv (.long x :: st) ws := fun H locs ls hP hD hS hl => lv_lstore C.1.1 C.1.2.1 d hl hn hl' (fun ls hl => (kk H locs ls hP hD hS hl))
theorem kw_aload_n (C : kC p s m args c cc own Ts D cl tys A nL) (k : Nat) {z : Fin 4} {i : Nat} {x : Nat} (d : decode cc pc = .ok (.aload_n z, 1)) (hz : (z : Nat) = i) (hk : lv[k]? = some (i, .ref x)) (kk : kW p l e R s m args below meth c D cl A nL cells slots Q (pc + 1) lv (.ref x :: st) ws) : kW p l e R s m args below meth c D cl A nL cells slots Q pc lv st ws := fun H locs ls hP hD hS hl => lv_aload_n C.1.1 C.1.2.1 d hz (lv_at hl k hk) (kk H locs ls hP hD hS hl)
theorem kw_aload (C : kC p s m args c cc own Ts D cl tys A nL) (k : Nat) {i : Nat} {x : Nat} (d : decode cc pc = .ok (.aload i, 2)) (hk : lv[k]? = some (i, .ref x)) (kk : kW p l e R s m args below meth c D cl A nL cells slots Q (pc + 2) lv (.ref x :: st) ws) : kW p l e R s m args below meth c D cl A nL cells slots Q pc lv st ws := fun H locs ls hP hD hS hl => lv_aload C.1.1 C.1.2.1 d (lv_at hl k hk) (kk H locs ls hP hD hS hl)
theorem kw_astore_n (C : kC p s m args c cc own Ts D cl tys A nL) {z : Fin 4} {i : Nat} {x : Nat} {lv' : List (Nat × Value)} (d : decode cc pc = .ok (.astore_n z, 1)) (hz : (z : Nat) = i) (hn : i < nL) (hl' : (i, Value.ref x) :: lv.filter (fun q => !(q.1 == i) && !(q.1 + 1 == i && q.2.category == 2)) = lv') (kk : kW p l e R s m args below meth c D cl A nL cells slots Q (pc + 1) lv' st ws) : kW p l e R s m args below meth c D cl A nL cells slots Q pc lv (.ref x :: st) ws := fun H locs ls hP hD hS hl => lv_astore_n C.1.1 C.1.2.1 d hz hl hn hl' (fun ls hl => (kk H locs ls hP hD hS hl))
theorem kw_astore (C : kC p s m args c cc own Ts D cl tys A nL) {i : Nat} {x : Nat} {lv' : List (Nat × Value)} (d : decode cc pc = .ok (.astore i, 2)) (hn : i < nL) (hl' : (i, Value.ref x) :: lv.filter (fun q => !(q.1 == i) && !(q.1 + 1 == i && q.2.category == 2)) = lv') (kk : kW p l e R s m args below meth c D cl A nL cells slots Q (pc + 2) lv' st ws) : kW p l e R s m args below meth c D cl A nL cells slots Q pc lv (.ref x :: st) ws := fun H locs ls hP hD hS hl => lv_astore C.1.1 C.1.2.1 d hl hn hl' (fun ls hl => (kk H locs ls hP hD hS hl))
theorem kw_iinc (C : kC p s m args c cc own Ts D cl tys A nL) (k : Nat) {i : Nat} {n : Int} {x v : Int32} {lv' : List (Nat × Value)} (d : decode cc pc = .ok (.iinc i n, 3)) (hk : lv[k]? = some (i, .int x)) (hv : x + Int32.ofInt n = v) (hn : i < nL) (hl' : (i, Value.int v) :: lv.filter (fun q => !(q.1 == i) && !(q.1 + 1 == i && q.2.category == 2)) = lv') (kk : kW p l e R s m args below meth c D cl A nL cells slots Q (pc + 3) lv' st ws) : kW p l e R s m args below meth c D cl A nL cells slots Q pc lv st ws := fun H locs ls hP hD hS hl => lv_iinc C.1.1 C.1.2.1 d hl hk hv hn hl' (fun ls hl => (kk H locs ls hP hD hS hl))
theorem kw_iincW (C : kC p s m args c cc own Ts D cl tys A nL) (k : Nat) {i : Nat} {n : Int} {x v : Int32} {lv' : List (Nat × Value)} (d : decode cc pc = .ok (.iinc i n, 6)) (hk : lv[k]? = some (i, .int x)) (hv : x + Int32.ofInt n = v) (hn : i < nL) (hl' : (i, Value.int v) :: lv.filter (fun q => !(q.1 == i) && !(q.1 + 1 == i && q.2.category == 2)) = lv') (kk : kW p l e R s m args below meth c D cl A nL cells slots Q (pc + 6) lv' st ws) : kW p l e R s m args below meth c D cl A nL cells slots Q pc lv st ws := fun H locs ls hP hD hS hl => lv_iincW C.1.1 C.1.2.1 d hl hk hv hn hl' (fun ls hl => (kk H locs ls hP hD hS hl))
theorem kw_iadd (C : kC p s m args c cc own Ts D cl tys A nL) {x y : Int32} (d : decode cc pc = .ok (.iadd, 1))  (kk : kW p l e R s m args below meth c D cl A nL cells slots Q (pc + 1) lv (.int (x + y) :: st) ws) : kW p l e R s m args below meth c D cl A nL cells slots Q pc lv (.int y :: .int x :: st) ws := fun H locs ls hP hD hS hl => lv_iadd C.1.1 C.1.2.1 d (kk H locs ls hP hD hS hl)
theorem kw_ladd (C : kC p s m args c cc own Ts D cl tys A nL) {x y : Int64} (d : decode cc pc = .ok (.ladd, 1))  (kk : kW p l e R s m args below meth c D cl A nL cells slots Q (pc + 1) lv (.long (x + y) :: st) ws) : kW p l e R s m args below meth c D cl A nL cells slots Q pc lv (.long y :: .long x :: st) ws := fun H locs ls hP hD hS hl => lv_ladd C.1.1 C.1.2.1 d (kk H locs ls hP hD hS hl)
theorem kw_isub (C : kC p s m args c cc own Ts D cl tys A nL) {x y : Int32} (d : decode cc pc = .ok (.isub, 1))  (kk : kW p l e R s m args below meth c D cl A nL cells slots Q (pc + 1) lv (.int (x - y) :: st) ws) : kW p l e R s m args below meth c D cl A nL cells slots Q pc lv (.int y :: .int x :: st) ws := fun H locs ls hP hD hS hl => lv_isub C.1.1 C.1.2.1 d (kk H locs ls hP hD hS hl)
theorem kw_lsub (C : kC p s m args c cc own Ts D cl tys A nL) {x y : Int64} (d : decode cc pc = .ok (.lsub, 1))  (kk : kW p l e R s m args below meth c D cl A nL cells slots Q (pc + 1) lv (.long (x - y) :: st) ws) : kW p l e R s m args below meth c D cl A nL cells slots Q pc lv (.long y :: .long x :: st) ws := fun H locs ls hP hD hS hl => lv_lsub C.1.1 C.1.2.1 d (kk H locs ls hP hD hS hl)
theorem kw_imul (C : kC p s m args c cc own Ts D cl tys A nL) {x y : Int32} (d : decode cc pc = .ok (.imul, 1))  (kk : kW p l e R s m args below meth c D cl A nL cells slots Q (pc + 1) lv (.int (x * y) :: st) ws) : kW p l e R s m args below meth c D cl A nL cells slots Q pc lv (.int y :: .int x :: st) ws := fun H locs ls hP hD hS hl => lv_imul C.1.1 C.1.2.1 d (kk H locs ls hP hD hS hl)
theorem kw_lmul (C : kC p s m args c cc own Ts D cl tys A nL) {x y : Int64} (d : decode cc pc = .ok (.lmul, 1))  (kk : kW p l e R s m args below meth c D cl A nL cells slots Q (pc + 1) lv (.long (x * y) :: st) ws) : kW p l e R s m args below meth c D cl A nL cells slots Q pc lv (.long y :: .long x :: st) ws := fun H locs ls hP hD hS hl => lv_lmul C.1.1 C.1.2.1 d (kk H locs ls hP hD hS hl)
theorem kw_iand (C : kC p s m args c cc own Ts D cl tys A nL) {x y : Int32} (d : decode cc pc = .ok (.iand, 1))  (kk : kW p l e R s m args below meth c D cl A nL cells slots Q (pc + 1) lv (.int (x &&& y) :: st) ws) : kW p l e R s m args below meth c D cl A nL cells slots Q pc lv (.int y :: .int x :: st) ws := fun H locs ls hP hD hS hl => lv_iand C.1.1 C.1.2.1 d (kk H locs ls hP hD hS hl)
theorem kw_land (C : kC p s m args c cc own Ts D cl tys A nL) {x y : Int64} (d : decode cc pc = .ok (.land, 1))  (kk : kW p l e R s m args below meth c D cl A nL cells slots Q (pc + 1) lv (.long (x &&& y) :: st) ws) : kW p l e R s m args below meth c D cl A nL cells slots Q pc lv (.long y :: .long x :: st) ws := fun H locs ls hP hD hS hl => lv_land C.1.1 C.1.2.1 d (kk H locs ls hP hD hS hl)
theorem kw_ior (C : kC p s m args c cc own Ts D cl tys A nL) {x y : Int32} (d : decode cc pc = .ok (.ior, 1))  (kk : kW p l e R s m args below meth c D cl A nL cells slots Q (pc + 1) lv (.int (x ||| y) :: st) ws) : kW p l e R s m args below meth c D cl A nL cells slots Q pc lv (.int y :: .int x :: st) ws := fun H locs ls hP hD hS hl => lv_ior C.1.1 C.1.2.1 d (kk H locs ls hP hD hS hl)
theorem kw_lor (C : kC p s m args c cc own Ts D cl tys A nL) {x y : Int64} (d : decode cc pc = .ok (.lor, 1))  (kk : kW p l e R s m args below meth c D cl A nL cells slots Q (pc + 1) lv (.long (x ||| y) :: st) ws) : kW p l e R s m args below meth c D cl A nL cells slots Q pc lv (.long y :: .long x :: st) ws := fun H locs ls hP hD hS hl => lv_lor C.1.1 C.1.2.1 d (kk H locs ls hP hD hS hl)
theorem kw_ixor (C : kC p s m args c cc own Ts D cl tys A nL) {x y : Int32} (d : decode cc pc = .ok (.ixor, 1))  (kk : kW p l e R s m args below meth c D cl A nL cells slots Q (pc + 1) lv (.int (x ^^^ y) :: st) ws) : kW p l e R s m args below meth c D cl A nL cells slots Q pc lv (.int y :: .int x :: st) ws := fun H locs ls hP hD hS hl => lv_ixor C.1.1 C.1.2.1 d (kk H locs ls hP hD hS hl)
theorem kw_lxor (C : kC p s m args c cc own Ts D cl tys A nL) {x y : Int64} (d : decode cc pc = .ok (.lxor, 1))  (kk : kW p l e R s m args below meth c D cl A nL cells slots Q (pc + 1) lv (.long (x ^^^ y) :: st) ws) : kW p l e R s m args below meth c D cl A nL cells slots Q pc lv (.long y :: .long x :: st) ws := fun H locs ls hP hD hS hl => lv_lxor C.1.1 C.1.2.1 d (kk H locs ls hP hD hS hl)
theorem kw_idiv (C : kC p s m args c cc own Ts D cl tys A nL) {x y : Int32} (d : decode cc pc = .ok (.idiv, 1)) (hne : ¬ y = 0)  (kk : kW p l e R s m args below meth c D cl A nL cells slots Q (pc + 1) lv (.int (x / y) :: st) ws) : kW p l e R s m args below meth c D cl A nL cells slots Q pc lv (.int y :: .int x :: st) ws := fun H locs ls hP hD hS hl => lv_idiv C.1.1 C.1.2.1 d hne (kk H locs ls hP hD hS hl)
theorem kw_ldiv (C : kC p s m args c cc own Ts D cl tys A nL) {x y : Int64} (d : decode cc pc = .ok (.ldiv, 1)) (hne : ¬ y = 0)  (kk : kW p l e R s m args below meth c D cl A nL cells slots Q (pc + 1) lv (.long (x / y) :: st) ws) : kW p l e R s m args below meth c D cl A nL cells slots Q pc lv (.long y :: .long x :: st) ws := fun H locs ls hP hD hS hl => lv_ldiv C.1.1 C.1.2.1 d hne (kk H locs ls hP hD hS hl)
theorem kw_irem (C : kC p s m args c cc own Ts D cl tys A nL) {x y : Int32} (d : decode cc pc = .ok (.irem, 1)) (hne : ¬ y = 0)  (kk : kW p l e R s m args below meth c D cl A nL cells slots Q (pc + 1) lv (.int (x - x / y * y) :: st) ws) : kW p l e R s m args below meth c D cl A nL cells slots Q pc lv (.int y :: .int x :: st) ws := fun H locs ls hP hD hS hl => lv_irem C.1.1 C.1.2.1 d hne (kk H locs ls hP hD hS hl)
theorem kw_lrem (C : kC p s m args c cc own Ts D cl tys A nL) {x y : Int64} (d : decode cc pc = .ok (.lrem, 1)) (hne : ¬ y = 0)  (kk : kW p l e R s m args below meth c D cl A nL cells slots Q (pc + 1) lv (.long (x - x / y * y) :: st) ws) : kW p l e R s m args below meth c D cl A nL cells slots Q pc lv (.long y :: .long x :: st) ws := fun H locs ls hP hD hS hl => lv_lrem C.1.1 C.1.2.1 d hne (kk H locs ls hP hD hS hl)
theorem kw_ineg (C : kC p s m args c cc own Ts D cl tys A nL) {x : Int32} (d : decode cc pc = .ok (.ineg, 1)) (kk : kW p l e R s m args below meth c D cl A nL cells slots Q (pc + 1) lv (.int (-x) :: st) ws) : kW p l e R s m args below meth c D cl A nL cells slots Q pc lv (.int x :: st) ws := fun H locs ls hP hD hS hl => lv_ineg C.1.1 C.1.2.1 d (kk H locs ls hP hD hS hl)
theorem kw_lneg (C : kC p s m args c cc own Ts D cl tys A nL) {x : Int64} (d : decode cc pc = .ok (.lneg, 1)) (kk : kW p l e R s m args below meth c D cl A nL cells slots Q (pc + 1) lv (.long (-x) :: st) ws) : kW p l e R s m args below meth c D cl A nL cells slots Q pc lv (.long x :: st) ws := fun H locs ls hP hD hS hl => lv_lneg C.1.1 C.1.2.1 d (kk H locs ls hP hD hS hl)
theorem kw_i2l (C : kC p s m args c cc own Ts D cl tys A nL) {x : Int32} (d : decode cc pc = .ok (.i2l, 1)) (kk : kW p l e R s m args below meth c D cl A nL cells slots Q (pc + 1) lv (.long x.toInt64 :: st) ws) : kW p l e R s m args below meth c D cl A nL cells slots Q pc lv (.int x :: st) ws := fun H locs ls hP hD hS hl => lv_i2l C.1.1 C.1.2.1 d rfl (kk H locs ls hP hD hS hl)
theorem kw_l2i (C : kC p s m args c cc own Ts D cl tys A nL) {x : Int64} (d : decode cc pc = .ok (.l2i, 1)) (kk : kW p l e R s m args below meth c D cl A nL cells slots Q (pc + 1) lv (.int x.toInt32 :: st) ws) : kW p l e R s m args below meth c D cl A nL cells slots Q pc lv (.long x :: st) ws := fun H locs ls hP hD hS hl => lv_l2i C.1.1 C.1.2.1 d rfl (kk H locs ls hP hD hS hl)
theorem kw_lcmp (C : kC p s m args c cc own Ts D cl tys A nL) {x y : Int64} (d : decode cc pc = .ok (.lcmp, 1)) (kk : kW p l e R s m args below meth c D cl A nL cells slots Q (pc + 1) lv (.int (lg_cmp x y) :: st) ws) : kW p l e R s m args below meth c D cl A nL cells slots Q pc lv (.long y :: .long x :: st) ws := fun H locs ls hP hD hS hl => W.lcmp C.1.1 C.1.2.1 d (kk H locs ls hP hD hS hl)
theorem kw_ishl (C : kC p s m args c cc own Ts D cl tys A nL) {x y : Int32} (d : decode cc pc = .ok (.ishl, 1)) (kk : kW p l e R s m args below meth c D cl A nL cells slots Q (pc + 1) lv (.int (x <<< (y &&& 31)) :: st) ws) : kW p l e R s m args below meth c D cl A nL cells slots Q pc lv (.int y :: .int x :: st) ws := fun H locs ls hP hD hS hl => lv_ishl C.1.1 C.1.2.1 d (kk H locs ls hP hD hS hl)
theorem kw_ishr (C : kC p s m args c cc own Ts D cl tys A nL) {x y : Int32} (d : decode cc pc = .ok (.ishr, 1)) (kk : kW p l e R s m args below meth c D cl A nL cells slots Q (pc + 1) lv (.int (x >>> (y &&& 31)) :: st) ws) : kW p l e R s m args below meth c D cl A nL cells slots Q pc lv (.int y :: .int x :: st) ws := fun H locs ls hP hD hS hl => lv_ishr C.1.1 C.1.2.1 d (kk H locs ls hP hD hS hl)
theorem kw_dup (C : kC p s m args c cc own Ts D cl tys A nL) {va : Value} (d : decode cc pc = .ok (.dup, 1)) (h1 : va.category = 1) (kk : kW p l e R s m args below meth c D cl A nL cells slots Q (pc + 1) lv (va :: va :: st) ws) : kW p l e R s m args below meth c D cl A nL cells slots Q pc lv (va :: st) ws := fun H locs ls hP hD hS hl => lv_dup C.1.1 C.1.2.1 d h1 (kk H locs ls hP hD hS hl)
theorem kw_pop (C : kC p s m args c cc own Ts D cl tys A nL) {va : Value} (d : decode cc pc = .ok (.pop, 1)) (h1 : va.category = 1) (kk : kW p l e R s m args below meth c D cl A nL cells slots Q (pc + 1) lv st ws) : kW p l e R s m args below meth c D cl A nL cells slots Q pc lv (va :: st) ws := fun H locs ls hP hD hS hl => lv_pop C.1.1 C.1.2.1 d h1 (kk H locs ls hP hD hS hl)
theorem kw_dup_x1 (C : kC p s m args c cc own Ts D cl tys A nL) {va vb : Value} (d : decode cc pc = .ok (.dup_x1, 1)) (h1 : va.category = 1) (h2 : vb.category = 1) (kk : kW p l e R s m args below meth c D cl A nL cells slots Q (pc + 1) lv (va :: vb :: va :: st) ws) : kW p l e R s m args below meth c D cl A nL cells slots Q pc lv (va :: vb :: st) ws := fun H locs ls hP hD hS hl => lv_dup_x1 C.1.1 C.1.2.1 d h1 h2 (kk H locs ls hP hD hS hl)
theorem kw_dup2_11 (C : kC p s m args c cc own Ts D cl tys A nL) {va vb : Value} (d : decode cc pc = .ok (.dup2, 1)) (h1 : va.category = 1) (h2 : vb.category = 1) (kk : kW p l e R s m args below meth c D cl A nL cells slots Q (pc + 1) lv (va :: vb :: va :: vb :: st) ws) : kW p l e R s m args below meth c D cl A nL cells slots Q pc lv (va :: vb :: st) ws := fun H locs ls hP hD hS hl => lv_dup2_11 C.1.1 C.1.2.1 d h1 h2 (kk H locs ls hP hD hS hl)
theorem kw_dup2_2 (C : kC p s m args c cc own Ts D cl tys A nL) {va : Value} (d : decode cc pc = .ok (.dup2, 1)) (h1 : va.category = 2) (kk : kW p l e R s m args below meth c D cl A nL cells slots Q (pc + 1) lv (va :: va :: st) ws) : kW p l e R s m args below meth c D cl A nL cells slots Q pc lv (va :: st) ws := fun H locs ls hP hD hS hl => lv_dup2_2 C.1.1 C.1.2.1 d h1 (kk H locs ls hP hD hS hl)
theorem kw_goto (C : kC p s m args c cc own Ts D cl tys A nL) {off : Int} {tgt : Nat} (d : decode cc pc = .ok (.goto off, 3)) (ht : (pc : Int) + off = (tgt : Int)) (kk : kW p l e R s m args below meth c D cl A nL cells slots Q tgt lv st ws) : kW p l e R s m args below meth c D cl A nL cells slots Q pc lv st ws := fun H locs ls hP hD hS hl => lv_goto C.1.1 C.1.2.1 d ht (kk H locs ls hP hD hS hl)
-- COMPARES
theorem kw_if_eq (C : kC p s m args c cc own Ts D cl tys A nL) {x : Int32} {off : Int} {tgt : Nat} (d : decode cc pc = .ok (.ifCond .eq off, 3)) (ht : (pc : Int) + off = (tgt : Int)) (kt : x = 0 → kW p l e R s m args below meth c D cl A nL cells slots Q tgt lv st ws) (kf : ¬ x = 0 → kW p l e R s m args below meth c D cl A nL cells slots Q (pc + 3) lv st ws) : kW p l e R s m args below meth c D cl A nL cells slots Q pc lv (.int x :: st) ws := fun H locs ls hP hD hS hl => lv_if_eq C.1.1 C.1.2.1 d ht (fun h => kt h H locs ls hP hD hS hl) (fun h => kf h H locs ls hP hD hS hl)
theorem kw_if_ne (C : kC p s m args c cc own Ts D cl tys A nL) {x : Int32} {off : Int} {tgt : Nat} (d : decode cc pc = .ok (.ifCond .ne off, 3)) (ht : (pc : Int) + off = (tgt : Int)) (kt : ¬ x = 0 → kW p l e R s m args below meth c D cl A nL cells slots Q tgt lv st ws) (kf : x = 0 → kW p l e R s m args below meth c D cl A nL cells slots Q (pc + 3) lv st ws) : kW p l e R s m args below meth c D cl A nL cells slots Q pc lv (.int x :: st) ws := fun H locs ls hP hD hS hl => lv_if_ne C.1.1 C.1.2.1 d ht (fun h => kt h H locs ls hP hD hS hl) (fun h => kf h H locs ls hP hD hS hl)
theorem kw_if_lt (C : kC p s m args c cc own Ts D cl tys A nL) {x : Int32} {off : Int} {tgt : Nat} (d : decode cc pc = .ok (.ifCond .lt off, 3)) (ht : (pc : Int) + off = (tgt : Int)) (kt : x < 0 → kW p l e R s m args below meth c D cl A nL cells slots Q tgt lv st ws) (kf : ¬ x < 0 → kW p l e R s m args below meth c D cl A nL cells slots Q (pc + 3) lv st ws) : kW p l e R s m args below meth c D cl A nL cells slots Q pc lv (.int x :: st) ws := fun H locs ls hP hD hS hl => lv_if_lt C.1.1 C.1.2.1 d ht (fun h => kt h H locs ls hP hD hS hl) (fun h => kf h H locs ls hP hD hS hl)
theorem kw_if_ge (C : kC p s m args c cc own Ts D cl tys A nL) {x : Int32} {off : Int} {tgt : Nat} (d : decode cc pc = .ok (.ifCond .ge off, 3)) (ht : (pc : Int) + off = (tgt : Int)) (kt : 0 ≤ x → kW p l e R s m args below meth c D cl A nL cells slots Q tgt lv st ws) (kf : ¬ 0 ≤ x → kW p l e R s m args below meth c D cl A nL cells slots Q (pc + 3) lv st ws) : kW p l e R s m args below meth c D cl A nL cells slots Q pc lv (.int x :: st) ws := fun H locs ls hP hD hS hl => lv_if_ge C.1.1 C.1.2.1 d ht (fun h => kt h H locs ls hP hD hS hl) (fun h => kf h H locs ls hP hD hS hl)
theorem kw_if_gt (C : kC p s m args c cc own Ts D cl tys A nL) {x : Int32} {off : Int} {tgt : Nat} (d : decode cc pc = .ok (.ifCond .gt off, 3)) (ht : (pc : Int) + off = (tgt : Int)) (kt : 0 < x → kW p l e R s m args below meth c D cl A nL cells slots Q tgt lv st ws) (kf : ¬ 0 < x → kW p l e R s m args below meth c D cl A nL cells slots Q (pc + 3) lv st ws) : kW p l e R s m args below meth c D cl A nL cells slots Q pc lv (.int x :: st) ws := fun H locs ls hP hD hS hl => lv_if_gt C.1.1 C.1.2.1 d ht (fun h => kt h H locs ls hP hD hS hl) (fun h => kf h H locs ls hP hD hS hl)
theorem kw_if_le (C : kC p s m args c cc own Ts D cl tys A nL) {x : Int32} {off : Int} {tgt : Nat} (d : decode cc pc = .ok (.ifCond .le off, 3)) (ht : (pc : Int) + off = (tgt : Int)) (kt : x ≤ 0 → kW p l e R s m args below meth c D cl A nL cells slots Q tgt lv st ws) (kf : ¬ x ≤ 0 → kW p l e R s m args below meth c D cl A nL cells slots Q (pc + 3) lv st ws) : kW p l e R s m args below meth c D cl A nL cells slots Q pc lv (.int x :: st) ws := fun H locs ls hP hD hS hl => lv_if_le C.1.1 C.1.2.1 d ht (fun h => kt h H locs ls hP hD hS hl) (fun h => kf h H locs ls hP hD hS hl)
theorem kw_icmp_eq (C : kC p s m args c cc own Ts D cl tys A nL) {x y : Int32} {off : Int} {tgt : Nat} (d : decode cc pc = .ok (.if_icmp .eq off, 3)) (ht : (pc : Int) + off = (tgt : Int)) (kt : x = y → kW p l e R s m args below meth c D cl A nL cells slots Q tgt lv st ws) (kf : ¬ x = y → kW p l e R s m args below meth c D cl A nL cells slots Q (pc + 3) lv st ws) : kW p l e R s m args below meth c D cl A nL cells slots Q pc lv (.int y :: .int x :: st) ws := fun H locs ls hP hD hS hl => lv_icmp_eq C.1.1 C.1.2.1 d ht (fun h => kt h H locs ls hP hD hS hl) (fun h => kf h H locs ls hP hD hS hl)
theorem kw_icmp_ne (C : kC p s m args c cc own Ts D cl tys A nL) {x y : Int32} {off : Int} {tgt : Nat} (d : decode cc pc = .ok (.if_icmp .ne off, 3)) (ht : (pc : Int) + off = (tgt : Int)) (kt : ¬ x = y → kW p l e R s m args below meth c D cl A nL cells slots Q tgt lv st ws) (kf : x = y → kW p l e R s m args below meth c D cl A nL cells slots Q (pc + 3) lv st ws) : kW p l e R s m args below meth c D cl A nL cells slots Q pc lv (.int y :: .int x :: st) ws := fun H locs ls hP hD hS hl => lv_icmp_ne C.1.1 C.1.2.1 d ht (fun h => kt h H locs ls hP hD hS hl) (fun h => kf h H locs ls hP hD hS hl)
theorem kw_icmp_lt (C : kC p s m args c cc own Ts D cl tys A nL) {x y : Int32} {off : Int} {tgt : Nat} (d : decode cc pc = .ok (.if_icmp .lt off, 3)) (ht : (pc : Int) + off = (tgt : Int)) (kt : x < y → kW p l e R s m args below meth c D cl A nL cells slots Q tgt lv st ws) (kf : ¬ x < y → kW p l e R s m args below meth c D cl A nL cells slots Q (pc + 3) lv st ws) : kW p l e R s m args below meth c D cl A nL cells slots Q pc lv (.int y :: .int x :: st) ws := fun H locs ls hP hD hS hl => lv_icmp_lt C.1.1 C.1.2.1 d ht (fun h => kt h H locs ls hP hD hS hl) (fun h => kf h H locs ls hP hD hS hl)
theorem kw_icmp_ge (C : kC p s m args c cc own Ts D cl tys A nL) {x y : Int32} {off : Int} {tgt : Nat} (d : decode cc pc = .ok (.if_icmp .ge off, 3)) (ht : (pc : Int) + off = (tgt : Int)) (kt : y ≤ x → kW p l e R s m args below meth c D cl A nL cells slots Q tgt lv st ws) (kf : ¬ y ≤ x → kW p l e R s m args below meth c D cl A nL cells slots Q (pc + 3) lv st ws) : kW p l e R s m args below meth c D cl A nL cells slots Q pc lv (.int y :: .int x :: st) ws := fun H locs ls hP hD hS hl => lv_icmp_ge C.1.1 C.1.2.1 d ht (fun h => kt h H locs ls hP hD hS hl) (fun h => kf h H locs ls hP hD hS hl)
theorem kw_icmp_gt (C : kC p s m args c cc own Ts D cl tys A nL) {x y : Int32} {off : Int} {tgt : Nat} (d : decode cc pc = .ok (.if_icmp .gt off, 3)) (ht : (pc : Int) + off = (tgt : Int)) (kt : y < x → kW p l e R s m args below meth c D cl A nL cells slots Q tgt lv st ws) (kf : ¬ y < x → kW p l e R s m args below meth c D cl A nL cells slots Q (pc + 3) lv st ws) : kW p l e R s m args below meth c D cl A nL cells slots Q pc lv (.int y :: .int x :: st) ws := fun H locs ls hP hD hS hl => lv_icmp_gt C.1.1 C.1.2.1 d ht (fun h => kt h H locs ls hP hD hS hl) (fun h => kf h H locs ls hP hD hS hl)
theorem kw_icmp_le (C : kC p s m args c cc own Ts D cl tys A nL) {x y : Int32} {off : Int} {tgt : Nat} (d : decode cc pc = .ok (.if_icmp .le off, 3)) (ht : (pc : Int) + off = (tgt : Int)) (kt : x ≤ y → kW p l e R s m args below meth c D cl A nL cells slots Q tgt lv st ws) (kf : ¬ x ≤ y → kW p l e R s m args below meth c D cl A nL cells slots Q (pc + 3) lv st ws) : kW p l e R s m args below meth c D cl A nL cells slots Q pc lv (.int y :: .int x :: st) ws := fun H locs ls hP hD hS hl => lv_icmp_le C.1.1 C.1.2.1 d ht (fun h => kt h H locs ls hP hD hS hl) (fun h => kf h H locs ls hP hD hS hl)
end KP1
end
section
section KP2
variable {p : Program} {l : Launch} {e : Env} {R : Room} {s : State} {m : MethodId} {args : Array Value} {below : List Frame} {meth : Method} {c : Code} {cells slots : Nat} {Q : State → Prop}
variable {cc : ByteArray} {own : String} {Ts : List Cond} {D : va_G} {cl : List vw_C} {tys : List (ClassId × FieldType)} {A : Nat → Prop} {nL : Nat}
variable {pc : Nat} {lv : List (Nat × Value)} {st : List Value} {ws : va_W}
def kix (i : Int32) (n j : Nat) : Prop := vp_in i n ∧ i.toNatClampNeg = j
theorem kix_nI {n j : Nat} (h : j < n) (hn : n < 2 ^ 31) : kix (nI j) n j := ⟨vp_in_nI h hn, nI_clamp (Nat.lt_trans h hn)⟩
theorem kix_of {i : Int32} {n : Nat} (h : vp_in i n) : kix i n i.toNatClampNeg := ⟨h, rfl⟩
theorem kw_get (C : kC p s m args c cc own Ts D cl tys A nL) {Cn : String} {T : u_T} {N ci index a : Nat} (q0 : Nat) {fs : List Value} (he : ws[q0]? = some (a, .inr (ci, fs))) (hc : cl[ci]? = some (Cn, T, N)) (hin : ∀ w ∈ u_ws Cn T N, w ∈ Ts) (k : Nat) (hk : k < N) (hlink : Cond.fieldLink own index (T k).1 (T k).2.1 (T k).2.2.1 ∈ Ts) {v : Value} (hv : fs[k]? = some v) (d : decode cc pc = .ok (.getfield index, 3)) (kk : kW p l e R s m args below meth c D cl A nL cells slots Q (pc + 3) lv (v :: st) ws) : kW p l e R s m args below meth c D cl A nL cells slots Q pc lv (.ref a :: st) ws := fun H locs ls hP hD hS hl => va_get C.1.1 C.1.2.1 C.1.2.2.2.2 hin C.1.2.2.2.1 C.2.1 hP q0 he hc k hk (C.1.2.2.2.2 _ hlink) (fun _ h9 => h9) hv d (kk H locs ls hP hD hS hl)
theorem kw_put (C : kC p s m args c cc own Ts D cl tys A nL) {Cn : String} {T : u_T} {N ci index a : Nat} (q0 : Nat) {fs : List Value} (he : ws[q0]? = some (a, .inr (ci, fs))) (hc : cl[ci]? = some (Cn, T, N)) (hin : ∀ w ∈ u_ws Cn T N, w ∈ Ts) {ty0 : Nat → FieldType} (hty : ∀ k, k < N → parseFieldDescriptor (T k).2.2.1 = some (ty0 k)) (hnm : ∀ a, a < N → ∀ b, b < N → a ≠ b → (T a).2.1 ≠ (T b).2.1) (k : Nat) (hk : k < N) (hlink : Cond.fieldLink own index (T k).1 (T k).2.1 (T k).2.2.1 ∈ Ts) (hfin : (T k).2.2.2 = false) {ty : FieldType} {v : Value} (hd : parseFieldDescriptor (T k).2.2.1 = some ty) (hn : narrow ty v = v) (hfit : fits ty v = true) (hlen : k < fs.length) (d : decode cc pc = .ok (.putfield index, 3)) (ws' : va_W) (hw : ws.set q0 (a, .inr (ci, fs.set k v)) = ws') (kk : kW p l e R s m args below meth c D cl A nL cells slots Q (pc + 3) lv st ws') : kW p l e R s m args below meth c D cl A nL cells slots Q pc lv (v :: .ref a :: st) ws := fun H locs ls hP hD hS hl => va_put C.1.1 C.1.2.1 C.1.2.2.2.2 hin ty0 hty hnm C.1.2.2.2.1 C.2.1 hP hD hS q0 he hc k hk (C.1.2.2.2.2 _ hlink) (fun _ h9 => h9) hfin hd hn hfit hlen d (fun H1 locs1 hP1 hD1 hS1 => kk H1 locs1 ls (hw ▸ hP1) (hw ▸ hD1) hS1 hl)
theorem kw_iald (C : kC p s m args c cc own Ts D cl tys A nL) (q0 t0 : Nat) {a : Nat} {cA : ClassId} {n : Nat} {f : Nat → Int32} (ha : ws[q0]? = some (a, .inl (cA, n, .inl f))) (ht : tys[t0]? = some (cA, .int)) {i : Int32} {j : Nat} (hi : kix i n j) (d : decode cc pc = .ok (.iaload, 1)) (kk : kW p l e R s m args below meth c D cl A nL cells slots Q (pc + 1) lv (.int (f j) :: st) ws) : kW p l e R s m args below meth c D cl A nL cells slots Q pc lv (.int i :: .ref a :: st) ws := fun H locs ls hP hD hS hl => va_iald C.1.1 C.1.2.1 C.2.1 hP q0 t0 ha ht hi.1 d (by rw [hi.2]; exact kk H locs ls hP hD hS hl)
theorem kw_iast (C : kC p s m args c cc own Ts D cl tys A nL) (q0 t0 : Nat) {a : Nat} {cA : ClassId} {n : Nat} {f : Nat → Int32} (ha : ws[q0]? = some (a, .inl (cA, n, .inl f))) (ht : tys[t0]? = some (cA, .int)) {i : Int32} {x : Int32} {j : Nat} (hi : kix i n j) (d : decode cc pc = .ok (.iastore, 1)) (ws' : va_W) (hw : ws.set q0 (a, .inl (cA, n, .inl (upd f j x))) = ws') (kk : kW p l e R s m args below meth c D cl A nL cells slots Q (pc + 1) lv st ws') : kW p l e R s m args below meth c D cl A nL cells slots Q pc lv (.int x :: .int i :: .ref a :: st) ws := fun H locs ls hP hD hS hl => va_iast C.1.1 C.1.2.1 C.2.1 hP hD hS q0 t0 ha ht hi.1 d (fun H1 locs1 hP1 hD1 hS1 => kk H1 locs1 ls (by rw [hi.2] at hP1; exact hw ▸ hP1) (by rw [hi.2] at hD1; exact hw ▸ hD1) hS1 hl)
theorem kw_lald (C : kC p s m args c cc own Ts D cl tys A nL) (q0 t0 : Nat) {a : Nat} {cA : ClassId} {n : Nat} {f : Nat → Int64} (ha : ws[q0]? = some (a, .inl (cA, n, .inr (.inl f)))) (ht : tys[t0]? = some (cA, .long)) {i : Int32} {j : Nat} (hi : kix i n j) (d : decode cc pc = .ok (.laload, 1)) (kk : kW p l e R s m args below meth c D cl A nL cells slots Q (pc + 1) lv (.long (f j) :: st) ws) : kW p l e R s m args below meth c D cl A nL cells slots Q pc lv (.int i :: .ref a :: st) ws := fun H locs ls hP hD hS hl => va_lald C.1.1 C.1.2.1 C.2.1 hP q0 t0 ha ht hi.1 d (by rw [hi.2]; exact kk H locs ls hP hD hS hl)
theorem kw_last (C : kC p s m args c cc own Ts D cl tys A nL) (q0 t0 : Nat) {a : Nat} {cA : ClassId} {n : Nat} {f : Nat → Int64} (ha : ws[q0]? = some (a, .inl (cA, n, .inr (.inl f)))) (ht : tys[t0]? = some (cA, .long)) {i : Int32} {x : Int64} {j : Nat} (hi : kix i n j) (d : decode cc pc = .ok (.lastore, 1)) (ws' : va_W) (hw : ws.set q0 (a, .inl (cA, n, .inr (.inl (vp_updL f j x)))) = ws') (kk : kW p l e R s m args below meth c D cl A nL cells slots Q (pc + 1) lv st ws') : kW p l e R s m args below meth c D cl A nL cells slots Q pc lv (.long x :: .int i :: .ref a :: st) ws := fun H locs ls hP hD hS hl => va_last C.1.1 C.1.2.1 C.2.1 hP hD hS q0 t0 ha ht hi.1 d (fun H1 locs1 hP1 hD1 hS1 => kk H1 locs1 ls (by rw [hi.2] at hP1; exact hw ▸ hP1) (by rw [hi.2] at hD1; exact hw ▸ hD1) hS1 hl)
theorem kw_aldA (C : kC p s m args c cc own Ts D cl tys A nL) (q0 t0 : Nat) {a : Nat} {cA : ClassId} {t : FieldType} {n : Nat} {f : Nat → Option Nat} (ha : ws[q0]? = some (a, .inl (cA, n, .inr (.inr (.inr (.inr f)))))) (ht : tys[t0]? = some (cA, .array t)) {i : Int32} {j : Nat} (hi : kix i n j) {b : Nat} (hb : f j = some b) (d : decode cc pc = .ok (.aaload, 1)) (kk : kW p l e R s m args below meth c D cl A nL cells slots Q (pc + 1) lv (.ref b :: st) ws) : kW p l e R s m args below meth c D cl A nL cells slots Q pc lv (.int i :: .ref a :: st) ws := fun H locs ls hP hD hS hl => by
  have hlt : i.toNatClampNeg < n := Nat.not_le.mp fun q => hi.1 (Or.inr q)
  exact W.aald (v := .ref b) (ty := .array t) C.1.1 C.1.2.1 (hP q0 _ ha) ((C.2.1.2 t0 _ ht).1 n (fun j => va_rf (f j))) rfl (fun q => by cases q) (by show ¬ (i < 0 ∨ (arrV _ _ _).slots.size ≤ _); rw [arrV_size]; exact hi.1) (by show (arrV _ _ _).slots[_]? = _; rw [arrV_read _ _ hlt, hi.2, hb]; rfl) rfl rfl d (kk H locs ls hP hD hS hl)
theorem kw_alen (C : kC p s m args c cc own Ts D cl tys A nL) (q0 t0 : Nat) {a : Nat} {cA : ClassId} {x : vp_A} (ha : ws[q0]? = some (a, .inl (cA, x))) {ty : FieldType} (ht : tys[t0]? = some (cA, ty)) {v : Int32} (hv : Int32.ofNat x.1 = v) (d : decode cc pc = .ok (.arraylength, 1)) (kk : kW p l e R s m args below meth c D cl A nL cells slots Q (pc + 1) lv (.int v :: st) ws) : kW p l e R s m args below meth c D cl A nL cells slots Q pc lv (.ref a :: st) ws := fun H locs ls hP hD hS hl => va_alen C.1.1 C.1.2.1 C.2.1 hP q0 t0 ha ht hv d (kk H locs ls hP hD hS hl)
theorem kw_mmax_long (C : kC p s m args c cc own Ts D cl tys A nL) {index : Nat} {x y : Int64} (hlink : Cond.methodLink own index Lib.MathLoose.max_long.x ∈ Ts) (hstat : Cond.static Lib.MathLoose.max_long.x ∈ Ts) (hini : Cond.initialized "java/lang/Math" ∈ Ts) (hcode : Cond.code Lib.MathLoose.max_long.x Lib.MathLoose.max_long.code 4 (some .long) ∈ Ts) (hframes : 1 ≤ R.frames) (hlocals : (st.map fun v => v.category).sum + 15 ≤ R.locals) (hcs : cells ≤ R.cells) (hss : slots ≤ R.slots) (d : decode cc pc = .ok (.invokestatic index, 3)) (kk : kW p l e R s m args below meth c D cl A nL cells slots Q (pc + 3) lv (.long (if y < x then x else y) :: st) ws) : kW p l e R s m args below meth c D cl A nL cells slots Q pc lv (.long y :: .long x :: st) ws := fun H locs ls hP hD hS hl => va_mmax_long C.1.1 C.1.2.1 (C.1.2.2.1.trans hl.1.symm) C.1.2.2.2.1 (C.1.2.2.2.2 _ hlink) (C.1.2.2.2.2 _ hstat) (C.1.2.2.2.2 _ hini) (C.1.2.2.2.2 _ hcode) hframes hlocals hcs hss d (kk H locs ls hP hD hS hl)
theorem kw_mmin_long (C : kC p s m args c cc own Ts D cl tys A nL) {index : Nat} {x y : Int64} (hlink : Cond.methodLink own index Lib.MathLoose.min_long.x ∈ Ts) (hstat : Cond.static Lib.MathLoose.min_long.x ∈ Ts) (hini : Cond.initialized "java/lang/Math" ∈ Ts) (hcode : Cond.code Lib.MathLoose.min_long.x Lib.MathLoose.min_long.code 4 (some .long) ∈ Ts) (hframes : 1 ≤ R.frames) (hlocals : (st.map fun v => v.category).sum + 15 ≤ R.locals) (hcs : cells ≤ R.cells) (hss : slots ≤ R.slots) (d : decode cc pc = .ok (.invokestatic index, 3)) (kk : kW p l e R s m args below meth c D cl A nL cells slots Q (pc + 3) lv (.long (if y < x then y else x) :: st) ws) : kW p l e R s m args below meth c D cl A nL cells slots Q pc lv (.long y :: .long x :: st) ws := fun H locs ls hP hD hS hl => va_mmin_long C.1.1 C.1.2.1 (C.1.2.2.1.trans hl.1.symm) C.1.2.2.2.1 (C.1.2.2.2.2 _ hlink) (C.1.2.2.2.2 _ hstat) (C.1.2.2.2.2 _ hini) (C.1.2.2.2.2 _ hcode) hframes hlocals hcs hss d (kk H locs ls hP hD hS hl)
theorem knd : ∀ {is : List Nat}, va_nd is = true → is.Nodup
  | [], _ => List.nodup_nil
  | a :: l, h => by
    have h2 : va_nd l = true := by simp only [va_nd, Bool.and_eq_true] at h; exact h.2
    refine List.nodup_cons.mpr ⟨fun hm => ?_, knd h2⟩
    obtain ⟨j, hj⟩ := List.getElem?_of_mem hm
    have := va_nd_inj (a :: l) h 0 (j + 1) a rfl (by simpa using hj)
    omega
def kput (ws : va_W) : List Nat → va_W → va_W
  | i :: is, x :: xs => kput (ws.set i x) is xs
  | [], _ => ws
  | _ :: _, [] => ws
theorem kput_at : ∀ (is : List Nat) (ws xs : va_W) (k : Nat), is.length = xs.length → (∀ i ∈ is, i < ws.length) → is.Nodup → (∃ j : Nat, is[j]? = some k ∧ (kput ws is xs)[k]? = xs[j]?) ∨ (k ∉ is ∧ (kput ws is xs)[k]? = ws[k]?)
  | [], ws, xs, k, _, _, _ => Or.inr ⟨List.not_mem_nil, by cases xs <;> rfl⟩
  | i :: is, ws, [], k, h, _, _ => by simp at h
  | i :: is, ws, x :: xs, k, h, hb, hn => by
    have hn' := List.nodup_cons.mp hn
    have h1 := kput_at is (ws.set i x) xs k (by simpa using h) (fun a ha => by rw [List.length_set]; exact hb a (List.mem_cons_of_mem _ ha)) hn'.2
    rcases h1 with ⟨j, h2, h3⟩ | ⟨h2, h3⟩
    · exact Or.inl ⟨j + 1, by simpa using h2, by simpa [kput] using h3⟩
    · by_cases e : i = k
      · subst e
        exact Or.inl ⟨0, rfl, by simp [kput, h3, List.getElem?_set, hb i List.mem_cons_self]⟩
      · refine Or.inr ⟨fun hm => ?_, ?_⟩
        · rcases List.mem_cons.mp hm with h4 | h4
          · exact e h4.symm
          · exact h2 h4
        · simp [kput, h3, List.getElem?_set, e]
theorem kfm {α β : Type} (f : α → Option β) : ∀ (is : List α) (w : List β), is.map f = w.map some → is.filterMap f = w
  | [], [], _ => rfl
  | [], _ :: _, h => by simp at h
  | _ :: _, [], h => by simp at h
  | i :: is, x :: xs, h => by
    simp only [List.map_cons, List.cons.injEq] at h
    rw [List.filterMap_cons, h.1, kfm f is xs h.2]
theorem kat_map {ws w0 : va_W} {isC : List Nat} (hC : isC.map (fun i => ws[i]?) = w0.map some) {j : Nat} {q : Nat × va_E} (h : w0[j]? = some q) : ∃ i : Nat, isC[j]? = some i ∧ ws[i]? = some q := by
  have h1 : (isC.map (fun i => ws[i]?))[j]? = some (some q) := by rw [hC, List.getElem?_map, h]; rfl
  rw [List.getElem?_map] at h1
  cases e : isC[j]? with
  | none => rw [e] at h1; cases h1
  | some i => rw [e] at h1; exact ⟨i, rfl, by simpa using h1⟩
theorem kat_map2 {ws w0 : va_W} {isC : List Nat} (hC : isC.map (fun i => ws[i]?) = w0.map some) {j i : Nat} (h : isC[j]? = some i) : ∃ q : Nat × va_E, w0[j]? = some q ∧ ws[i]? = some q := by
  have h1 : (w0.map some)[j]? = some (ws[i]?) := by rw [← hC, List.getElem?_map, h]; rfl
  rw [List.getElem?_map] at h1
  cases e : w0[j]? with
  | none => rw [e] at h1; cases h1
  | some q => rw [e] at h1; exact ⟨q, rfl, (Option.some.inj h1).symm⟩
theorem klt {ws w0 : va_W} {isC : List Nat} (hC : isC.map (fun i => ws[i]?) = w0.map some) : ∀ i ∈ isC, i < ws.length := fun i hi => by
  obtain ⟨j, hj⟩ := List.getElem?_of_mem hi
  obtain ⟨q, _, h⟩ := kat_map2 hC hj
  exact (List.getElem?_eq_some_iff.mp h).1
theorem kD_of {A : Nat → Prop} {ws ws' : va_W} (hD : va_D A ws) (h : ∀ (k : Nat) (q : Nat × va_E), ws'[k]? = some q → ∃ q0 : Nat × va_E, ws[k]? = some q0 ∧ q0.1 = q.1) : va_D A ws' := by
  refine ⟨fun i j p q hp hq e => ?_, fun k q hk => ?_⟩
  · obtain ⟨p0, h1, h2⟩ := h i p hp
    obtain ⟨q0, h3, h4⟩ := h j q hq
    exact hD.1 i j p0 q0 h1 h3 (by rw [h2, h4, e])
  · obtain ⟨q0, h1, h2⟩ := h k q hk
    rw [← h2]
    exact hD.2 k q0 h1
theorem kjoin {A : Nat → Prop} {D : va_G} {cl : List vw_C} {ws w0 w1 : va_W} {H H1 : Heap} (hP : va_P D cl ws H) (hD : va_D A ws) (isC : List Nat) (hC : isC.map (fun i => ws[i]?) = w0.map some) (hn : isC.Nodup) (had : w1.map (fun q => q.1) = w0.map (fun q => q.1))
    (hk : ∀ q : Nat, q < H.size → ¬ va_A w0 H.size q → H1[q]? = H[q]?) (hP1 : va_P D cl w1 H1) : va_P D cl (kput ws isC w1) H1 ∧ va_D A (kput ws isC w1) := by
  have hlen1 : w1.length = w0.length := by simpa using congrArg List.length had
  have hlen0 : isC.length = w0.length := by simpa using congrArg List.length hC
  have hcase := fun k => kput_at isC ws w1 k (hlen0.trans hlen1.symm) (klt hC) hn
  refine ⟨fun k q hkq => ?_, kD_of hD (fun k q hkq => ?_)⟩
  · rcases hcase k with ⟨j, h1, h2⟩ | ⟨h1, h2⟩
    · exact hP1 j q (h2 ▸ hkq)
    · have hq : ws[k]? = some q := h2 ▸ hkq
      have hat := hP k q hq
      refine hat.kept (hk q.1 hat.lt (fun hA => ?_))
      rcases hA with ⟨j, e9, hj⟩ | hA
      · obtain ⟨i, hi, hwi⟩ := kat_map hC hj
        have := hD.1 i k (q.1, e9) q hwi hq rfl
        subst this
        exact h1 (List.mem_of_getElem? hi)
      · exact absurd hat.lt (Nat.not_lt.mpr hA)
  · rcases hcase k with ⟨j, h1, h2⟩ | ⟨h1, h2⟩
    · obtain ⟨q0, h3, h4⟩ := kat_map2 hC h1
      refine ⟨q0, h4, ?_⟩
      have h5 : w1[j]? = some q := h2 ▸ hkq
      have h6 : (w1.map (fun q => q.1))[j]? = some q.1 := by rw [List.getElem?_map, h5]; rfl
      rw [had, List.getElem?_map, h3] at h6
      exact Option.some.inj h6
    · exact ⟨q, h2 ▸ hkq, rfl⟩
theorem kaddr {ws w1 : va_W} (had : w1.map (fun q => q.1) = ws.map (fun q => q.1)) {k : Nat} {q : Nat × va_E} (h : w1[k]? = some q) : ∃ q0 : Nat × va_E, ws[k]? = some q0 ∧ q0.1 = q.1 := by
  have h6 : (w1.map (fun q => q.1))[k]? = some q.1 := by rw [List.getElem?_map, h]; rfl
  rw [had, List.getElem?_map] at h6
  cases e : ws[k]? with
  | none => rw [e] at h6; cases h6
  | some q0 => rw [e] at h6; exact ⟨q0, rfl, Option.some.inj h6⟩
def kpre (D : va_G) (cl : List vw_C) (ws : va_W) (tys : List (ClassId × FieldType)) (sz : Nat) (av : List Value) : Array Value → State → Prop :=
  va_Pc av (fun U => U.heap.size = sz ∧ va_P D cl ws U.heap ∧ va_K D cl tys U ∧ va_D (fun _ => True) ws)
theorem kblind {D : va_G} {cl : List vw_C} {ws : va_W} {tys : List (ClassId × FieldType)} {sz : Nat} {av : List Value} : FrameBlind (kpre D cl ws tys sz av) := fun a U g mk q => by
  obtain ⟨q0, q1, qP, qK, qD⟩ := q
  exact ⟨q0, q1, qP, va_K.moved (u := U) (U := U.calling g mk a) (Vm.Alike.refl U.vm) qK, qD⟩
abbrev kB (D : va_G) (cl : List vw_C) (w0 w1 : va_W) (sz : Nat) : Unit → State → Prop := fun _ t => va_P D cl w1 t.heap ∧ va_D (va_A w0 sz) w1
def kQi (D : va_G) (cl : List vw_C) (w0 w1 : va_W) (r : Int32) (sz : Nat) : Array Value → State → Outcome → State → Prop := va_Qi (fun x (_ : Unit) => x = r) (kB D cl w0 w1 sz) (va_A w0 sz)
def kQl (D : va_G) (cl : List vw_C) (w0 w1 : va_W) (r : Int64) (sz : Nat) : Array Value → State → Outcome → State → Prop := va_Ql (fun x (_ : Unit) => x = r) (kB D cl w0 w1 sz) (va_A w0 sz)
def kQv (D : va_G) (cl : List vw_C) (w0 w1 : va_W) (sz : Nat) : Array Value → State → Outcome → State → Prop := va_Qv (fun (_ : Unit) => True) (kB D cl w0 w1 sz) (va_A w0 sz)
def kMi (l : Launch) (y : MethodName) (wm : List Cond) (rm : Room) (D : va_G) (cl : List vw_C) (tys : List (ClassId × FieldType)) (w0 w1 : va_W) (av : List Value) (r : Int32) : Prop := ∀ sz : Nat, Met l y wm rm (kpre D cl w0 tys sz av) (kQi D cl w0 w1 r sz) 0 0 (va_A w0 sz)
def kMl (l : Launch) (y : MethodName) (wm : List Cond) (rm : Room) (D : va_G) (cl : List vw_C) (tys : List (ClassId × FieldType)) (w0 w1 : va_W) (av : List Value) (r : Int64) : Prop := ∀ sz : Nat, Met l y wm rm (kpre D cl w0 tys sz av) (kQl D cl w0 w1 r sz) 0 0 (va_A w0 sz)
def kMv (l : Launch) (y : MethodName) (wm : List Cond) (rm : Room) (D : va_G) (cl : List vw_C) (tys : List (ClassId × FieldType)) (w0 w1 : va_W) (av : List Value) : Prop := ∀ sz : Nat, Met l y wm rm (kpre D cl w0 tys sz av) (kQv D cl w0 w1 sz) 0 0 (va_A w0 sz)
abbrev kwm (y : MethodName) (b : ByteArray) (n : Nat) (r : Option FieldType) : List Cond := Cond.code y b n r :: kT
theorem kgV {own C : String} {index n : Nat} {y : MethodName} {b : ByteArray} {r : Option FieldType} (h1 : Cond.methodLink own index y ∈ kT) (h2 : Cond.instanceMethod y ∈ kT) (h3 : Cond.selects C y y ∈ kT) (h4 : Cond.initialized C ∈ kT) (h5 : Cond.code y b n r ∈ kT) : GoodIn kT (wsV own index C y (kwm y b n r)) := by
  intro w hw
  simp only [wsV, List.cons_append, List.nil_append, List.mem_cons] at hw
  rcases hw with rfl | rfl | rfl | rfl | rfl | hw
  · exact kT_good _ h1
  · exact kT_good _ h2
  · exact kT_good _ h3
  · exact kT_good _ h4
  · exact kT_good _ h5
  · exact kT_good _ hw
theorem kgS {own : String} {index n : Nat} {y : MethodName} {b : ByteArray} {r : Option FieldType} (h1 : Cond.methodLink own index y ∈ kT) (h2 : Cond.static y ∈ kT) (h4 : Cond.initialized own ∈ kT) (h5 : Cond.code y b n r ∈ kT) : GoodIn kT (wsS own index y (kwm y b n r)) := by
  intro w hw
  simp only [wsS, List.cons_append, List.nil_append, List.mem_cons] at hw
  rcases hw with rfl | rfl | rfl | rfl | hw
  · exact kT_good _ h1
  · exact kT_good _ h2
  · exact kT_good _ h4
  · exact kT_good _ h5
  · exact kT_good _ hw
theorem kgO {own : String} {index n : Nat} {y : MethodName} {b : ByteArray} {r : Option FieldType} (h1 : Cond.methodLink own index y ∈ kT) (h2 : Cond.static y ∈ kT) (h4 : Cond.initialized y.cls ∈ kT) (h5 : Cond.code y b n r ∈ kT) : GoodIn kT (va_wsS own index y (kwm y b n r)) := by
  intro w hw
  simp only [va_wsS, List.cons_append, List.nil_append, List.mem_cons] at hw
  rcases hw with rfl | rfl | rfl | rfl | hw
  · exact kT_good _ h1
  · exact kT_good _ h2
  · exact kT_good _ h4
  · exact kT_good _ h5
  · exact kT_good _ hw
theorem k_entry_i {l : Launch} {y : MethodName} {own : String} {rm : Room} {D : va_G} {cl : List vw_C} {tys : List (ClassId × FieldType)} {w0 w1 : va_W} {av : List Value} {r : Int32} {cc : ByteArray} {maxL : Nat} {ret : Option FieldType} {lv0 : List (Nat × Value)} (ho : y.cls = own) (hy : plainFor y = true) (hlen : (lg_sl av).length ≤ maxL) (hlv : lv_args 0 av = lv0)
    (body : ∀ (p : Program) (e : Env) (s : State) (m : MethodId) (args : Array Value) (below : List Frame) (meth : Method) (c : Code), kC p s m args c cc own kT D cl tys (va_A w0 s.heap.size) maxL → meth.sig.returnType = ret → meth.locks = false → kW p l e rm s m args below meth c D cl (va_A w0 s.heap.size) maxL 0 0 (MQ below (kQi D cl w0 w1 r s.heap.size) args s 0 0 (va_A w0 s.heap.size)) 0 lv0 [] w0) : kMi l y (kwm y cc maxL ret) rm D cl tys w0 w1 av r := fun sz => by
  subst ho
  refine va_MetF (cc := cc) (maxL := maxL) (ret := ret) hy rfl ?_
  intro p e s m args below meth c s1 B hml hv
  obtain ⟨rfl, hsz, hP, hK, hD0⟩ := hv
  subst hsz
  have hl := lv_entry av (n := maxL) hlen
  rw [lg_entry_eq]
  rw [hlv] at hl
  have hts := atoms_spec (ws := kwm y cc maxL ret) B.pre
  exact body p e s m _ below meth c ⟨⟨B.exec, B.bytes, hml, findClass_of_methodNamed B.named, fun w h => hts w (List.mem_cons_of_mem _ h)⟩, hK, fun q h => Or.inr h⟩ B.returns B.notSynchronized s.heap [] _ hP hD0.self va_S.rf hl
theorem k_entry_l {l : Launch} {y : MethodName} {own : String} {rm : Room} {D : va_G} {cl : List vw_C} {tys : List (ClassId × FieldType)} {w0 w1 : va_W} {av : List Value} {r : Int64} {cc : ByteArray} {maxL : Nat} {ret : Option FieldType} {lv0 : List (Nat × Value)} (ho : y.cls = own) (hy : plainFor y = true) (hlen : (lg_sl av).length ≤ maxL) (hlv : lv_args 0 av = lv0)
    (body : ∀ (p : Program) (e : Env) (s : State) (m : MethodId) (args : Array Value) (below : List Frame) (meth : Method) (c : Code), kC p s m args c cc own kT D cl tys (va_A w0 s.heap.size) maxL → meth.sig.returnType = ret → meth.locks = false → kW p l e rm s m args below meth c D cl (va_A w0 s.heap.size) maxL 0 0 (MQ below (kQl D cl w0 w1 r s.heap.size) args s 0 0 (va_A w0 s.heap.size)) 0 lv0 [] w0) : kMl l y (kwm y cc maxL ret) rm D cl tys w0 w1 av r := fun sz => by
  subst ho
  refine va_MetF (cc := cc) (maxL := maxL) (ret := ret) hy rfl ?_
  intro p e s m args below meth c s1 B hml hv
  obtain ⟨rfl, hsz, hP, hK, hD0⟩ := hv
  subst hsz
  have hl := lv_entry av (n := maxL) hlen
  rw [lg_entry_eq]
  rw [hlv] at hl
  have hts := atoms_spec (ws := kwm y cc maxL ret) B.pre
  exact body p e s m _ below meth c ⟨⟨B.exec, B.bytes, hml, findClass_of_methodNamed B.named, fun w h => hts w (List.mem_cons_of_mem _ h)⟩, hK, fun q h => Or.inr h⟩ B.returns B.notSynchronized s.heap [] _ hP hD0.self va_S.rf hl
theorem k_entry_v {l : Launch} {y : MethodName} {own : String} {rm : Room} {D : va_G} {cl : List vw_C} {tys : List (ClassId × FieldType)} {w0 w1 : va_W} {av : List Value} {cc : ByteArray} {maxL : Nat} {ret : Option FieldType} {lv0 : List (Nat × Value)} (ho : y.cls = own) (hy : plainFor y = true) (hlen : (lg_sl av).length ≤ maxL) (hlv : lv_args 0 av = lv0)
    (body : ∀ (p : Program) (e : Env) (s : State) (m : MethodId) (args : Array Value) (below : List Frame) (meth : Method) (c : Code), kC p s m args c cc own kT D cl tys (va_A w0 s.heap.size) maxL → meth.sig.returnType = ret → meth.locks = false → kW p l e rm s m args below meth c D cl (va_A w0 s.heap.size) maxL 0 0 (MQ below (kQv D cl w0 w1 s.heap.size) args s 0 0 (va_A w0 s.heap.size)) 0 lv0 [] w0) : kMv l y (kwm y cc maxL ret) rm D cl tys w0 w1 av := fun sz => by
  subst ho
  refine va_MetF (cc := cc) (maxL := maxL) (ret := ret) hy rfl ?_
  intro p e s m args below meth c s1 B hml hv
  obtain ⟨rfl, hsz, hP, hK, hD0⟩ := hv
  subst hsz
  have hl := lv_entry av (n := maxL) hlen
  rw [lg_entry_eq]
  rw [hlv] at hl
  have hts := atoms_spec (ws := kwm y cc maxL ret) B.pre
  exact body p e s m _ below meth c ⟨⟨B.exec, B.bytes, hml, findClass_of_methodNamed B.named, fun w h => hts w (List.mem_cons_of_mem _ h)⟩, hK, fun q h => Or.inr h⟩ B.returns B.notSynchronized s.heap [] _ hP hD0.self va_S.rf hl
theorem kw_iret {w0 w1 : va_W} (C : kC p s m args c cc own Ts D cl tys (va_A w0 s.heap.size) nL) (hr : meth.sig.returnType = some .int) (hlocks : meth.locks = false) {v r : Int32} (hv : v = r) (d : decode cc pc = .ok (.ireturn, 1)) : kW p l e R s m args below meth c D cl (va_A w0 s.heap.size) nL 0 0 (MQ below (kQi D cl w0 w1 r s.heap.size) args s 0 0 (va_A w0 s.heap.size)) pc lv [.int v] w1 := fun H locs ls hP hD hS hl => W.iret (v := v) C.1.1 C.1.2.1 hr (fun t ht hW => ⟨⟨v, (), rfl, hv, by rw [ht]; exact hP, hD⟩, hS.F ht⟩) hS.2.2 d hlocks
theorem kw_zret {w0 w1 : va_W} (C : kC p s m args c cc own Ts D cl tys (va_A w0 s.heap.size) nL) (hr : meth.sig.returnType = some .boolean) (hlocks : meth.locks = false) {v r : Int32} (hv : v = r) (hn : narrow .boolean (.int v) = .int v) (d : decode cc pc = .ok (.ireturn, 1)) : kW p l e R s m args below meth c D cl (va_A w0 s.heap.size) nL 0 0 (MQ below (kQi D cl w0 w1 r s.heap.size) args s 0 0 (va_A w0 s.heap.size)) pc lv [.int v] w1 := fun H locs ls hP hD hS hl => W.zret (v := v) C.1.1 C.1.2.1 hr hn (fun t ht hW => ⟨⟨v, (), rfl, hv, by rw [ht]; exact hP, hD⟩, hS.F ht⟩) hS.2.2 d hlocks
theorem kw_lret {w0 w1 : va_W} (C : kC p s m args c cc own Ts D cl tys (va_A w0 s.heap.size) nL) (hr : meth.sig.returnType = some .long) (hlocks : meth.locks = false) {v r : Int64} (hv : v = r) (d : decode cc pc = .ok (.lreturn, 1)) : kW p l e R s m args below meth c D cl (va_A w0 s.heap.size) nL 0 0 (MQ below (kQl D cl w0 w1 r s.heap.size) args s 0 0 (va_A w0 s.heap.size)) pc lv [.long v] w1 := fun H locs ls hP hD hS hl => W.lret (v := v) C.1.1 C.1.2.1 hr (fun t ht hW => ⟨⟨v, (), rfl, hv, by rw [ht]; exact hP, hD⟩, hS.F ht⟩) hS.2.2 d hlocks
theorem kw_vret {w0 w1 : va_W} (C : kC p s m args c cc own Ts D cl tys (va_A w0 s.heap.size) nL) (hr : meth.sig.returnType = none) (hlocks : meth.locks = false) (d : decode cc pc = .ok (.return_, 1)) : kW p l e R s m args below meth c D cl (va_A w0 s.heap.size) nL 0 0 (MQ below (kQv D cl w0 w1 s.heap.size) args s 0 0 (va_A w0 s.heap.size)) pc lv [] w1 := fun H locs ls hP hD hS hl => W.vret C.1.1 C.1.2.1 hr (fun t ht hW => ⟨⟨(), rfl, trivial, by rw [ht]; exact hP, hD⟩, hS.F ht⟩) hS.2.2 d hlocks
theorem kw_eq {lv' : List (Nat × Value)} {st' : List Value} {ws' : va_W} (h1 : lv = lv') (h2 : st = st') (h3 : ws = ws') (kk : kW p l e R s m args below meth c D cl A nL cells slots Q pc lv' st' ws') : kW p l e R s m args below meth c D cl A nL cells slots Q pc lv st ws := by subst h1; subst h2; subst h3; exact kk
theorem kw_sub {lv' : List (Nat × Value)} (ks : List Nat) (h : lv_pick lv ks = lv') (kk : kW p l e R s m args below meth c D cl A nL cells slots Q pc lv' st ws) : kW p l e R s m args below meth c D cl A nL cells slots Q pc lv st ws := fun H locs ls hP hD hS hl => kk H locs ls hP hD hS (lv_sub hl ks h)
theorem kw_callVi (C : kC p s m args c cc own Ts D cl tys A nL) {y : MethodName} {wm : List Cond} {rm : Room} {Cn : String} {b : Nat} {index maxL n : Nat} {bytes : ByteArray} {ret : Option FieldType} {As st0 : List Value} {w0 w1 : va_W} {r : Int32} (hM : kMi l y wm rm D cl tys w0 w1 (.ref b :: As) r) (cw : CallW R s args own Cn index y bytes maxL ret wm rm 0 0 n) (isC : List Nat) (hC : isC.map (fun i => ws[i]?) = w0.map some) (hnd : va_nd isC = true) (q0 ci : Nat) {fs : List Value} {qc : vw_C} (hb0 : w0[q0]? = some (b, .inr (ci, fs))) (hb1 : cl[ci]? = some qc) (hb2 : qc.1 = Cn) (hn : As.length = n) (hst : st0 = As.reverse ++ .ref b :: st) (hroom : (st.map fun v => v.category).sum ≤ 8) (d : decode cc pc = .ok (.invokevirtual index, 3)) (hcs : cells ≤ R.cells ∧ slots ≤ R.slots) (had : w1.map (fun q => q.1) = w0.map (fun q => q.1)) (ws' : va_W) (hw' : kput ws isC w1 = ws') (kk : kW p l e R s m args below meth c D cl A nL cells slots Q (pc + 3) lv (.int r :: st) ws') : kW p l e R s m args below meth c D cl A nL cells slots Q pc lv st0 ws := fun H locs ls hP hD hS hl => by
  have hPc := hP.sub isC (kfm _ _ _ hC)
  have hDc := hD.sub isC hnd hC
  have hKc := C.2.1
  have hFc := va_free hD hS C.2.2 isC hC
  refine va_calli (va_runV (As := As) (rest := st) C.1 (hM H.size) cw ⟨kblind, by rw [← hb2]; exact va_recv hKc hPc hb1 hb0, fun U hU hW => ⟨rfl, by rw [hU], by rw [hU]; exact hPc, va_K.moved hW.alike hKc, hDc.weaken (fun _ _ _ _ => trivial)⟩⟩ rfl hn hl.1 hst (lv_room hroom) d hcs) hS (fun q _ h => hFc q h) hFc (fun x u t H1 locs1 ht hvm hw hB hz1 hk1 hS1 => ?_)
  obtain ⟨hP1, hD1⟩ := hB
  rw [ht] at hP1
  obtain ⟨hP2, hD2⟩ := kjoin hP hD isC hC (knd hnd) had hk1 hP1
  subst hw
  rw [hw'] at hP2 hD2
  exact kk H1 locs1 ls hP2 hD2 hS1 hl
theorem kw_callVl (C : kC p s m args c cc own Ts D cl tys A nL) {y : MethodName} {wm : List Cond} {rm : Room} {Cn : String} {b : Nat} {index maxL n : Nat} {bytes : ByteArray} {ret : Option FieldType} {As st0 : List Value} {w0 w1 : va_W} {r : Int64} (hM : kMl l y wm rm D cl tys w0 w1 (.ref b :: As) r) (cw : CallW R s args own Cn index y bytes maxL ret wm rm 0 0 n) (isC : List Nat) (hC : isC.map (fun i => ws[i]?) = w0.map some) (hnd : va_nd isC = true) (q0 ci : Nat) {fs : List Value} {qc : vw_C} (hb0 : w0[q0]? = some (b, .inr (ci, fs))) (hb1 : cl[ci]? = some qc) (hb2 : qc.1 = Cn) (hn : As.length = n) (hst : st0 = As.reverse ++ .ref b :: st) (hroom : (st.map fun v => v.category).sum ≤ 8) (d : decode cc pc = .ok (.invokevirtual index, 3)) (hcs : cells ≤ R.cells ∧ slots ≤ R.slots) (had : w1.map (fun q => q.1) = w0.map (fun q => q.1)) (ws' : va_W) (hw' : kput ws isC w1 = ws') (kk : kW p l e R s m args below meth c D cl A nL cells slots Q (pc + 3) lv (.long r :: st) ws') : kW p l e R s m args below meth c D cl A nL cells slots Q pc lv st0 ws := fun H locs ls hP hD hS hl => by
  have hPc := hP.sub isC (kfm _ _ _ hC)
  have hDc := hD.sub isC hnd hC
  have hKc := C.2.1
  have hFc := va_free hD hS C.2.2 isC hC
  refine va_calll (va_runV (As := As) (rest := st) C.1 (hM H.size) cw ⟨kblind, by rw [← hb2]; exact va_recv hKc hPc hb1 hb0, fun U hU hW => ⟨rfl, by rw [hU], by rw [hU]; exact hPc, va_K.moved hW.alike hKc, hDc.weaken (fun _ _ _ _ => trivial)⟩⟩ rfl hn hl.1 hst (lv_room hroom) d hcs) hS (fun q _ h => hFc q h) hFc (fun x u t H1 locs1 ht hvm hw hB hz1 hk1 hS1 => ?_)
  obtain ⟨hP1, hD1⟩ := hB
  rw [ht] at hP1
  obtain ⟨hP2, hD2⟩ := kjoin hP hD isC hC (knd hnd) had hk1 hP1
  subst hw
  rw [hw'] at hP2 hD2
  exact kk H1 locs1 ls hP2 hD2 hS1 hl
theorem kw_callVv (C : kC p s m args c cc own Ts D cl tys A nL) {y : MethodName} {wm : List Cond} {rm : Room} {Cn : String} {b : Nat} {index maxL n : Nat} {bytes : ByteArray} {ret : Option FieldType} {As st0 : List Value} {w0 w1 : va_W} (hM : kMv l y wm rm D cl tys w0 w1 (.ref b :: As)) (cw : CallW R s args own Cn index y bytes maxL ret wm rm 0 0 n) (isC : List Nat) (hC : isC.map (fun i => ws[i]?) = w0.map some) (hnd : va_nd isC = true) (q0 ci : Nat) {fs : List Value} {qc : vw_C} (hb0 : w0[q0]? = some (b, .inr (ci, fs))) (hb1 : cl[ci]? = some qc) (hb2 : qc.1 = Cn) (hn : As.length = n) (hst : st0 = As.reverse ++ .ref b :: st) (hroom : (st.map fun v => v.category).sum ≤ 8) (d : decode cc pc = .ok (.invokevirtual index, 3)) (hcs : cells ≤ R.cells ∧ slots ≤ R.slots) (had : w1.map (fun q => q.1) = w0.map (fun q => q.1)) (ws' : va_W) (hw' : kput ws isC w1 = ws') (kk : kW p l e R s m args below meth c D cl A nL cells slots Q (pc + 3) lv st ws') : kW p l e R s m args below meth c D cl A nL cells slots Q pc lv st0 ws := fun H locs ls hP hD hS hl => by
  have hPc := hP.sub isC (kfm _ _ _ hC)
  have hDc := hD.sub isC hnd hC
  have hKc := C.2.1
  have hFc := va_free hD hS C.2.2 isC hC
  refine va_callv (va_runV (As := As) (rest := st) C.1 (hM H.size) cw ⟨kblind, by rw [← hb2]; exact va_recv hKc hPc hb1 hb0, fun U hU hW => ⟨rfl, by rw [hU], by rw [hU]; exact hPc, va_K.moved hW.alike hKc, hDc.weaken (fun _ _ _ _ => trivial)⟩⟩ rfl hn hl.1 hst (lv_room hroom) d hcs) hS (fun q _ h => hFc q h) hFc (fun u t H1 locs1 ht hvm hw hB hz1 hk1 hS1 => ?_)
  obtain ⟨hP1, hD1⟩ := hB
  rw [ht] at hP1
  obtain ⟨hP2, hD2⟩ := kjoin hP hD isC hC (knd hnd) had hk1 hP1
  rw [hw'] at hP2 hD2
  exact kk H1 locs1 ls hP2 hD2 hS1 hl
theorem kw_callSi (C : kC p s m args c cc own Ts D cl tys A nL) {y : MethodName} {wm : List Cond} {rm : Room} {index maxL n : Nat} {bytes : ByteArray} {ret : Option FieldType} {As st0 : List Value} {w0 w1 : va_W} {r : Int32} (hM : kMi l y wm rm D cl tys w0 w1 As r) (cw : CallB R s args own index y bytes maxL ret wm rm 0 0 n ∧ (Cond.static y).before args s = true) (isC : List Nat) (hC : isC.map (fun i => ws[i]?) = w0.map some) (hnd : va_nd isC = true) (hn : As.length = n) (hst : st0 = As.reverse ++ st) (hroom : (st.map fun v => v.category).sum ≤ 8) (d : decode cc pc = .ok (.invokestatic index, 3)) (hcs : cells ≤ R.cells ∧ slots ≤ R.slots) (had : w1.map (fun q => q.1) = w0.map (fun q => q.1)) (ws' : va_W) (hw' : kput ws isC w1 = ws') (kk : kW p l e R s m args below meth c D cl A nL cells slots Q (pc + 3) lv (.int r :: st) ws') : kW p l e R s m args below meth c D cl A nL cells slots Q pc lv st0 ws := fun H locs ls hP hD hS hl => by
  have hPc := hP.sub isC (kfm _ _ _ hC)
  have hDc := hD.sub isC hnd hC
  have hKc := C.2.1
  have hFc := va_free hD hS C.2.2 isC hC
  refine va_calli (va_runS (As := As) (rest := st) C.1 (hM H.size) cw ⟨kblind, fun U hU hW => ⟨rfl, by rw [hU], by rw [hU]; exact hPc, va_K.moved hW.alike hKc, hDc.weaken (fun _ _ _ _ => trivial)⟩⟩ rfl hn hl.1 hst (lv_room hroom) d hcs) hS (fun q _ h => hFc q h) hFc (fun x u t H1 locs1 ht hvm hw hB hz1 hk1 hS1 => ?_)
  obtain ⟨hP1, hD1⟩ := hB
  rw [ht] at hP1
  obtain ⟨hP2, hD2⟩ := kjoin hP hD isC hC (knd hnd) had hk1 hP1
  subst hw
  rw [hw'] at hP2 hD2
  exact kk H1 locs1 ls hP2 hD2 hS1 hl
theorem kw_callSl (C : kC p s m args c cc own Ts D cl tys A nL) {y : MethodName} {wm : List Cond} {rm : Room} {index maxL n : Nat} {bytes : ByteArray} {ret : Option FieldType} {As st0 : List Value} {w0 w1 : va_W} {r : Int64} (hM : kMl l y wm rm D cl tys w0 w1 As r) (cw : CallB R s args own index y bytes maxL ret wm rm 0 0 n ∧ (Cond.static y).before args s = true) (isC : List Nat) (hC : isC.map (fun i => ws[i]?) = w0.map some) (hnd : va_nd isC = true) (hn : As.length = n) (hst : st0 = As.reverse ++ st) (hroom : (st.map fun v => v.category).sum ≤ 8) (d : decode cc pc = .ok (.invokestatic index, 3)) (hcs : cells ≤ R.cells ∧ slots ≤ R.slots) (had : w1.map (fun q => q.1) = w0.map (fun q => q.1)) (ws' : va_W) (hw' : kput ws isC w1 = ws') (kk : kW p l e R s m args below meth c D cl A nL cells slots Q (pc + 3) lv (.long r :: st) ws') : kW p l e R s m args below meth c D cl A nL cells slots Q pc lv st0 ws := fun H locs ls hP hD hS hl => by
  have hPc := hP.sub isC (kfm _ _ _ hC)
  have hDc := hD.sub isC hnd hC
  have hKc := C.2.1
  have hFc := va_free hD hS C.2.2 isC hC
  refine va_calll (va_runS (As := As) (rest := st) C.1 (hM H.size) cw ⟨kblind, fun U hU hW => ⟨rfl, by rw [hU], by rw [hU]; exact hPc, va_K.moved hW.alike hKc, hDc.weaken (fun _ _ _ _ => trivial)⟩⟩ rfl hn hl.1 hst (lv_room hroom) d hcs) hS (fun q _ h => hFc q h) hFc (fun x u t H1 locs1 ht hvm hw hB hz1 hk1 hS1 => ?_)
  obtain ⟨hP1, hD1⟩ := hB
  rw [ht] at hP1
  obtain ⟨hP2, hD2⟩ := kjoin hP hD isC hC (knd hnd) had hk1 hP1
  subst hw
  rw [hw'] at hP2 hD2
  exact kk H1 locs1 ls hP2 hD2 hS1 hl
theorem kw_callSv (C : kC p s m args c cc own Ts D cl tys A nL) {y : MethodName} {wm : List Cond} {rm : Room} {index maxL n : Nat} {bytes : ByteArray} {ret : Option FieldType} {As st0 : List Value} {w0 w1 : va_W} (hM : kMv l y wm rm D cl tys w0 w1 As) (cw : CallB R s args own index y bytes maxL ret wm rm 0 0 n ∧ (Cond.static y).before args s = true) (isC : List Nat) (hC : isC.map (fun i => ws[i]?) = w0.map some) (hnd : va_nd isC = true) (hn : As.length = n) (hst : st0 = As.reverse ++ st) (hroom : (st.map fun v => v.category).sum ≤ 8) (d : decode cc pc = .ok (.invokestatic index, 3)) (hcs : cells ≤ R.cells ∧ slots ≤ R.slots) (had : w1.map (fun q => q.1) = w0.map (fun q => q.1)) (ws' : va_W) (hw' : kput ws isC w1 = ws') (kk : kW p l e R s m args below meth c D cl A nL cells slots Q (pc + 3) lv st ws') : kW p l e R s m args below meth c D cl A nL cells slots Q pc lv st0 ws := fun H locs ls hP hD hS hl => by
  have hPc := hP.sub isC (kfm _ _ _ hC)
  have hDc := hD.sub isC hnd hC
  have hKc := C.2.1
  have hFc := va_free hD hS C.2.2 isC hC
  refine va_callv (va_runS (As := As) (rest := st) C.1 (hM H.size) cw ⟨kblind, fun U hU hW => ⟨rfl, by rw [hU], by rw [hU]; exact hPc, va_K.moved hW.alike hKc, hDc.weaken (fun _ _ _ _ => trivial)⟩⟩ rfl hn hl.1 hst (lv_room hroom) d hcs) hS (fun q _ h => hFc q h) hFc (fun u t H1 locs1 ht hvm hw hB hz1 hk1 hS1 => ?_)
  obtain ⟨hP1, hD1⟩ := hB
  rw [ht] at hP1
  obtain ⟨hP2, hD2⟩ := kjoin hP hD isC hC (knd hnd) had hk1 hP1
  rw [hw'] at hP2 hD2
  exact kk H1 locs1 ls hP2 hD2 hS1 hl
theorem kw_callAi (C : kC p s m args c cc own Ts D cl tys A nL) {y : MethodName} {wm : List Cond} {rm : Room} {Cn : String} {b : Nat} {index maxL n : Nat} {bytes : ByteArray} {ret : Option FieldType} {As st0 : List Value} {w1 : va_W} {r : Int32} (hM : kMi l y wm rm D cl tys ws w1 (.ref b :: As) r) (cw : CallW R s args own Cn index y bytes maxL ret wm rm 0 0 n) (q0 ci : Nat) {fs : List Value} {qc : vw_C} (hb0 : ws[q0]? = some (b, .inr (ci, fs))) (hb1 : cl[ci]? = some qc) (hb2 : qc.1 = Cn) (hn : As.length = n) (hst : st0 = As.reverse ++ .ref b :: st) (hroom : (st.map fun v => v.category).sum ≤ 8) (d : decode cc pc = .ok (.invokevirtual index, 3)) (hcs : cells ≤ R.cells ∧ slots ≤ R.slots) (had : w1.map (fun q => q.1) = ws.map (fun q => q.1)) (kk : kW p l e R s m args below meth c D cl A nL cells slots Q (pc + 3) lv (.int r :: st) w1) : kW p l e R s m args below meth c D cl A nL cells slots Q pc lv st0 ws := fun H locs ls hP hD hS hl => by
  have hKc := C.2.1
  have hFc : ∀ q, va_A ws H.size q → A q := fun q h => h.elim (fun ⟨k, e, h⟩ => hD.2 k _ h) (fun h => C.2.2 q (Nat.le_trans hS.1 h))
  refine va_calli (va_runV (As := As) (rest := st) C.1 (hM H.size) cw ⟨kblind, by rw [← hb2]; exact va_recv hKc hP hb1 hb0, fun U hU hW => ⟨rfl, by rw [hU], by rw [hU]; exact hP, va_K.moved hW.alike hKc, hD.weaken (fun _ _ _ _ => trivial)⟩⟩ rfl hn hl.1 hst (lv_room hroom) d hcs) hS (fun q _ h => hFc q h) hFc (fun x u t H1 locs1 ht hvm hw hB hz1 hk1 hS1 => ?_)
  obtain ⟨hP1, hD1⟩ := hB
  rw [ht] at hP1
  subst hw
  exact kk H1 locs1 ls hP1 (kD_of hD (fun k q hk => kaddr had hk)) hS1 hl
theorem kw_callAl (C : kC p s m args c cc own Ts D cl tys A nL) {y : MethodName} {wm : List Cond} {rm : Room} {Cn : String} {b : Nat} {index maxL n : Nat} {bytes : ByteArray} {ret : Option FieldType} {As st0 : List Value} {w1 : va_W} {r : Int64} (hM : kMl l y wm rm D cl tys ws w1 (.ref b :: As) r) (cw : CallW R s args own Cn index y bytes maxL ret wm rm 0 0 n) (q0 ci : Nat) {fs : List Value} {qc : vw_C} (hb0 : ws[q0]? = some (b, .inr (ci, fs))) (hb1 : cl[ci]? = some qc) (hb2 : qc.1 = Cn) (hn : As.length = n) (hst : st0 = As.reverse ++ .ref b :: st) (hroom : (st.map fun v => v.category).sum ≤ 8) (d : decode cc pc = .ok (.invokevirtual index, 3)) (hcs : cells ≤ R.cells ∧ slots ≤ R.slots) (had : w1.map (fun q => q.1) = ws.map (fun q => q.1)) (kk : kW p l e R s m args below meth c D cl A nL cells slots Q (pc + 3) lv (.long r :: st) w1) : kW p l e R s m args below meth c D cl A nL cells slots Q pc lv st0 ws := fun H locs ls hP hD hS hl => by
  have hKc := C.2.1
  have hFc : ∀ q, va_A ws H.size q → A q := fun q h => h.elim (fun ⟨k, e, h⟩ => hD.2 k _ h) (fun h => C.2.2 q (Nat.le_trans hS.1 h))
  refine va_calll (va_runV (As := As) (rest := st) C.1 (hM H.size) cw ⟨kblind, by rw [← hb2]; exact va_recv hKc hP hb1 hb0, fun U hU hW => ⟨rfl, by rw [hU], by rw [hU]; exact hP, va_K.moved hW.alike hKc, hD.weaken (fun _ _ _ _ => trivial)⟩⟩ rfl hn hl.1 hst (lv_room hroom) d hcs) hS (fun q _ h => hFc q h) hFc (fun x u t H1 locs1 ht hvm hw hB hz1 hk1 hS1 => ?_)
  obtain ⟨hP1, hD1⟩ := hB
  rw [ht] at hP1
  subst hw
  exact kk H1 locs1 ls hP1 (kD_of hD (fun k q hk => kaddr had hk)) hS1 hl
theorem kw_callAv (C : kC p s m args c cc own Ts D cl tys A nL) {y : MethodName} {wm : List Cond} {rm : Room} {Cn : String} {b : Nat} {index maxL n : Nat} {bytes : ByteArray} {ret : Option FieldType} {As st0 : List Value} {w1 : va_W} (hM : kMv l y wm rm D cl tys ws w1 (.ref b :: As)) (cw : CallW R s args own Cn index y bytes maxL ret wm rm 0 0 n) (q0 ci : Nat) {fs : List Value} {qc : vw_C} (hb0 : ws[q0]? = some (b, .inr (ci, fs))) (hb1 : cl[ci]? = some qc) (hb2 : qc.1 = Cn) (hn : As.length = n) (hst : st0 = As.reverse ++ .ref b :: st) (hroom : (st.map fun v => v.category).sum ≤ 8) (d : decode cc pc = .ok (.invokevirtual index, 3)) (hcs : cells ≤ R.cells ∧ slots ≤ R.slots) (had : w1.map (fun q => q.1) = ws.map (fun q => q.1)) (kk : kW p l e R s m args below meth c D cl A nL cells slots Q (pc + 3) lv st w1) : kW p l e R s m args below meth c D cl A nL cells slots Q pc lv st0 ws := fun H locs ls hP hD hS hl => by
  have hKc := C.2.1
  have hFc : ∀ q, va_A ws H.size q → A q := fun q h => h.elim (fun ⟨k, e, h⟩ => hD.2 k _ h) (fun h => C.2.2 q (Nat.le_trans hS.1 h))
  refine va_callv (va_runV (As := As) (rest := st) C.1 (hM H.size) cw ⟨kblind, by rw [← hb2]; exact va_recv hKc hP hb1 hb0, fun U hU hW => ⟨rfl, by rw [hU], by rw [hU]; exact hP, va_K.moved hW.alike hKc, hD.weaken (fun _ _ _ _ => trivial)⟩⟩ rfl hn hl.1 hst (lv_room hroom) d hcs) hS (fun q _ h => hFc q h) hFc (fun u t H1 locs1 ht hvm hw hB hz1 hk1 hS1 => ?_)
  obtain ⟨hP1, hD1⟩ := hB
  rw [ht] at hP1
  exact kk H1 locs1 ls hP1 (kD_of hD (fun k q hk => kaddr had hk)) hS1 hl
end KP2
end
section
section KP3
variable {p : Program} {l : Launch} {e : Env} {R : Room} {s : State} {m : MethodId} {args : Array Value} {below : List Frame} {meth : Method} {c : Code} {cells slots : Nat} {Q : State → Prop}
variable {cc : ByteArray} {own : String} {Ts : List Cond} {D : va_G} {cl : List vw_C} {tys : List (ClassId × FieldType)} {A : Nat → Prop} {nL : Nat}
variable {pc : Nat} {lv : List (Nat × Value)} {st : List Value} {ws : va_W}
theorem kcls {D : va_G} {cl : List vw_C} {tys : List (ClassId × FieldType)} {s : State} {cA kA : ClassId} {ty : FieldType} (hK : va_K D cl tys s) (t0 : Nat) (ht : tys[t0]? = some (kA, ty)) (ho : ∀ C, ty ≠ .object C) (h : va_RA s cA ty) : cA = kA := by
  have h1 := (hK.2 t0 _ ht).2
  have e1 : s.vm.findClass ("[" ++ ty.toString) = some kA := by
    cases ty <;> first | exact absurd rfl (ho _) | exact h1
  have e2 : s.vm.findClass ("[" ++ ty.toString) = some cA := by
    cases ty <;> first | exact absurd rfl (ho _) | exact h
  exact Option.some.inj (e2.symm.trans e1)
theorem kw_newa (C : kC p s m args c cc own Ts D cl tys A nL) {atype : ArrayType} {ty : FieldType} (t0 : Nat) {kA : ClassId} (ht : tys[t0]? = some (kA, ty)) (ho : ∀ C, ty ≠ .object C) (harr : Cond.arrayClass (newarray.typeOf atype) ∈ Ts) (hty : newarray.typeOf atype = ty) {n : Int32} {N' : Nat} {a0 : vp_A} (ha : ∀ cA : ClassId, vp_cell cA a0 = arrV cA N' (fun _ => defaultValue ty)) (hn : ¬ n < 0) (hN : n.toNatClampNeg = N') (hbytes : N' * componentBytes ty ≤ 536870912) (hcells : cells + 1 ≤ R.cells) (hslots : slots + N' ≤ R.slots) (d : decode cc pc = .ok (.newarray atype, 2)) (kk : ∀ q : Nat, kW p l e R s m args below meth c D cl A nL (cells + 1) (slots + N') Q (pc + 2) lv (.ref q :: st) (ws ++ [(q, .inl (kA, a0))])) : kW p l e R s m args below meth c D cl A nL cells slots Q pc lv (.int n :: st) ws := fun H locs ls hP hD hS hl => va_newa C.1.1 C.1.2.1 (C.1.2.2.2.2 _ harr) hty C.2.1 hP hD hS C.2.2 ha hn hN hbytes hcells hslots d (fun q cA H1 hK1 hP1 hD1 hS1 => by
    have e1 : cA = kA := kcls C.2.1 t0 ht ho (hK1.2 tys.length (cA, ty) (by simp)).2
    subst e1
    exact kk q H1 locs ls hP1 hD1 hS1 hl)
theorem kw_new (C : kC p s m args c cc own Ts D cl tys A nL) {Cn : String} {T : u_T} {N ci index : Nat} (hin : ∀ w ∈ u_ws Cn T N, w ∈ Ts) {ty0 : Nat → FieldType} (hty : ∀ k, k < N → parseFieldDescriptor (T k).2.2.1 = some (ty0 k)) (hcl : Cond.classLink own index Cn ∈ Ts) (hinst : Cond.instantiable Cn N ∈ Ts) (hini : Cond.initialized Cn ∈ Ts) (hc : cl[ci]? = some (Cn, T, N)) {fs : List Value} (hfs : ∀ j, j < N → defaultValue (ty0 j) = vp_V fs j) (hcells : cells + 1 ≤ R.cells) (hslots : slots + N ≤ R.slots) (d : decode cc pc = .ok (.new index, 3)) (kk : ∀ q : Nat, kW p l e R s m args below meth c D cl A nL (cells + 1) (slots + N) Q (pc + 3) lv (.ref q :: st) (ws ++ [(q, .inr (ci, fs))])) : kW p l e R s m args below meth c D cl A nL cells slots Q pc lv st ws := fun H locs ls hP hD hS hl => va_new C.1.1 C.1.2.1 C.1.2.2.2.2 hin ty0 hty C.1.2.2.2.1 (C.1.2.2.2.2 _ hcl) (C.1.2.2.2.2 _ hinst) (C.1.2.2.2.2 _ hini) C.2.1 hP hD hS C.2.2 hc hfs hcells hslots d (fun q H1 hP1 hD1 hS1 => kk q H1 locs ls hP1 hD1 hS1 hl)
theorem kw_putF (C : kC p s m args c cc own Ts D cl tys A nL) {Cn : String} {T : u_T} {N ci index a : Nat} (q0 : Nat) {fs : List Value} (he : ws[q0]? = some (a, .inr (ci, fs))) (hc : cl[ci]? = some (Cn, T, N)) (hin : ∀ w ∈ u_ws Cn T N, w ∈ Ts) {ty0 : Nat → FieldType} (hty : ∀ k, k < N → parseFieldDescriptor (T k).2.2.1 = some (ty0 k)) (hnm : ∀ a, a < N → ∀ b, b < N → a ≠ b → (T a).2.1 ≠ (T b).2.1) (k : Nat) (hk : k < N) (hlink : Cond.fieldLink own index (T k).1 (T k).2.1 (T k).2.2.1 ∈ Ts) (hfin : (T k).2.2.2 = true) (hin2 : meth.name = "<init>") (hdecl : (T k).1 = own) {ty : FieldType} {v : Value} (hd : parseFieldDescriptor (T k).2.2.1 = some ty) (hn : narrow ty v = v) (hfit : fits ty v = true) (hlen : k < fs.length) (d : decode cc pc = .ok (.putfield index, 3)) (ws' : va_W) (hw : ws.set q0 (a, .inr (ci, fs.set k v)) = ws') (kk : kW p l e R s m args below meth c D cl A nL cells slots Q (pc + 3) lv st ws') : kW p l e R s m args below meth c D cl A nL cells slots Q pc lv (v :: .ref a :: st) ws := fun H locs ls hP hD hS hl => va_putF C.1.1 C.1.2.1 C.1.2.2.2.2 hin ty0 hty hnm C.1.2.2.2.1 C.2.1 hP hD hS q0 he hc k hk (C.1.2.2.2.2 _ hlink) (fun _ h9 => h9) hfin hin2 hdecl hd hn hfit hlen d (fun H1 locs1 hP1 hD1 hS1 => kk H1 locs1 ls (hw ▸ hP1) (hw ▸ hD1) hS1 hl)
theorem kw_objInit (C : kC p s m args c cc own Ts D cl tys A nL) {idx a : Nat} (hlink : Cond.methodLink own idx Lib.objectInit ∈ Ts) (hinst : Cond.instanceMethod Lib.objectInit ∈ Ts) (hcode : Cond.code Lib.objectInit ⟨#[0xb1]⟩ 1 none ∈ Ts) (d : decode cc pc = .ok (.invokespecial idx, 3)) (hframes : 1 ≤ R.frames) (hlocals : (st.map fun v => v.category).sum + 12 ≤ R.locals) (kk : kW p l e R s m args below meth c D cl A nL cells slots Q (pc + 3) lv st ws) : kW p l e R s m args below meth c D cl A nL cells slots Q pc lv (.ref a :: st) ws := fun H locs ls hP hD hS hl => W.objInit (g := F0 m pc ls (.ref a :: st)) C.1.1 C.1.2.1 C.1.2.2.2.1 (C.1.2.2.2.2 _ hlink) (C.1.2.2.2.2 _ hinst) (C.1.2.2.2.2 _ hcode) rfl (hl.1.trans C.1.2.2.1.symm) rfl d hframes (by have h0 : (F0 m pc ls (.ref a :: st)).monitorRoom = 0 := rfl; rw [h0]; omega) (kk H locs ls hP hD hS hl)
theorem kw_copyl (C : kC p s m args c cc own Ts D cl tys A nL) {index : Nat} (hlink : Cond.methodLink own index arraycopyName ∈ Ts) (hnat : Cond.native arraycopyName ∈ Ts) (hstat : Cond.static arraycopyName ∈ Ts) (hini : Cond.initialized "java/lang/System" ∈ Ts) (q0 q1 t0 t1 : Nat) {a0 a : Nat} {c0 c1 : ClassId} {n0 n1 : Nat} {f g : Nat → Int64} (ha0 : ws[q0]? = some (a0, .inl (c0, n0, .inr (.inl f)))) (ha1 : ws[q1]? = some (a, .inl (c1, n1, .inr (.inl g)))) (ht0 : tys[t0]? = some (c0, .long)) (ht1 : tys[t1]? = some (c1, .long)) {sp dp n : Int32} (h1 : ¬ sp < 0) (h2 : ¬ dp < 0) (h3 : ¬ n < 0) (h4 : sp.toNatClampNeg + n.toNatClampNeg ≤ n0) (h5 : dp.toNatClampNeg + n.toNatClampNeg ≤ n1) (hframes : 1 ≤ R.frames) (hlocals : (st.map fun v => v.category).sum + (nativeFrameWords "java/lang/System" "arraycopy" 5 + 11) ≤ R.locals) (d : decode cc pc = .ok (.invokestatic index, 3)) (ws' : va_W) (hw : ws.set q1 (a, .inl (c1, n1, .inr (.inl (va_cpy f g sp.toNatClampNeg dp.toNatClampNeg n.toNatClampNeg)))) = ws') (kk : kW p l e R s m args below meth c D cl A nL cells slots Q (pc + 3) lv st ws') : kW p l e R s m args below meth c D cl A nL cells slots Q pc lv (.int n :: .int dp :: .ref a :: .int sp :: .ref a0 :: st) ws := fun H locs ls hP hD hS hl => va_copyl C.1.1 C.1.2.1 (C.1.2.2.1.trans hl.1.symm) C.1.2.2.2.1 (C.1.2.2.2.2 _ hlink) (C.1.2.2.2.2 _ hnat) (C.1.2.2.2.2 _ hstat) (C.1.2.2.2.2 _ hini) C.2.1 hP hD hS q0 q1 t0 t1 ha0 ha1 ht0 ht1 rfl h1 h2 h3 h4 h5 (fun i _ => rfl) hframes hlocals d (fun H1 locs1 hP1 hD1 hS1 => kk H1 locs1 ls (hw ▸ hP1) (hw ▸ hD1) hS1 hl)
end KP3
end
section
abbrev HS : Type := Int32 × Int32 × Int32 × Int32 × Int32 × (Nat → Int32) × (Nat → Int32) × (Nat → Nat → Int32) × (Nat → Nat → Int32) × (Nat → Int32) × (Nat → Int32) × (Nat → Int32) × (Nat → Int32) × (Nat → Int32) × (Nat → Int32) × (Nat → Int32) × (Nat → Int32) × (Nat → Nat → Int32)
abbrev h_rooms (h : HS) : Int32 := h.1
abbrev h_walls (h : HS) : Int32 := h.2.1
abbrev h_windows (h : HS) : Int32 := h.2.2.1
abbrev h_low (h : HS) : Int32 := h.2.2.2.1
abbrev h_high (h : HS) : Int32 := h.2.2.2.2.1
abbrev h_stores (h : HS) : Nat → Int32 := h.2.2.2.2.2.1
abbrev h_leadsAt (h : HS) : Nat → Int32 := h.2.2.2.2.2.2.1
abbrev h_mosts (h : HS) : Nat → Nat → Int32 := h.2.2.2.2.2.2.2.1
abbrev h_plans (h : HS) : Nat → Nat → Int32 := h.2.2.2.2.2.2.2.2.1
abbrev h_wallFrom (h : HS) : Nat → Int32 := h.2.2.2.2.2.2.2.2.2.1
abbrev h_wallTo (h : HS) : Nat → Int32 := h.2.2.2.2.2.2.2.2.2.2.1
abbrev h_wallLeads (h : HS) : Nat → Int32 := h.2.2.2.2.2.2.2.2.2.2.2.1
abbrev h_windowRoom (h : HS) : Nat → Int32 := h.2.2.2.2.2.2.2.2.2.2.2.2.1
abbrev h_windowSide (h : HS) : Nat → Int32 := h.2.2.2.2.2.2.2.2.2.2.2.2.2.1
abbrev h_windowArea (h : HS) : Nat → Int32 := h.2.2.2.2.2.2.2.2.2.2.2.2.2.2.1
abbrev h_windowLimit (h : HS) : Nat → Int32 := h.2.2.2.2.2.2.2.2.2.2.2.2.2.2.2.1
abbrev h_outsides (h : HS) : Nat → Int32 := h.2.2.2.2.2.2.2.2.2.2.2.2.2.2.2.2.1
abbrev h_suns (h : HS) : Nat → Nat → Int32 := h.2.2.2.2.2.2.2.2.2.2.2.2.2.2.2.2.2
abbrev sh_rooms (h : HS) (x : Int32) : HS := (x, h.2)
abbrev sh_walls (h : HS) (x : Int32) : HS := (h.1, x, h.2.2)
abbrev sh_windows (h : HS) (x : Int32) : HS := (h.1, h.2.1, x, h.2.2.2)
abbrev sh_low (h : HS) (x : Int32) : HS := (h.1, h.2.1, h.2.2.1, x, h.2.2.2.2)
abbrev sh_high (h : HS) (x : Int32) : HS := (h.1, h.2.1, h.2.2.1, h.2.2.2.1, x, h.2.2.2.2.2)
abbrev sh_stores (h : HS) (x : Nat → Int32) : HS := (h.1, h.2.1, h.2.2.1, h.2.2.2.1, h.2.2.2.2.1, x, h.2.2.2.2.2.2)
abbrev sh_leadsAt (h : HS) (x : Nat → Int32) : HS := (h.1, h.2.1, h.2.2.1, h.2.2.2.1, h.2.2.2.2.1, h.2.2.2.2.2.1, x, h.2.2.2.2.2.2.2)
abbrev sh_mosts (h : HS) (x : Nat → Nat → Int32) : HS := (h.1, h.2.1, h.2.2.1, h.2.2.2.1, h.2.2.2.2.1, h.2.2.2.2.2.1, h.2.2.2.2.2.2.1, x, h.2.2.2.2.2.2.2.2)
abbrev sh_plans (h : HS) (x : Nat → Nat → Int32) : HS := (h.1, h.2.1, h.2.2.1, h.2.2.2.1, h.2.2.2.2.1, h.2.2.2.2.2.1, h.2.2.2.2.2.2.1, h.2.2.2.2.2.2.2.1, x, h.2.2.2.2.2.2.2.2.2)
abbrev sh_wallFrom (h : HS) (x : Nat → Int32) : HS := (h.1, h.2.1, h.2.2.1, h.2.2.2.1, h.2.2.2.2.1, h.2.2.2.2.2.1, h.2.2.2.2.2.2.1, h.2.2.2.2.2.2.2.1, h.2.2.2.2.2.2.2.2.1, x, h.2.2.2.2.2.2.2.2.2.2)
abbrev sh_wallTo (h : HS) (x : Nat → Int32) : HS := (h.1, h.2.1, h.2.2.1, h.2.2.2.1, h.2.2.2.2.1, h.2.2.2.2.2.1, h.2.2.2.2.2.2.1, h.2.2.2.2.2.2.2.1, h.2.2.2.2.2.2.2.2.1, h.2.2.2.2.2.2.2.2.2.1, x, h.2.2.2.2.2.2.2.2.2.2.2)
abbrev sh_wallLeads (h : HS) (x : Nat → Int32) : HS := (h.1, h.2.1, h.2.2.1, h.2.2.2.1, h.2.2.2.2.1, h.2.2.2.2.2.1, h.2.2.2.2.2.2.1, h.2.2.2.2.2.2.2.1, h.2.2.2.2.2.2.2.2.1, h.2.2.2.2.2.2.2.2.2.1, h.2.2.2.2.2.2.2.2.2.2.1, x, h.2.2.2.2.2.2.2.2.2.2.2.2)
abbrev sh_windowRoom (h : HS) (x : Nat → Int32) : HS := (h.1, h.2.1, h.2.2.1, h.2.2.2.1, h.2.2.2.2.1, h.2.2.2.2.2.1, h.2.2.2.2.2.2.1, h.2.2.2.2.2.2.2.1, h.2.2.2.2.2.2.2.2.1, h.2.2.2.2.2.2.2.2.2.1, h.2.2.2.2.2.2.2.2.2.2.1, h.2.2.2.2.2.2.2.2.2.2.2.1, x, h.2.2.2.2.2.2.2.2.2.2.2.2.2)
abbrev sh_windowSide (h : HS) (x : Nat → Int32) : HS := (h.1, h.2.1, h.2.2.1, h.2.2.2.1, h.2.2.2.2.1, h.2.2.2.2.2.1, h.2.2.2.2.2.2.1, h.2.2.2.2.2.2.2.1, h.2.2.2.2.2.2.2.2.1, h.2.2.2.2.2.2.2.2.2.1, h.2.2.2.2.2.2.2.2.2.2.1, h.2.2.2.2.2.2.2.2.2.2.2.1, h.2.2.2.2.2.2.2.2.2.2.2.2.1, x, h.2.2.2.2.2.2.2.2.2.2.2.2.2.2)
abbrev sh_windowArea (h : HS) (x : Nat → Int32) : HS := (h.1, h.2.1, h.2.2.1, h.2.2.2.1, h.2.2.2.2.1, h.2.2.2.2.2.1, h.2.2.2.2.2.2.1, h.2.2.2.2.2.2.2.1, h.2.2.2.2.2.2.2.2.1, h.2.2.2.2.2.2.2.2.2.1, h.2.2.2.2.2.2.2.2.2.2.1, h.2.2.2.2.2.2.2.2.2.2.2.1, h.2.2.2.2.2.2.2.2.2.2.2.2.1, h.2.2.2.2.2.2.2.2.2.2.2.2.2.1, x, h.2.2.2.2.2.2.2.2.2.2.2.2.2.2.2)
abbrev sh_windowLimit (h : HS) (x : Nat → Int32) : HS := (h.1, h.2.1, h.2.2.1, h.2.2.2.1, h.2.2.2.2.1, h.2.2.2.2.2.1, h.2.2.2.2.2.2.1, h.2.2.2.2.2.2.2.1, h.2.2.2.2.2.2.2.2.1, h.2.2.2.2.2.2.2.2.2.1, h.2.2.2.2.2.2.2.2.2.2.1, h.2.2.2.2.2.2.2.2.2.2.2.1, h.2.2.2.2.2.2.2.2.2.2.2.2.1, h.2.2.2.2.2.2.2.2.2.2.2.2.2.1, h.2.2.2.2.2.2.2.2.2.2.2.2.2.2.1, x, h.2.2.2.2.2.2.2.2.2.2.2.2.2.2.2.2)
abbrev sh_outsides (h : HS) (x : Nat → Int32) : HS := (h.1, h.2.1, h.2.2.1, h.2.2.2.1, h.2.2.2.2.1, h.2.2.2.2.2.1, h.2.2.2.2.2.2.1, h.2.2.2.2.2.2.2.1, h.2.2.2.2.2.2.2.2.1, h.2.2.2.2.2.2.2.2.2.1, h.2.2.2.2.2.2.2.2.2.2.1, h.2.2.2.2.2.2.2.2.2.2.2.1, h.2.2.2.2.2.2.2.2.2.2.2.2.1, h.2.2.2.2.2.2.2.2.2.2.2.2.2.1, h.2.2.2.2.2.2.2.2.2.2.2.2.2.2.1, h.2.2.2.2.2.2.2.2.2.2.2.2.2.2.2.1, x, h.2.2.2.2.2.2.2.2.2.2.2.2.2.2.2.2.2)
abbrev sh_suns (h : HS) (x : Nat → Nat → Int32) : HS := (h.1, h.2.1, h.2.2.1, h.2.2.2.1, h.2.2.2.2.1, h.2.2.2.2.2.1, h.2.2.2.2.2.2.1, h.2.2.2.2.2.2.2.1, h.2.2.2.2.2.2.2.2.1, h.2.2.2.2.2.2.2.2.2.1, h.2.2.2.2.2.2.2.2.2.2.1, h.2.2.2.2.2.2.2.2.2.2.2.1, h.2.2.2.2.2.2.2.2.2.2.2.2.1, h.2.2.2.2.2.2.2.2.2.2.2.2.2.1, h.2.2.2.2.2.2.2.2.2.2.2.2.2.2.1, h.2.2.2.2.2.2.2.2.2.2.2.2.2.2.2.1, h.2.2.2.2.2.2.2.2.2.2.2.2.2.2.2.2.1, x)
abbrev CS : Type := Int32 × Int32 × Int32 × Int32 × Int32 × Int32 × Int32 × Int64 × Int64 × Int64 × Int64 × (Nat → Int64) × (Nat → Int64) × (Nat → Int64) × (Nat → Int64) × (Nat → Int64) × (Nat → Int32)
abbrev c_over (c : CS) : Int32 := c.1
abbrev c_setRoom (c : CS) : Int32 := c.2.1
abbrev c_setTried (c : CS) : Int32 := c.2.2.1
abbrev c_setFrom (c : CS) : Int32 := c.2.2.2.1
abbrev c_mostRoom (c : CS) : Int32 := c.2.2.2.2.1
abbrev c_mostTried (c : CS) : Int32 := c.2.2.2.2.2.1
abbrev c_fellShort (c : CS) : Int32 := c.2.2.2.2.2.2.1
abbrev c_begun (c : CS) : Int64 := c.2.2.2.2.2.2.2.1
abbrev c_fromSun (c : CS) : Int64 := c.2.2.2.2.2.2.2.2.1
abbrev c_fromPersons (c : CS) : Int64 := c.2.2.2.2.2.2.2.2.2.1
abbrev c_goneOut (c : CS) : Int64 := c.2.2.2.2.2.2.2.2.2.2.1
abbrev c_heat (c : CS) : Nat → Int64 := c.2.2.2.2.2.2.2.2.2.2.2.1
abbrev c_warmth (c : CS) : Nat → Int64 := c.2.2.2.2.2.2.2.2.2.2.2.2.1
abbrev c_given (c : CS) : Nat → Int64 := c.2.2.2.2.2.2.2.2.2.2.2.2.2.1
abbrev c_taken (c : CS) : Nat → Int64 := c.2.2.2.2.2.2.2.2.2.2.2.2.2.2.1
abbrev c_greatest (c : CS) : Nat → Int64 := c.2.2.2.2.2.2.2.2.2.2.2.2.2.2.2.1
abbrev c_uneasy (c : CS) : Nat → Int32 := c.2.2.2.2.2.2.2.2.2.2.2.2.2.2.2.2
abbrev sc_over (c : CS) (x : Int32) : CS := (x, c.2)
abbrev sc_setRoom (c : CS) (x : Int32) : CS := (c.1, x, c.2.2)
abbrev sc_setTried (c : CS) (x : Int32) : CS := (c.1, c.2.1, x, c.2.2.2)
abbrev sc_setFrom (c : CS) (x : Int32) : CS := (c.1, c.2.1, c.2.2.1, x, c.2.2.2.2)
abbrev sc_mostRoom (c : CS) (x : Int32) : CS := (c.1, c.2.1, c.2.2.1, c.2.2.2.1, x, c.2.2.2.2.2)
abbrev sc_mostTried (c : CS) (x : Int32) : CS := (c.1, c.2.1, c.2.2.1, c.2.2.2.1, c.2.2.2.2.1, x, c.2.2.2.2.2.2)
abbrev sc_fellShort (c : CS) (x : Int32) : CS := (c.1, c.2.1, c.2.2.1, c.2.2.2.1, c.2.2.2.2.1, c.2.2.2.2.2.1, x, c.2.2.2.2.2.2.2)
abbrev sc_begun (c : CS) (x : Int64) : CS := (c.1, c.2.1, c.2.2.1, c.2.2.2.1, c.2.2.2.2.1, c.2.2.2.2.2.1, c.2.2.2.2.2.2.1, x, c.2.2.2.2.2.2.2.2)
abbrev sc_fromSun (c : CS) (x : Int64) : CS := (c.1, c.2.1, c.2.2.1, c.2.2.2.1, c.2.2.2.2.1, c.2.2.2.2.2.1, c.2.2.2.2.2.2.1, c.2.2.2.2.2.2.2.1, x, c.2.2.2.2.2.2.2.2.2)
abbrev sc_fromPersons (c : CS) (x : Int64) : CS := (c.1, c.2.1, c.2.2.1, c.2.2.2.1, c.2.2.2.2.1, c.2.2.2.2.2.1, c.2.2.2.2.2.2.1, c.2.2.2.2.2.2.2.1, c.2.2.2.2.2.2.2.2.1, x, c.2.2.2.2.2.2.2.2.2.2)
abbrev sc_goneOut (c : CS) (x : Int64) : CS := (c.1, c.2.1, c.2.2.1, c.2.2.2.1, c.2.2.2.2.1, c.2.2.2.2.2.1, c.2.2.2.2.2.2.1, c.2.2.2.2.2.2.2.1, c.2.2.2.2.2.2.2.2.1, c.2.2.2.2.2.2.2.2.2.1, x, c.2.2.2.2.2.2.2.2.2.2.2)
abbrev sc_heat (c : CS) (x : Nat → Int64) : CS := (c.1, c.2.1, c.2.2.1, c.2.2.2.1, c.2.2.2.2.1, c.2.2.2.2.2.1, c.2.2.2.2.2.2.1, c.2.2.2.2.2.2.2.1, c.2.2.2.2.2.2.2.2.1, c.2.2.2.2.2.2.2.2.2.1, c.2.2.2.2.2.2.2.2.2.2.1, x, c.2.2.2.2.2.2.2.2.2.2.2.2)
abbrev sc_warmth (c : CS) (x : Nat → Int64) : CS := (c.1, c.2.1, c.2.2.1, c.2.2.2.1, c.2.2.2.2.1, c.2.2.2.2.2.1, c.2.2.2.2.2.2.1, c.2.2.2.2.2.2.2.1, c.2.2.2.2.2.2.2.2.1, c.2.2.2.2.2.2.2.2.2.1, c.2.2.2.2.2.2.2.2.2.2.1, c.2.2.2.2.2.2.2.2.2.2.2.1, x, c.2.2.2.2.2.2.2.2.2.2.2.2.2)
abbrev sc_given (c : CS) (x : Nat → Int64) : CS := (c.1, c.2.1, c.2.2.1, c.2.2.2.1, c.2.2.2.2.1, c.2.2.2.2.2.1, c.2.2.2.2.2.2.1, c.2.2.2.2.2.2.2.1, c.2.2.2.2.2.2.2.2.1, c.2.2.2.2.2.2.2.2.2.1, c.2.2.2.2.2.2.2.2.2.2.1, c.2.2.2.2.2.2.2.2.2.2.2.1, c.2.2.2.2.2.2.2.2.2.2.2.2.1, x, c.2.2.2.2.2.2.2.2.2.2.2.2.2.2)
abbrev sc_taken (c : CS) (x : Nat → Int64) : CS := (c.1, c.2.1, c.2.2.1, c.2.2.2.1, c.2.2.2.2.1, c.2.2.2.2.2.1, c.2.2.2.2.2.2.1, c.2.2.2.2.2.2.2.1, c.2.2.2.2.2.2.2.2.1, c.2.2.2.2.2.2.2.2.2.1, c.2.2.2.2.2.2.2.2.2.2.1, c.2.2.2.2.2.2.2.2.2.2.2.1, c.2.2.2.2.2.2.2.2.2.2.2.2.1, c.2.2.2.2.2.2.2.2.2.2.2.2.2.1, x, c.2.2.2.2.2.2.2.2.2.2.2.2.2.2.2)
abbrev sc_greatest (c : CS) (x : Nat → Int64) : CS := (c.1, c.2.1, c.2.2.1, c.2.2.2.1, c.2.2.2.2.1, c.2.2.2.2.2.1, c.2.2.2.2.2.2.1, c.2.2.2.2.2.2.2.1, c.2.2.2.2.2.2.2.2.1, c.2.2.2.2.2.2.2.2.2.1, c.2.2.2.2.2.2.2.2.2.2.1, c.2.2.2.2.2.2.2.2.2.2.2.1, c.2.2.2.2.2.2.2.2.2.2.2.2.1, c.2.2.2.2.2.2.2.2.2.2.2.2.2.1, c.2.2.2.2.2.2.2.2.2.2.2.2.2.2.1, x, c.2.2.2.2.2.2.2.2.2.2.2.2.2.2.2.2)
abbrev sc_uneasy (c : CS) (x : Nat → Int32) : CS := (c.1, c.2.1, c.2.2.1, c.2.2.2.1, c.2.2.2.2.1, c.2.2.2.2.2.1, c.2.2.2.2.2.2.1, c.2.2.2.2.2.2.2.1, c.2.2.2.2.2.2.2.2.1, c.2.2.2.2.2.2.2.2.2.1, c.2.2.2.2.2.2.2.2.2.2.1, c.2.2.2.2.2.2.2.2.2.2.2.1, c.2.2.2.2.2.2.2.2.2.2.2.2.1, c.2.2.2.2.2.2.2.2.2.2.2.2.2.1, c.2.2.2.2.2.2.2.2.2.2.2.2.2.2.1, c.2.2.2.2.2.2.2.2.2.2.2.2.2.2.2.1, x)
abbrev kty (k : Nat → ClassId) : List (ClassId × FieldType) := [(k 0, .int), (k 1, .long), (k 2, .array .int)]
abbrev wH (k : Nat → ClassId) (ah : Nat → Nat) (ar : Nat → Nat → Nat) (h : HS) : va_W := [(ah 0, .inr (1, [.int (h_rooms h), .ref (ah 1), .ref (ah 2), .ref (ah 3), .ref (ah 4), .int (h_walls h), .ref (ah 5), .ref (ah 6), .ref (ah 7), .int (h_windows h), .ref (ah 8), .ref (ah 9), .ref (ah 10), .ref (ah 11), .ref (ah 12), .ref (ah 13), .int (h_low h), .int (h_high h)])), (ah 1, .inl (k 0, 8, .inl (h_stores h))), (ah 2, .inl (k 0, 8, .inl (h_leadsAt h))), (ah 5, .inl (k 0, 20, .inl (h_wallFrom h))), (ah 6, .inl (k 0, 20, .inl (h_wallTo h))), (ah 7, .inl (k 0, 20, .inl (h_wallLeads h))), (ah 8, .inl (k 0, 12, .inl (h_windowRoom h))), (ah 9, .inl (k 0, 12, .inl (h_windowSide h))), (ah 10, .inl (k 0, 12, .inl (h_windowArea h))), (ah 11, .inl (k 0, 12, .inl (h_windowLimit h))), (ah 12, .inl (k 0, 24, .inl (h_outsides h))), (ah 3, .inl (k 2, 2, .inr (.inr (.inr (.inr (fun i => if i < 2 then some (ar 0 i) else none)))))), (ar 0 0, .inl (k 0, 8, .inl (h_mosts h 0))), (ar 0 1, .inl (k 0, 8, .inl (h_mosts h 1))), (ah 4, .inl (k 2, 3, .inr (.inr (.inr (.inr (fun i => if i < 3 then some (ar 1 i) else none)))))), (ar 1 0, .inl (k 0, 192, .inl (h_plans h 0))), (ar 1 1, .inl (k 0, 192, .inl (h_plans h 1))), (ar 1 2, .inl (k 0, 192, .inl (h_plans h 2))), (ah 13, .inl (k 2, 4, .inr (.inr (.inr (.inr (fun i => if i < 4 then some (ar 2 i) else none)))))), (ar 2 0, .inl (k 0, 24, .inl (h_suns h 0))), (ar 2 1, .inl (k 0, 24, .inl (h_suns h 1))), (ar 2 2, .inl (k 0, 24, .inl (h_suns h 2))), (ar 2 3, .inl (k 0, 24, .inl (h_suns h 3)))]
theorem ad_wH {k : Nat → ClassId} {ah : Nat → Nat} {ar : Nat → Nat → Nat} {h : HS} : (wH k ah ar h).map (fun q => q.1) = [ah 0, ah 1, ah 2, ah 5, ah 6, ah 7, ah 8, ah 9, ah 10, ah 11, ah 12, ah 3, ar 0 0, ar 0 1, ah 4, ar 1 0, ar 1 1, ar 1 2, ah 13, ar 2 0, ar 2 1, ar 2 2, ar 2 3] := rfl
abbrev wH_h (k : Nat → ClassId) (ah : Nat → Nat) (ar : Nat → Nat → Nat) (xh_rooms : Int32) (xh_walls : Int32) (xh_windows : Int32) (xh_low : Int32) (xh_high : Int32) (xh_stores : Nat → Int32) (xh_leadsAt : Nat → Int32) (xh_mosts : Nat → Nat → Int32) (xh_plans : Nat → Nat → Int32) (xh_wallFrom : Nat → Int32) (xh_wallTo : Nat → Int32) (xh_wallLeads : Nat → Int32) (xh_windowRoom : Nat → Int32) (xh_windowSide : Nat → Int32) (xh_windowArea : Nat → Int32) (xh_windowLimit : Nat → Int32) (xh_outsides : Nat → Int32) (xh_suns : Nat → Nat → Int32) : va_W := [(ah 0, .inr (1, [.int (xh_rooms), .ref (ah 1), .ref (ah 2), .ref (ah 3), .ref (ah 4), .int (xh_walls), .ref (ah 5), .ref (ah 6), .ref (ah 7), .int (xh_windows), .ref (ah 8), .ref (ah 9), .ref (ah 10), .ref (ah 11), .ref (ah 12), .ref (ah 13), .int (xh_low), .int (xh_high)])), (ah 1, .inl (k 0, 8, .inl (xh_stores))), (ah 2, .inl (k 0, 8, .inl (xh_leadsAt))), (ah 5, .inl (k 0, 20, .inl (xh_wallFrom))), (ah 6, .inl (k 0, 20, .inl (xh_wallTo))), (ah 7, .inl (k 0, 20, .inl (xh_wallLeads))), (ah 8, .inl (k 0, 12, .inl (xh_windowRoom))), (ah 9, .inl (k 0, 12, .inl (xh_windowSide))), (ah 10, .inl (k 0, 12, .inl (xh_windowArea))), (ah 11, .inl (k 0, 12, .inl (xh_windowLimit))), (ah 12, .inl (k 0, 24, .inl (xh_outsides))), (ah 3, .inl (k 2, 2, .inr (.inr (.inr (.inr (fun i => if i < 2 then some (ar 0 i) else none)))))), (ar 0 0, .inl (k 0, 8, .inl (xh_mosts 0))), (ar 0 1, .inl (k 0, 8, .inl (xh_mosts 1))), (ah 4, .inl (k 2, 3, .inr (.inr (.inr (.inr (fun i => if i < 3 then some (ar 1 i) else none)))))), (ar 1 0, .inl (k 0, 192, .inl (xh_plans 0))), (ar 1 1, .inl (k 0, 192, .inl (xh_plans 1))), (ar 1 2, .inl (k 0, 192, .inl (xh_plans 2))), (ah 13, .inl (k 2, 4, .inr (.inr (.inr (.inr (fun i => if i < 4 then some (ar 2 i) else none)))))), (ar 2 0, .inl (k 0, 24, .inl (xh_suns 0))), (ar 2 1, .inl (k 0, 24, .inl (xh_suns 1))), (ar 2 2, .inl (k 0, 24, .inl (xh_suns 2))), (ar 2 3, .inl (k 0, 24, .inl (xh_suns 3)))]
theorem ad_wH_h {k : Nat → ClassId} {ah : Nat → Nat} {ar : Nat → Nat → Nat} {xh_rooms : Int32} {xh_walls : Int32} {xh_windows : Int32} {xh_low : Int32} {xh_high : Int32} {xh_stores : Nat → Int32} {xh_leadsAt : Nat → Int32} {xh_mosts : Nat → Nat → Int32} {xh_plans : Nat → Nat → Int32} {xh_wallFrom : Nat → Int32} {xh_wallTo : Nat → Int32} {xh_wallLeads : Nat → Int32} {xh_windowRoom : Nat → Int32} {xh_windowSide : Nat → Int32} {xh_windowArea : Nat → Int32} {xh_windowLimit : Nat → Int32} {xh_outsides : Nat → Int32} {xh_suns : Nat → Nat → Int32} : (wH_h k ah ar xh_rooms xh_walls xh_windows xh_low xh_high xh_stores xh_leadsAt xh_mosts xh_plans xh_wallFrom xh_wallTo xh_wallLeads xh_windowRoom xh_windowSide xh_windowArea xh_windowLimit xh_outsides xh_suns).map (fun q => q.1) = [ah 0, ah 1, ah 2, ah 5, ah 6, ah 7, ah 8, ah 9, ah 10, ah 11, ah 12, ah 3, ar 0 0, ar 0 1, ah 4, ar 1 0, ar 1 1, ar 1 2, ah 13, ar 2 0, ar 2 1, ar 2 2, ar 2 3] := rfl
abbrev wC (k : Nat → ClassId) (ah : Nat → Nat) (ar : Nat → Nat → Nat) (ac : Nat → Nat) (c : CS) (h : HS) : va_W := [(ac 0, .inr (0, [.ref (ah 0), .int (c_over c), .ref (ac 1), .ref (ac 2), .ref (ac 3), .ref (ac 4), .ref (ac 5), .ref (ac 6), .long (c_begun c), .long (c_fromSun c), .long (c_fromPersons c), .long (c_goneOut c), .int (c_setRoom c), .int (c_setTried c), .int (c_setFrom c), .int (c_mostRoom c), .int (c_mostTried c), .int (c_fellShort c)])), (ac 1, .inl (k 1, 8, .inr (.inl (c_heat c)))), (ac 2, .inl (k 1, 8, .inr (.inl (c_warmth c)))), (ac 3, .inl (k 1, 8, .inr (.inl (c_given c)))), (ac 4, .inl (k 1, 8, .inr (.inl (c_taken c)))), (ac 5, .inl (k 1, 8, .inr (.inl (c_greatest c)))), (ac 6, .inl (k 0, 8, .inl (c_uneasy c))), (ah 0, .inr (1, [.int (h_rooms h), .ref (ah 1), .ref (ah 2), .ref (ah 3), .ref (ah 4), .int (h_walls h), .ref (ah 5), .ref (ah 6), .ref (ah 7), .int (h_windows h), .ref (ah 8), .ref (ah 9), .ref (ah 10), .ref (ah 11), .ref (ah 12), .ref (ah 13), .int (h_low h), .int (h_high h)])), (ah 1, .inl (k 0, 8, .inl (h_stores h))), (ah 2, .inl (k 0, 8, .inl (h_leadsAt h))), (ah 5, .inl (k 0, 20, .inl (h_wallFrom h))), (ah 6, .inl (k 0, 20, .inl (h_wallTo h))), (ah 7, .inl (k 0, 20, .inl (h_wallLeads h))), (ah 8, .inl (k 0, 12, .inl (h_windowRoom h))), (ah 9, .inl (k 0, 12, .inl (h_windowSide h))), (ah 10, .inl (k 0, 12, .inl (h_windowArea h))), (ah 11, .inl (k 0, 12, .inl (h_windowLimit h))), (ah 12, .inl (k 0, 24, .inl (h_outsides h))), (ah 3, .inl (k 2, 2, .inr (.inr (.inr (.inr (fun i => if i < 2 then some (ar 0 i) else none)))))), (ar 0 0, .inl (k 0, 8, .inl (h_mosts h 0))), (ar 0 1, .inl (k 0, 8, .inl (h_mosts h 1))), (ah 4, .inl (k 2, 3, .inr (.inr (.inr (.inr (fun i => if i < 3 then some (ar 1 i) else none)))))), (ar 1 0, .inl (k 0, 192, .inl (h_plans h 0))), (ar 1 1, .inl (k 0, 192, .inl (h_plans h 1))), (ar 1 2, .inl (k 0, 192, .inl (h_plans h 2))), (ah 13, .inl (k 2, 4, .inr (.inr (.inr (.inr (fun i => if i < 4 then some (ar 2 i) else none)))))), (ar 2 0, .inl (k 0, 24, .inl (h_suns h 0))), (ar 2 1, .inl (k 0, 24, .inl (h_suns h 1))), (ar 2 2, .inl (k 0, 24, .inl (h_suns h 2))), (ar 2 3, .inl (k 0, 24, .inl (h_suns h 3)))]
theorem ad_wC {k : Nat → ClassId} {ah : Nat → Nat} {ar : Nat → Nat → Nat} {ac : Nat → Nat} {c : CS} {h : HS} : (wC k ah ar ac c h).map (fun q => q.1) = [ac 0, ac 1, ac 2, ac 3, ac 4, ac 5, ac 6, ah 0, ah 1, ah 2, ah 5, ah 6, ah 7, ah 8, ah 9, ah 10, ah 11, ah 12, ah 3, ar 0 0, ar 0 1, ah 4, ar 1 0, ar 1 1, ar 1 2, ah 13, ar 2 0, ar 2 1, ar 2 2, ar 2 3] := rfl
abbrev wC_c (k : Nat → ClassId) (ah : Nat → Nat) (ar : Nat → Nat → Nat) (ac : Nat → Nat) (xc_over : Int32) (xc_setRoom : Int32) (xc_setTried : Int32) (xc_setFrom : Int32) (xc_mostRoom : Int32) (xc_mostTried : Int32) (xc_fellShort : Int32) (xc_begun : Int64) (xc_fromSun : Int64) (xc_fromPersons : Int64) (xc_goneOut : Int64) (xc_heat : Nat → Int64) (xc_warmth : Nat → Int64) (xc_given : Nat → Int64) (xc_taken : Nat → Int64) (xc_greatest : Nat → Int64) (xc_uneasy : Nat → Int32) (h : HS) : va_W := [(ac 0, .inr (0, [.ref (ah 0), .int (xc_over), .ref (ac 1), .ref (ac 2), .ref (ac 3), .ref (ac 4), .ref (ac 5), .ref (ac 6), .long (xc_begun), .long (xc_fromSun), .long (xc_fromPersons), .long (xc_goneOut), .int (xc_setRoom), .int (xc_setTried), .int (xc_setFrom), .int (xc_mostRoom), .int (xc_mostTried), .int (xc_fellShort)])), (ac 1, .inl (k 1, 8, .inr (.inl (xc_heat)))), (ac 2, .inl (k 1, 8, .inr (.inl (xc_warmth)))), (ac 3, .inl (k 1, 8, .inr (.inl (xc_given)))), (ac 4, .inl (k 1, 8, .inr (.inl (xc_taken)))), (ac 5, .inl (k 1, 8, .inr (.inl (xc_greatest)))), (ac 6, .inl (k 0, 8, .inl (xc_uneasy))), (ah 0, .inr (1, [.int (h_rooms h), .ref (ah 1), .ref (ah 2), .ref (ah 3), .ref (ah 4), .int (h_walls h), .ref (ah 5), .ref (ah 6), .ref (ah 7), .int (h_windows h), .ref (ah 8), .ref (ah 9), .ref (ah 10), .ref (ah 11), .ref (ah 12), .ref (ah 13), .int (h_low h), .int (h_high h)])), (ah 1, .inl (k 0, 8, .inl (h_stores h))), (ah 2, .inl (k 0, 8, .inl (h_leadsAt h))), (ah 5, .inl (k 0, 20, .inl (h_wallFrom h))), (ah 6, .inl (k 0, 20, .inl (h_wallTo h))), (ah 7, .inl (k 0, 20, .inl (h_wallLeads h))), (ah 8, .inl (k 0, 12, .inl (h_windowRoom h))), (ah 9, .inl (k 0, 12, .inl (h_windowSide h))), (ah 10, .inl (k 0, 12, .inl (h_windowArea h))), (ah 11, .inl (k 0, 12, .inl (h_windowLimit h))), (ah 12, .inl (k 0, 24, .inl (h_outsides h))), (ah 3, .inl (k 2, 2, .inr (.inr (.inr (.inr (fun i => if i < 2 then some (ar 0 i) else none)))))), (ar 0 0, .inl (k 0, 8, .inl (h_mosts h 0))), (ar 0 1, .inl (k 0, 8, .inl (h_mosts h 1))), (ah 4, .inl (k 2, 3, .inr (.inr (.inr (.inr (fun i => if i < 3 then some (ar 1 i) else none)))))), (ar 1 0, .inl (k 0, 192, .inl (h_plans h 0))), (ar 1 1, .inl (k 0, 192, .inl (h_plans h 1))), (ar 1 2, .inl (k 0, 192, .inl (h_plans h 2))), (ah 13, .inl (k 2, 4, .inr (.inr (.inr (.inr (fun i => if i < 4 then some (ar 2 i) else none)))))), (ar 2 0, .inl (k 0, 24, .inl (h_suns h 0))), (ar 2 1, .inl (k 0, 24, .inl (h_suns h 1))), (ar 2 2, .inl (k 0, 24, .inl (h_suns h 2))), (ar 2 3, .inl (k 0, 24, .inl (h_suns h 3)))]
theorem ad_wC_c {k : Nat → ClassId} {ah : Nat → Nat} {ar : Nat → Nat → Nat} {ac : Nat → Nat} {xc_over : Int32} {xc_setRoom : Int32} {xc_setTried : Int32} {xc_setFrom : Int32} {xc_mostRoom : Int32} {xc_mostTried : Int32} {xc_fellShort : Int32} {xc_begun : Int64} {xc_fromSun : Int64} {xc_fromPersons : Int64} {xc_goneOut : Int64} {xc_heat : Nat → Int64} {xc_warmth : Nat → Int64} {xc_given : Nat → Int64} {xc_taken : Nat → Int64} {xc_greatest : Nat → Int64} {xc_uneasy : Nat → Int32} {h : HS} : (wC_c k ah ar ac xc_over xc_setRoom xc_setTried xc_setFrom xc_mostRoom xc_mostTried xc_fellShort xc_begun xc_fromSun xc_fromPersons xc_goneOut xc_heat xc_warmth xc_given xc_taken xc_greatest xc_uneasy h).map (fun q => q.1) = [ac 0, ac 1, ac 2, ac 3, ac 4, ac 5, ac 6, ah 0, ah 1, ah 2, ah 5, ah 6, ah 7, ah 8, ah 9, ah 10, ah 11, ah 12, ah 3, ar 0 0, ar 0 1, ah 4, ar 1 0, ar 1 1, ar 1 2, ah 13, ar 2 0, ar 2 1, ar 2 2, ar 2 3] := rfl
abbrev wR (k : Nat → ClassId) (ah : Nat → Nat) (ar : Nat → Nat → Nat) (ac ax : Nat → Nat) (a : Nat) (c : CS) (t : CS) (h : HS) : va_W := [(a, .inr (2, [.ref (ah 0), .ref (ac 0), .ref (ax 0)])), (ac 0, .inr (0, [.ref (ah 0), .int (c_over c), .ref (ac 1), .ref (ac 2), .ref (ac 3), .ref (ac 4), .ref (ac 5), .ref (ac 6), .long (c_begun c), .long (c_fromSun c), .long (c_fromPersons c), .long (c_goneOut c), .int (c_setRoom c), .int (c_setTried c), .int (c_setFrom c), .int (c_mostRoom c), .int (c_mostTried c), .int (c_fellShort c)])), (ac 1, .inl (k 1, 8, .inr (.inl (c_heat c)))), (ac 2, .inl (k 1, 8, .inr (.inl (c_warmth c)))), (ac 3, .inl (k 1, 8, .inr (.inl (c_given c)))), (ac 4, .inl (k 1, 8, .inr (.inl (c_taken c)))), (ac 5, .inl (k 1, 8, .inr (.inl (c_greatest c)))), (ac 6, .inl (k 0, 8, .inl (c_uneasy c))), (ah 0, .inr (1, [.int (h_rooms h), .ref (ah 1), .ref (ah 2), .ref (ah 3), .ref (ah 4), .int (h_walls h), .ref (ah 5), .ref (ah 6), .ref (ah 7), .int (h_windows h), .ref (ah 8), .ref (ah 9), .ref (ah 10), .ref (ah 11), .ref (ah 12), .ref (ah 13), .int (h_low h), .int (h_high h)])), (ah 1, .inl (k 0, 8, .inl (h_stores h))), (ah 2, .inl (k 0, 8, .inl (h_leadsAt h))), (ah 5, .inl (k 0, 20, .inl (h_wallFrom h))), (ah 6, .inl (k 0, 20, .inl (h_wallTo h))), (ah 7, .inl (k 0, 20, .inl (h_wallLeads h))), (ah 8, .inl (k 0, 12, .inl (h_windowRoom h))), (ah 9, .inl (k 0, 12, .inl (h_windowSide h))), (ah 10, .inl (k 0, 12, .inl (h_windowArea h))), (ah 11, .inl (k 0, 12, .inl (h_windowLimit h))), (ah 12, .inl (k 0, 24, .inl (h_outsides h))), (ah 3, .inl (k 2, 2, .inr (.inr (.inr (.inr (fun i => if i < 2 then some (ar 0 i) else none)))))), (ar 0 0, .inl (k 0, 8, .inl (h_mosts h 0))), (ar 0 1, .inl (k 0, 8, .inl (h_mosts h 1))), (ah 4, .inl (k 2, 3, .inr (.inr (.inr (.inr (fun i => if i < 3 then some (ar 1 i) else none)))))), (ar 1 0, .inl (k 0, 192, .inl (h_plans h 0))), (ar 1 1, .inl (k 0, 192, .inl (h_plans h 1))), (ar 1 2, .inl (k 0, 192, .inl (h_plans h 2))), (ah 13, .inl (k 2, 4, .inr (.inr (.inr (.inr (fun i => if i < 4 then some (ar 2 i) else none)))))), (ar 2 0, .inl (k 0, 24, .inl (h_suns h 0))), (ar 2 1, .inl (k 0, 24, .inl (h_suns h 1))), (ar 2 2, .inl (k 0, 24, .inl (h_suns h 2))), (ar 2 3, .inl (k 0, 24, .inl (h_suns h 3))), (ax 0, .inr (0, [.ref (ah 0), .int (c_over t), .ref (ax 1), .ref (ax 2), .ref (ax 3), .ref (ax 4), .ref (ax 5), .ref (ax 6), .long (c_begun t), .long (c_fromSun t), .long (c_fromPersons t), .long (c_goneOut t), .int (c_setRoom t), .int (c_setTried t), .int (c_setFrom t), .int (c_mostRoom t), .int (c_mostTried t), .int (c_fellShort t)])), (ax 1, .inl (k 1, 8, .inr (.inl (c_heat t)))), (ax 2, .inl (k 1, 8, .inr (.inl (c_warmth t)))), (ax 3, .inl (k 1, 8, .inr (.inl (c_given t)))), (ax 4, .inl (k 1, 8, .inr (.inl (c_taken t)))), (ax 5, .inl (k 1, 8, .inr (.inl (c_greatest t)))), (ax 6, .inl (k 0, 8, .inl (c_uneasy t)))]
theorem ad_wR {k : Nat → ClassId} {ah : Nat → Nat} {ar : Nat → Nat → Nat} {ac ax : Nat → Nat} {a : Nat} {c : CS} {t : CS} {h : HS} : (wR k ah ar ac ax a c t h).map (fun q => q.1) = [a, ac 0, ac 1, ac 2, ac 3, ac 4, ac 5, ac 6, ah 0, ah 1, ah 2, ah 5, ah 6, ah 7, ah 8, ah 9, ah 10, ah 11, ah 12, ah 3, ar 0 0, ar 0 1, ah 4, ar 1 0, ar 1 1, ar 1 2, ah 13, ar 2 0, ar 2 1, ar 2 2, ar 2 3, ax 0, ax 1, ax 2, ax 3, ax 4, ax 5, ax 6] := rfl
abbrev wR_h (k : Nat → ClassId) (ah : Nat → Nat) (ar : Nat → Nat → Nat) (ac ax : Nat → Nat) (a : Nat) (c : CS) (t : CS) (xh_rooms : Int32) (xh_walls : Int32) (xh_windows : Int32) (xh_low : Int32) (xh_high : Int32) (xh_stores : Nat → Int32) (xh_leadsAt : Nat → Int32) (xh_mosts : Nat → Nat → Int32) (xh_plans : Nat → Nat → Int32) (xh_wallFrom : Nat → Int32) (xh_wallTo : Nat → Int32) (xh_wallLeads : Nat → Int32) (xh_windowRoom : Nat → Int32) (xh_windowSide : Nat → Int32) (xh_windowArea : Nat → Int32) (xh_windowLimit : Nat → Int32) (xh_outsides : Nat → Int32) (xh_suns : Nat → Nat → Int32) : va_W := [(a, .inr (2, [.ref (ah 0), .ref (ac 0), .ref (ax 0)])), (ac 0, .inr (0, [.ref (ah 0), .int (c_over c), .ref (ac 1), .ref (ac 2), .ref (ac 3), .ref (ac 4), .ref (ac 5), .ref (ac 6), .long (c_begun c), .long (c_fromSun c), .long (c_fromPersons c), .long (c_goneOut c), .int (c_setRoom c), .int (c_setTried c), .int (c_setFrom c), .int (c_mostRoom c), .int (c_mostTried c), .int (c_fellShort c)])), (ac 1, .inl (k 1, 8, .inr (.inl (c_heat c)))), (ac 2, .inl (k 1, 8, .inr (.inl (c_warmth c)))), (ac 3, .inl (k 1, 8, .inr (.inl (c_given c)))), (ac 4, .inl (k 1, 8, .inr (.inl (c_taken c)))), (ac 5, .inl (k 1, 8, .inr (.inl (c_greatest c)))), (ac 6, .inl (k 0, 8, .inl (c_uneasy c))), (ah 0, .inr (1, [.int (xh_rooms), .ref (ah 1), .ref (ah 2), .ref (ah 3), .ref (ah 4), .int (xh_walls), .ref (ah 5), .ref (ah 6), .ref (ah 7), .int (xh_windows), .ref (ah 8), .ref (ah 9), .ref (ah 10), .ref (ah 11), .ref (ah 12), .ref (ah 13), .int (xh_low), .int (xh_high)])), (ah 1, .inl (k 0, 8, .inl (xh_stores))), (ah 2, .inl (k 0, 8, .inl (xh_leadsAt))), (ah 5, .inl (k 0, 20, .inl (xh_wallFrom))), (ah 6, .inl (k 0, 20, .inl (xh_wallTo))), (ah 7, .inl (k 0, 20, .inl (xh_wallLeads))), (ah 8, .inl (k 0, 12, .inl (xh_windowRoom))), (ah 9, .inl (k 0, 12, .inl (xh_windowSide))), (ah 10, .inl (k 0, 12, .inl (xh_windowArea))), (ah 11, .inl (k 0, 12, .inl (xh_windowLimit))), (ah 12, .inl (k 0, 24, .inl (xh_outsides))), (ah 3, .inl (k 2, 2, .inr (.inr (.inr (.inr (fun i => if i < 2 then some (ar 0 i) else none)))))), (ar 0 0, .inl (k 0, 8, .inl (xh_mosts 0))), (ar 0 1, .inl (k 0, 8, .inl (xh_mosts 1))), (ah 4, .inl (k 2, 3, .inr (.inr (.inr (.inr (fun i => if i < 3 then some (ar 1 i) else none)))))), (ar 1 0, .inl (k 0, 192, .inl (xh_plans 0))), (ar 1 1, .inl (k 0, 192, .inl (xh_plans 1))), (ar 1 2, .inl (k 0, 192, .inl (xh_plans 2))), (ah 13, .inl (k 2, 4, .inr (.inr (.inr (.inr (fun i => if i < 4 then some (ar 2 i) else none)))))), (ar 2 0, .inl (k 0, 24, .inl (xh_suns 0))), (ar 2 1, .inl (k 0, 24, .inl (xh_suns 1))), (ar 2 2, .inl (k 0, 24, .inl (xh_suns 2))), (ar 2 3, .inl (k 0, 24, .inl (xh_suns 3))), (ax 0, .inr (0, [.ref (ah 0), .int (c_over t), .ref (ax 1), .ref (ax 2), .ref (ax 3), .ref (ax 4), .ref (ax 5), .ref (ax 6), .long (c_begun t), .long (c_fromSun t), .long (c_fromPersons t), .long (c_goneOut t), .int (c_setRoom t), .int (c_setTried t), .int (c_setFrom t), .int (c_mostRoom t), .int (c_mostTried t), .int (c_fellShort t)])), (ax 1, .inl (k 1, 8, .inr (.inl (c_heat t)))), (ax 2, .inl (k 1, 8, .inr (.inl (c_warmth t)))), (ax 3, .inl (k 1, 8, .inr (.inl (c_given t)))), (ax 4, .inl (k 1, 8, .inr (.inl (c_taken t)))), (ax 5, .inl (k 1, 8, .inr (.inl (c_greatest t)))), (ax 6, .inl (k 0, 8, .inl (c_uneasy t)))]
theorem ad_wR_h {k : Nat → ClassId} {ah : Nat → Nat} {ar : Nat → Nat → Nat} {ac ax : Nat → Nat} {a : Nat} {c : CS} {t : CS} {xh_rooms : Int32} {xh_walls : Int32} {xh_windows : Int32} {xh_low : Int32} {xh_high : Int32} {xh_stores : Nat → Int32} {xh_leadsAt : Nat → Int32} {xh_mosts : Nat → Nat → Int32} {xh_plans : Nat → Nat → Int32} {xh_wallFrom : Nat → Int32} {xh_wallTo : Nat → Int32} {xh_wallLeads : Nat → Int32} {xh_windowRoom : Nat → Int32} {xh_windowSide : Nat → Int32} {xh_windowArea : Nat → Int32} {xh_windowLimit : Nat → Int32} {xh_outsides : Nat → Int32} {xh_suns : Nat → Nat → Int32} : (wR_h k ah ar ac ax a c t xh_rooms xh_walls xh_windows xh_low xh_high xh_stores xh_leadsAt xh_mosts xh_plans xh_wallFrom xh_wallTo xh_wallLeads xh_windowRoom xh_windowSide xh_windowArea xh_windowLimit xh_outsides xh_suns).map (fun q => q.1) = [a, ac 0, ac 1, ac 2, ac 3, ac 4, ac 5, ac 6, ah 0, ah 1, ah 2, ah 5, ah 6, ah 7, ah 8, ah 9, ah 10, ah 11, ah 12, ah 3, ar 0 0, ar 0 1, ah 4, ar 1 0, ar 1 1, ar 1 2, ah 13, ar 2 0, ar 2 1, ar 2 2, ar 2 3, ax 0, ax 1, ax 2, ax 3, ax 4, ax 5, ax 6] := rfl
abbrev wR_t (k : Nat → ClassId) (ah : Nat → Nat) (ar : Nat → Nat → Nat) (ac ax : Nat → Nat) (a : Nat) (c : CS) (xc_over : Int32) (xc_setRoom : Int32) (xc_setTried : Int32) (xc_setFrom : Int32) (xc_mostRoom : Int32) (xc_mostTried : Int32) (xc_fellShort : Int32) (xc_begun : Int64) (xc_fromSun : Int64) (xc_fromPersons : Int64) (xc_goneOut : Int64) (xc_heat : Nat → Int64) (xc_warmth : Nat → Int64) (xc_given : Nat → Int64) (xc_taken : Nat → Int64) (xc_greatest : Nat → Int64) (xc_uneasy : Nat → Int32) (h : HS) : va_W := [(a, .inr (2, [.ref (ah 0), .ref (ac 0), .ref (ax 0)])), (ac 0, .inr (0, [.ref (ah 0), .int (c_over c), .ref (ac 1), .ref (ac 2), .ref (ac 3), .ref (ac 4), .ref (ac 5), .ref (ac 6), .long (c_begun c), .long (c_fromSun c), .long (c_fromPersons c), .long (c_goneOut c), .int (c_setRoom c), .int (c_setTried c), .int (c_setFrom c), .int (c_mostRoom c), .int (c_mostTried c), .int (c_fellShort c)])), (ac 1, .inl (k 1, 8, .inr (.inl (c_heat c)))), (ac 2, .inl (k 1, 8, .inr (.inl (c_warmth c)))), (ac 3, .inl (k 1, 8, .inr (.inl (c_given c)))), (ac 4, .inl (k 1, 8, .inr (.inl (c_taken c)))), (ac 5, .inl (k 1, 8, .inr (.inl (c_greatest c)))), (ac 6, .inl (k 0, 8, .inl (c_uneasy c))), (ah 0, .inr (1, [.int (h_rooms h), .ref (ah 1), .ref (ah 2), .ref (ah 3), .ref (ah 4), .int (h_walls h), .ref (ah 5), .ref (ah 6), .ref (ah 7), .int (h_windows h), .ref (ah 8), .ref (ah 9), .ref (ah 10), .ref (ah 11), .ref (ah 12), .ref (ah 13), .int (h_low h), .int (h_high h)])), (ah 1, .inl (k 0, 8, .inl (h_stores h))), (ah 2, .inl (k 0, 8, .inl (h_leadsAt h))), (ah 5, .inl (k 0, 20, .inl (h_wallFrom h))), (ah 6, .inl (k 0, 20, .inl (h_wallTo h))), (ah 7, .inl (k 0, 20, .inl (h_wallLeads h))), (ah 8, .inl (k 0, 12, .inl (h_windowRoom h))), (ah 9, .inl (k 0, 12, .inl (h_windowSide h))), (ah 10, .inl (k 0, 12, .inl (h_windowArea h))), (ah 11, .inl (k 0, 12, .inl (h_windowLimit h))), (ah 12, .inl (k 0, 24, .inl (h_outsides h))), (ah 3, .inl (k 2, 2, .inr (.inr (.inr (.inr (fun i => if i < 2 then some (ar 0 i) else none)))))), (ar 0 0, .inl (k 0, 8, .inl (h_mosts h 0))), (ar 0 1, .inl (k 0, 8, .inl (h_mosts h 1))), (ah 4, .inl (k 2, 3, .inr (.inr (.inr (.inr (fun i => if i < 3 then some (ar 1 i) else none)))))), (ar 1 0, .inl (k 0, 192, .inl (h_plans h 0))), (ar 1 1, .inl (k 0, 192, .inl (h_plans h 1))), (ar 1 2, .inl (k 0, 192, .inl (h_plans h 2))), (ah 13, .inl (k 2, 4, .inr (.inr (.inr (.inr (fun i => if i < 4 then some (ar 2 i) else none)))))), (ar 2 0, .inl (k 0, 24, .inl (h_suns h 0))), (ar 2 1, .inl (k 0, 24, .inl (h_suns h 1))), (ar 2 2, .inl (k 0, 24, .inl (h_suns h 2))), (ar 2 3, .inl (k 0, 24, .inl (h_suns h 3))), (ax 0, .inr (0, [.ref (ah 0), .int (xc_over), .ref (ax 1), .ref (ax 2), .ref (ax 3), .ref (ax 4), .ref (ax 5), .ref (ax 6), .long (xc_begun), .long (xc_fromSun), .long (xc_fromPersons), .long (xc_goneOut), .int (xc_setRoom), .int (xc_setTried), .int (xc_setFrom), .int (xc_mostRoom), .int (xc_mostTried), .int (xc_fellShort)])), (ax 1, .inl (k 1, 8, .inr (.inl (xc_heat)))), (ax 2, .inl (k 1, 8, .inr (.inl (xc_warmth)))), (ax 3, .inl (k 1, 8, .inr (.inl (xc_given)))), (ax 4, .inl (k 1, 8, .inr (.inl (xc_taken)))), (ax 5, .inl (k 1, 8, .inr (.inl (xc_greatest)))), (ax 6, .inl (k 0, 8, .inl (xc_uneasy)))]
theorem ad_wR_t {k : Nat → ClassId} {ah : Nat → Nat} {ar : Nat → Nat → Nat} {ac ax : Nat → Nat} {a : Nat} {c : CS} {xc_over : Int32} {xc_setRoom : Int32} {xc_setTried : Int32} {xc_setFrom : Int32} {xc_mostRoom : Int32} {xc_mostTried : Int32} {xc_fellShort : Int32} {xc_begun : Int64} {xc_fromSun : Int64} {xc_fromPersons : Int64} {xc_goneOut : Int64} {xc_heat : Nat → Int64} {xc_warmth : Nat → Int64} {xc_given : Nat → Int64} {xc_taken : Nat → Int64} {xc_greatest : Nat → Int64} {xc_uneasy : Nat → Int32} {h : HS} : (wR_t k ah ar ac ax a c xc_over xc_setRoom xc_setTried xc_setFrom xc_mostRoom xc_mostTried xc_fellShort xc_begun xc_fromSun xc_fromPersons xc_goneOut xc_heat xc_warmth xc_given xc_taken xc_greatest xc_uneasy h).map (fun q => q.1) = [a, ac 0, ac 1, ac 2, ac 3, ac 4, ac 5, ac 6, ah 0, ah 1, ah 2, ah 5, ah 6, ah 7, ah 8, ah 9, ah 10, ah 11, ah 12, ah 3, ar 0 0, ar 0 1, ah 4, ar 1 0, ar 1 1, ar 1 2, ah 13, ar 2 0, ar 2 1, ar 2 2, ar 2 3, ax 0, ax 1, ax 2, ax 3, ax 4, ax 5, ax 6] := rfl
end
section
theorem kdR_room : yR_room.cls = "RoomHours" ∧ yR_room.cls ≠ "java/lang/invoke/MethodHandle" ∧ yR_room.cls ≠ "java/lang/invoke/VarHandle" ∧ (parseMethodDescriptor yR_room.desc).map (fun d => d.parameters.length) = some 2 := by decide +kernel
theorem kdR_wall : yR_wall.cls = "RoomHours" ∧ yR_wall.cls ≠ "java/lang/invoke/MethodHandle" ∧ yR_wall.cls ≠ "java/lang/invoke/VarHandle" ∧ (parseMethodDescriptor yR_wall.desc).map (fun d => d.parameters.length) = some 3 := by decide +kernel
theorem kdR_leads : yR_leads.cls = "RoomHours" ∧ yR_leads.cls ≠ "java/lang/invoke/MethodHandle" ∧ yR_leads.cls ≠ "java/lang/invoke/VarHandle" ∧ (parseMethodDescriptor yR_leads.desc).map (fun d => d.parameters.length) = some 2 := by decide +kernel
theorem kdR_window : yR_window.cls = "RoomHours" ∧ yR_window.cls ≠ "java/lang/invoke/MethodHandle" ∧ yR_window.cls ≠ "java/lang/invoke/VarHandle" ∧ (parseMethodDescriptor yR_window.desc).map (fun d => d.parameters.length) = some 4 := by decide +kernel
theorem kdR_outside : yR_outside.cls = "RoomHours" ∧ yR_outside.cls ≠ "java/lang/invoke/MethodHandle" ∧ yR_outside.cls ≠ "java/lang/invoke/VarHandle" ∧ (parseMethodDescriptor yR_outside.desc).map (fun d => d.parameters.length) = some 2 := by decide +kernel
theorem kdR_sun : yR_sun.cls = "RoomHours" ∧ yR_sun.cls ≠ "java/lang/invoke/MethodHandle" ∧ yR_sun.cls ≠ "java/lang/invoke/VarHandle" ∧ (parseMethodDescriptor yR_sun.desc).map (fun d => d.parameters.length) = some 3 := by decide +kernel
theorem kdR_plan : yR_plan.cls = "RoomHours" ∧ yR_plan.cls ≠ "java/lang/invoke/MethodHandle" ∧ yR_plan.cls ≠ "java/lang/invoke/VarHandle" ∧ (parseMethodDescriptor yR_plan.desc).map (fun d => d.parameters.length) = some 4 := by decide +kernel
theorem kdR_most : yR_most.cls = "RoomHours" ∧ yR_most.cls ≠ "java/lang/invoke/MethodHandle" ∧ yR_most.cls ≠ "java/lang/invoke/VarHandle" ∧ (parseMethodDescriptor yR_most.desc).map (fun d => d.parameters.length) = some 3 := by decide +kernel
theorem kdR_ease : yR_ease.cls = "RoomHours" ∧ yR_ease.cls ≠ "java/lang/invoke/MethodHandle" ∧ yR_ease.cls ≠ "java/lang/invoke/VarHandle" ∧ (parseMethodDescriptor yR_ease.desc).map (fun d => d.parameters.length) = some 2 := by decide +kernel
theorem kdR_run : yR_run.cls = "RoomHours" ∧ yR_run.cls ≠ "java/lang/invoke/MethodHandle" ∧ yR_run.cls ≠ "java/lang/invoke/VarHandle" ∧ (parseMethodDescriptor yR_run.desc).map (fun d => d.parameters.length) = some 1 := by decide +kernel
theorem kdR_told : yR_told.cls = "RoomHours" ∧ yR_told.cls ≠ "java/lang/invoke/MethodHandle" ∧ yR_told.cls ≠ "java/lang/invoke/VarHandle" ∧ (parseMethodDescriptor yR_told.desc).map (fun d => d.parameters.length) = some 2 := by decide +kernel
theorem kdR_balance : yR_balance.cls = "RoomHours" ∧ yR_balance.cls ≠ "java/lang/invoke/MethodHandle" ∧ yR_balance.cls ≠ "java/lang/invoke/VarHandle" ∧ (parseMethodDescriptor yR_balance.desc).map (fun d => d.parameters.length) = some 1 := by decide +kernel
theorem kdR_early : yR_early.cls = "RoomHours" ∧ yR_early.cls ≠ "java/lang/invoke/MethodHandle" ∧ yR_early.cls ≠ "java/lang/invoke/VarHandle" ∧ (parseMethodDescriptor yR_early.desc).map (fun d => d.parameters.length) = some 3 := by decide +kernel
theorem kdR_strong : yR_strong.cls = "RoomHours" ∧ yR_strong.cls ≠ "java/lang/invoke/MethodHandle" ∧ yR_strong.cls ≠ "java/lang/invoke/VarHandle" ∧ (parseMethodDescriptor yR_strong.desc).map (fun d => d.parameters.length) = some 2 := by decide +kernel
theorem kdR_isWithin : yR_isWithin.cls ≠ "java/lang/invoke/MethodHandle" ∧ yR_isWithin.cls ≠ "java/lang/invoke/VarHandle" ∧ (parseMethodDescriptor yR_isWithin.desc).map (fun d => d.parameters.length) = some 3 := by decide +kernel
theorem kdR_isWarmth : yR_isWarmth.cls ≠ "java/lang/invoke/MethodHandle" ∧ yR_isWarmth.cls ≠ "java/lang/invoke/VarHandle" ∧ (parseMethodDescriptor yR_isWarmth.desc).map (fun d => d.parameters.length) = some 1 := by decide +kernel
theorem kdR_isHour : yR_isHour.cls ≠ "java/lang/invoke/MethodHandle" ∧ yR_isHour.cls ≠ "java/lang/invoke/VarHandle" ∧ (parseMethodDescriptor yR_isHour.desc).map (fun d => d.parameters.length) = some 1 := by decide +kernel
theorem kdR_isSide : yR_isSide.cls ≠ "java/lang/invoke/MethodHandle" ∧ yR_isSide.cls ≠ "java/lang/invoke/VarHandle" ∧ (parseMethodDescriptor yR_isSide.desc).map (fun d => d.parameters.length) = some 1 := by decide +kernel
theorem kdR_isPlan : yR_isPlan.cls ≠ "java/lang/invoke/MethodHandle" ∧ yR_isPlan.cls ≠ "java/lang/invoke/VarHandle" ∧ (parseMethodDescriptor yR_isPlan.desc).map (fun d => d.parameters.length) = some 2 := by decide +kernel
theorem kdM_thrown : yM_thrown.cls = "RoomHoursModel" ∧ yM_thrown.cls ≠ "java/lang/invoke/MethodHandle" ∧ yM_thrown.cls ≠ "java/lang/invoke/VarHandle" ∧ (parseMethodDescriptor yM_thrown.desc).map (fun d => d.parameters.length) = some 0 := by decide +kernel
theorem kdM_in : yM_in.cls ≠ "java/lang/invoke/MethodHandle" ∧ yM_in.cls ≠ "java/lang/invoke/VarHandle" ∧ (parseMethodDescriptor yM_in.desc).map (fun d => d.parameters.length) = some 3 := by decide +kernel
theorem kdM_isWarmth : yM_isWarmth.cls ≠ "java/lang/invoke/MethodHandle" ∧ yM_isWarmth.cls ≠ "java/lang/invoke/VarHandle" ∧ (parseMethodDescriptor yM_isWarmth.desc).map (fun d => d.parameters.length) = some 1 := by decide +kernel
theorem kdM_isRoom : yM_isRoom.cls = "RoomHoursModel" ∧ yM_isRoom.cls ≠ "java/lang/invoke/MethodHandle" ∧ yM_isRoom.cls ≠ "java/lang/invoke/VarHandle" ∧ (parseMethodDescriptor yM_isRoom.desc).map (fun d => d.parameters.length) = some 1 := by decide +kernel
theorem kdM_floor : yM_floor.cls ≠ "java/lang/invoke/MethodHandle" ∧ yM_floor.cls ≠ "java/lang/invoke/VarHandle" ∧ (parseMethodDescriptor yM_floor.desc).map (fun d => d.parameters.length) = some 2 := by decide +kernel
theorem kdM_room : yM_room.cls = "RoomHoursModel" ∧ yM_room.cls ≠ "java/lang/invoke/MethodHandle" ∧ yM_room.cls ≠ "java/lang/invoke/VarHandle" ∧ (parseMethodDescriptor yM_room.desc).map (fun d => d.parameters.length) = some 2 := by decide +kernel
theorem kdM_isTooMuch : yM_isTooMuch.cls = "RoomHoursModel" ∧ yM_isTooMuch.cls ≠ "java/lang/invoke/MethodHandle" ∧ yM_isTooMuch.cls ≠ "java/lang/invoke/VarHandle" ∧ (parseMethodDescriptor yM_isTooMuch.desc).map (fun d => d.parameters.length) = some 2 := by decide +kernel
theorem kdM_wall : yM_wall.cls = "RoomHoursModel" ∧ yM_wall.cls ≠ "java/lang/invoke/MethodHandle" ∧ yM_wall.cls ≠ "java/lang/invoke/VarHandle" ∧ (parseMethodDescriptor yM_wall.desc).map (fun d => d.parameters.length) = some 3 := by decide +kernel
theorem kdM_leads : yM_leads.cls = "RoomHoursModel" ∧ yM_leads.cls ≠ "java/lang/invoke/MethodHandle" ∧ yM_leads.cls ≠ "java/lang/invoke/VarHandle" ∧ (parseMethodDescriptor yM_leads.desc).map (fun d => d.parameters.length) = some 2 := by decide +kernel
theorem kdM_window : yM_window.cls = "RoomHoursModel" ∧ yM_window.cls ≠ "java/lang/invoke/MethodHandle" ∧ yM_window.cls ≠ "java/lang/invoke/VarHandle" ∧ (parseMethodDescriptor yM_window.desc).map (fun d => d.parameters.length) = some 4 := by decide +kernel
theorem kdM_outside : yM_outside.cls = "RoomHoursModel" ∧ yM_outside.cls ≠ "java/lang/invoke/MethodHandle" ∧ yM_outside.cls ≠ "java/lang/invoke/VarHandle" ∧ (parseMethodDescriptor yM_outside.desc).map (fun d => d.parameters.length) = some 2 := by decide +kernel
theorem kdM_sun : yM_sun.cls = "RoomHoursModel" ∧ yM_sun.cls ≠ "java/lang/invoke/MethodHandle" ∧ yM_sun.cls ≠ "java/lang/invoke/VarHandle" ∧ (parseMethodDescriptor yM_sun.desc).map (fun d => d.parameters.length) = some 3 := by decide +kernel
theorem kdM_plan : yM_plan.cls = "RoomHoursModel" ∧ yM_plan.cls ≠ "java/lang/invoke/MethodHandle" ∧ yM_plan.cls ≠ "java/lang/invoke/VarHandle" ∧ (parseMethodDescriptor yM_plan.desc).map (fun d => d.parameters.length) = some 4 := by decide +kernel
theorem kdM_most : yM_most.cls = "RoomHoursModel" ∧ yM_most.cls ≠ "java/lang/invoke/MethodHandle" ∧ yM_most.cls ≠ "java/lang/invoke/VarHandle" ∧ (parseMethodDescriptor yM_most.desc).map (fun d => d.parameters.length) = some 3 := by decide +kernel
theorem kdM_ease : yM_ease.cls = "RoomHoursModel" ∧ yM_ease.cls ≠ "java/lang/invoke/MethodHandle" ∧ yM_ease.cls ≠ "java/lang/invoke/VarHandle" ∧ (parseMethodDescriptor yM_ease.desc).map (fun d => d.parameters.length) = some 2 := by decide +kernel
theorem kdM_warmthOf : yM_warmthOf.cls = "RoomHoursModel" ∧ yM_warmthOf.cls ≠ "java/lang/invoke/MethodHandle" ∧ yM_warmthOf.cls ≠ "java/lang/invoke/VarHandle" ∧ (parseMethodDescriptor yM_warmthOf.desc).map (fun d => d.parameters.length) = some 1 := by decide +kernel
theorem kdM_flows : yM_flows.cls = "RoomHoursModel" ∧ yM_flows.cls ≠ "java/lang/invoke/MethodHandle" ∧ yM_flows.cls ≠ "java/lang/invoke/VarHandle" ∧ (parseMethodDescriptor yM_flows.desc).map (fun d => d.parameters.length) = some 1 := by decide +kernel
theorem kdM_step : yM_step.cls = "RoomHoursModel" ∧ yM_step.cls ≠ "java/lang/invoke/MethodHandle" ∧ yM_step.cls ≠ "java/lang/invoke/VarHandle" ∧ (parseMethodDescriptor yM_step.desc).map (fun d => d.parameters.length) = some 0 := by decide +kernel
theorem kdM_run : yM_run.cls = "RoomHoursModel" ∧ yM_run.cls ≠ "java/lang/invoke/MethodHandle" ∧ yM_run.cls ≠ "java/lang/invoke/VarHandle" ∧ (parseMethodDescriptor yM_run.desc).map (fun d => d.parameters.length) = some 1 := by decide +kernel
theorem kdM_told : yM_told.cls = "RoomHoursModel" ∧ yM_told.cls ≠ "java/lang/invoke/MethodHandle" ∧ yM_told.cls ≠ "java/lang/invoke/VarHandle" ∧ (parseMethodDescriptor yM_told.desc).map (fun d => d.parameters.length) = some 2 := by decide +kernel
theorem kdM_balance : yM_balance.cls = "RoomHoursModel" ∧ yM_balance.cls ≠ "java/lang/invoke/MethodHandle" ∧ yM_balance.cls ≠ "java/lang/invoke/VarHandle" ∧ (parseMethodDescriptor yM_balance.desc).map (fun d => d.parameters.length) = some 1 := by decide +kernel
theorem kdM_keep : yM_keep.cls = "RoomHoursModel" ∧ yM_keep.cls ≠ "java/lang/invoke/MethodHandle" ∧ yM_keep.cls ≠ "java/lang/invoke/VarHandle" ∧ (parseMethodDescriptor yM_keep.desc).map (fun d => d.parameters.length) = some 0 := by decide +kernel
theorem kdM_putBack : yM_putBack.cls = "RoomHoursModel" ∧ yM_putBack.cls ≠ "java/lang/invoke/MethodHandle" ∧ yM_putBack.cls ≠ "java/lang/invoke/VarHandle" ∧ (parseMethodDescriptor yM_putBack.desc).map (fun d => d.parameters.length) = some 0 := by decide +kernel
theorem kdM_early : yM_early.cls = "RoomHoursModel" ∧ yM_early.cls ≠ "java/lang/invoke/MethodHandle" ∧ yM_early.cls ≠ "java/lang/invoke/VarHandle" ∧ (parseMethodDescriptor yM_early.desc).map (fun d => d.parameters.length) = some 3 := by decide +kernel
theorem kdM_strong : yM_strong.cls = "RoomHoursModel" ∧ yM_strong.cls ≠ "java/lang/invoke/MethodHandle" ∧ yM_strong.cls ≠ "java/lang/invoke/VarHandle" ∧ (parseMethodDescriptor yM_strong.desc).map (fun d => d.parameters.length) = some 2 := by decide +kernel
theorem kdC_beginRoom : yC_beginRoom.cls = "RoomHours$Course" ∧ yC_beginRoom.cls ≠ "java/lang/invoke/MethodHandle" ∧ yC_beginRoom.cls ≠ "java/lang/invoke/VarHandle" ∧ (parseMethodDescriptor yC_beginRoom.desc).map (fun d => d.parameters.length) = some 2 := by decide +kernel
theorem kdC_copyOf : yC_copyOf.cls = "RoomHours$Course" ∧ yC_copyOf.cls ≠ "java/lang/invoke/MethodHandle" ∧ yC_copyOf.cls ≠ "java/lang/invoke/VarHandle" ∧ (parseMethodDescriptor yC_copyOf.desc).map (fun d => d.parameters.length) = some 1 := by decide +kernel
theorem kdC_trySet : yC_trySet.cls = "RoomHours$Course" ∧ yC_trySet.cls ≠ "java/lang/invoke/MethodHandle" ∧ yC_trySet.cls ≠ "java/lang/invoke/VarHandle" ∧ (parseMethodDescriptor yC_trySet.desc).map (fun d => d.parameters.length) = some 3 := by decide +kernel
theorem kdC_tryMost : yC_tryMost.cls = "RoomHours$Course" ∧ yC_tryMost.cls ≠ "java/lang/invoke/MethodHandle" ∧ yC_tryMost.cls ≠ "java/lang/invoke/VarHandle" ∧ (parseMethodDescriptor yC_tryMost.desc).map (fun d => d.parameters.length) = some 2 := by decide +kernel
theorem kdC_warmthOf : yC_warmthOf.cls = "RoomHours$Course" ∧ yC_warmthOf.cls ≠ "java/lang/invoke/MethodHandle" ∧ yC_warmthOf.cls ≠ "java/lang/invoke/VarHandle" ∧ (parseMethodDescriptor yC_warmthOf.desc).map (fun d => d.parameters.length) = some 1 := by decide +kernel
theorem kdC_sumOf : yC_sumOf.cls = "RoomHours$Course" ∧ yC_sumOf.cls ≠ "java/lang/invoke/MethodHandle" ∧ yC_sumOf.cls ≠ "java/lang/invoke/VarHandle" ∧ (parseMethodDescriptor yC_sumOf.desc).map (fun d => d.parameters.length) = some 1 := by decide +kernel
theorem kdC_nextBeginning : yC_nextBeginning.cls = "RoomHours$Course" ∧ yC_nextBeginning.cls ≠ "java/lang/invoke/MethodHandle" ∧ yC_nextBeginning.cls ≠ "java/lang/invoke/VarHandle" ∧ (parseMethodDescriptor yC_nextBeginning.desc).map (fun d => d.parameters.length) = some 1 := by decide +kernel
theorem kdC_staysUp : yC_staysUp.cls = "RoomHours$Course" ∧ yC_staysUp.cls ≠ "java/lang/invoke/MethodHandle" ∧ yC_staysUp.cls ≠ "java/lang/invoke/VarHandle" ∧ (parseMethodDescriptor yC_staysUp.desc).map (fun d => d.parameters.length) = some 2 := by decide +kernel
theorem kdC_step : yC_step.cls = "RoomHours$Course" ∧ yC_step.cls ≠ "java/lang/invoke/MethodHandle" ∧ yC_step.cls ≠ "java/lang/invoke/VarHandle" ∧ (parseMethodDescriptor yC_step.desc).map (fun d => d.parameters.length) = some 0 := by decide +kernel
theorem kdC_hourOfDay : yC_hourOfDay.cls = "RoomHours$Course" ∧ yC_hourOfDay.cls ≠ "java/lang/invoke/MethodHandle" ∧ yC_hourOfDay.cls ≠ "java/lang/invoke/VarHandle" ∧ (parseMethodDescriptor yC_hourOfDay.desc).map (fun d => d.parameters.length) = some 0 := by decide +kernel
theorem kdC_hourEnds : yC_hourEnds.cls = "RoomHours$Course" ∧ yC_hourEnds.cls ≠ "java/lang/invoke/MethodHandle" ∧ yC_hourEnds.cls ≠ "java/lang/invoke/VarHandle" ∧ (parseMethodDescriptor yC_hourEnds.desc).map (fun d => d.parameters.length) = some 0 := by decide +kernel
theorem kdC_planned : yC_planned.cls = "RoomHours$Course" ∧ yC_planned.cls ≠ "java/lang/invoke/MethodHandle" ∧ yC_planned.cls ≠ "java/lang/invoke/VarHandle" ∧ (parseMethodDescriptor yC_planned.desc).map (fun d => d.parameters.length) = some 3 := by decide +kernel
theorem kdC_hasPersons : yC_hasPersons.cls = "RoomHours$Course" ∧ yC_hasPersons.cls ≠ "java/lang/invoke/MethodHandle" ∧ yC_hasPersons.cls ≠ "java/lang/invoke/VarHandle" ∧ (parseMethodDescriptor yC_hasPersons.desc).map (fun d => d.parameters.length) = some 2 := by decide +kernel
theorem kdC_passWalls : yC_passWalls.cls = "RoomHours$Course" ∧ yC_passWalls.cls ≠ "java/lang/invoke/MethodHandle" ∧ yC_passWalls.cls ≠ "java/lang/invoke/VarHandle" ∧ (parseMethodDescriptor yC_passWalls.desc).map (fun d => d.parameters.length) = some 1 := by decide +kernel
theorem kdC_passWindows : yC_passWindows.cls = "RoomHours$Course" ∧ yC_passWindows.cls ≠ "java/lang/invoke/MethodHandle" ∧ yC_passWindows.cls ≠ "java/lang/invoke/VarHandle" ∧ (parseMethodDescriptor yC_passWindows.desc).map (fun d => d.parameters.length) = some 1 := by decide +kernel
theorem kdC_bringPersons : yC_bringPersons.cls = "RoomHours$Course" ∧ yC_bringPersons.cls ≠ "java/lang/invoke/MethodHandle" ∧ yC_bringPersons.cls ≠ "java/lang/invoke/VarHandle" ∧ (parseMethodDescriptor yC_bringPersons.desc).map (fun d => d.parameters.length) = some 2 := by decide +kernel
theorem kdC_heatUp : yC_heatUp.cls = "RoomHours$Course" ∧ yC_heatUp.cls ≠ "java/lang/invoke/MethodHandle" ∧ yC_heatUp.cls ≠ "java/lang/invoke/VarHandle" ∧ (parseMethodDescriptor yC_heatUp.desc).map (fun d => d.parameters.length) = some 2 := by decide +kernel
theorem kdC_setOf : yC_setOf.cls = "RoomHours$Course" ∧ yC_setOf.cls ≠ "java/lang/invoke/MethodHandle" ∧ yC_setOf.cls ≠ "java/lang/invoke/VarHandle" ∧ (parseMethodDescriptor yC_setOf.desc).map (fun d => d.parameters.length) = some 2 := by decide +kernel
theorem kdC_heatingOf : yC_heatingOf.cls = "RoomHours$Course" ∧ yC_heatingOf.cls ≠ "java/lang/invoke/MethodHandle" ∧ yC_heatingOf.cls ≠ "java/lang/invoke/VarHandle" ∧ (parseMethodDescriptor yC_heatingOf.desc).map (fun d => d.parameters.length) = some 1 := by decide +kernel
theorem kdC_coolDown : yC_coolDown.cls = "RoomHours$Course" ∧ yC_coolDown.cls ≠ "java/lang/invoke/MethodHandle" ∧ yC_coolDown.cls ≠ "java/lang/invoke/VarHandle" ∧ (parseMethodDescriptor yC_coolDown.desc).map (fun d => d.parameters.length) = some 2 := by decide +kernel
theorem kdC_countUneasy : yC_countUneasy.cls = "RoomHours$Course" ∧ yC_countUneasy.cls ≠ "java/lang/invoke/MethodHandle" ∧ yC_countUneasy.cls ≠ "java/lang/invoke/VarHandle" ∧ (parseMethodDescriptor yC_countUneasy.desc).map (fun d => d.parameters.length) = some 1 := by decide +kernel
theorem kdH_hasRoom : yH_hasRoom.cls = "RoomHours$House" ∧ yH_hasRoom.cls ≠ "java/lang/invoke/MethodHandle" ∧ yH_hasRoom.cls ≠ "java/lang/invoke/VarHandle" ∧ (parseMethodDescriptor yH_hasRoom.desc).map (fun d => d.parameters.length) = some 1 := by decide +kernel
theorem kdH_bears : yH_bears.cls = "RoomHours$House" ∧ yH_bears.cls ≠ "java/lang/invoke/MethodHandle" ∧ yH_bears.cls ≠ "java/lang/invoke/VarHandle" ∧ (parseMethodDescriptor yH_bears.desc).map (fun d => d.parameters.length) = some 2 := by decide +kernel
theorem kdH_addRoom : yH_addRoom.cls = "RoomHours$House" ∧ yH_addRoom.cls ≠ "java/lang/invoke/MethodHandle" ∧ yH_addRoom.cls ≠ "java/lang/invoke/VarHandle" ∧ (parseMethodDescriptor yH_addRoom.desc).map (fun d => d.parameters.length) = some 1 := by decide +kernel
theorem kdH_addWall : yH_addWall.cls = "RoomHours$House" ∧ yH_addWall.cls ≠ "java/lang/invoke/MethodHandle" ∧ yH_addWall.cls ≠ "java/lang/invoke/VarHandle" ∧ (parseMethodDescriptor yH_addWall.desc).map (fun d => d.parameters.length) = some 3 := by decide +kernel
theorem kdH_addLeads : yH_addLeads.cls = "RoomHours$House" ∧ yH_addLeads.cls ≠ "java/lang/invoke/MethodHandle" ∧ yH_addLeads.cls ≠ "java/lang/invoke/VarHandle" ∧ (parseMethodDescriptor yH_addLeads.desc).map (fun d => d.parameters.length) = some 2 := by decide +kernel
theorem kdH_addWindow : yH_addWindow.cls = "RoomHours$House" ∧ yH_addWindow.cls ≠ "java/lang/invoke/MethodHandle" ∧ yH_addWindow.cls ≠ "java/lang/invoke/VarHandle" ∧ (parseMethodDescriptor yH_addWindow.desc).map (fun d => d.parameters.length) = some 4 := by decide +kernel
theorem kdJ_floorDiv : yJ_floorDiv.cls ≠ "java/lang/invoke/MethodHandle" ∧ yJ_floorDiv.cls ≠ "java/lang/invoke/VarHandle" ∧ (parseMethodDescriptor yJ_floorDiv.desc).map (fun d => d.parameters.length) = some 2 := by decide +kernel
theorem kdJ_floorMod : yJ_floorMod.cls ≠ "java/lang/invoke/MethodHandle" ∧ yJ_floorMod.cls ≠ "java/lang/invoke/VarHandle" ∧ (parseMethodDescriptor yJ_floorMod.desc).map (fun d => d.parameters.length) = some 2 := by decide +kernel
theorem kdA_fill : yA_fill.cls ≠ "java/lang/invoke/MethodHandle" ∧ yA_fill.cls ≠ "java/lang/invoke/VarHandle" ∧ (parseMethodDescriptor yA_fill.desc).map (fun d => d.parameters.length) = some 2 := by decide +kernel
def rR_isWithin (v : Int32) (least : Int32) (greatest : Int32) : Int32 := if v < least then 0 else (if greatest < v then 0 else 1)
set_option maxRecDepth 100000 in
set_option maxHeartbeats 4000000 in
theorem cR_isWithin (l : Launch) (D : va_G) (k : Nat → ClassId) (v : Int32) (least : Int32) (greatest : Int32) : kMi l yR_isWithin (kwm yR_isWithin bR_isWithin 3 (some .boolean)) ({ frames := 0, cells := 0, slots := 0, locals := 0 }) D kcl (kty k) [] [] [.int v, .int least, .int greatest] (rR_isWithin v least greatest) := by
  refine k_entry_i (lv0 := [(0, .int v), (1, .int least), (2, .int greatest)]) rfl (by decide +kernel) (Nat.le_of_ble_eq_true rfl) rfl ?_
  intro p e s m args below meth c0 C hr hlocks
  refine kw_iload_n C 0 dR_isWithin_0 rfl rfl ?_
  refine kw_iload_n C 1 dR_isWithin_1 rfl rfl ?_
  refine kw_icmp_lt (tgt := 14) C dR_isWithin_2 (by decide) (fun c_1 => ?_) (fun c_1 => ?_)
  · skip
    refine kw_iconst (v := 0) C dR_isWithin_14 (by decide) ?_
    exact kw_zret C hr hlocks (by unfold rR_isWithin; rw [if_pos c_1]) rfl dR_isWithin_15
  · skip
    refine kw_iload_n C 0 dR_isWithin_5 rfl rfl ?_
    refine kw_iload_n C 2 dR_isWithin_6 rfl rfl ?_
    refine kw_icmp_gt (tgt := 14) C dR_isWithin_7 (by decide) (fun c_2 => ?_) (fun c_2 => ?_)
    · skip
      refine kw_iconst (v := 0) C dR_isWithin_14 (by decide) ?_
      exact kw_zret C hr hlocks (by unfold rR_isWithin; rw [if_neg c_1, if_pos c_2]) rfl dR_isWithin_15
    · skip
      refine kw_iconst (v := 1) C dR_isWithin_10 (by decide) ?_
      refine kw_goto (tgt := 15) C dR_isWithin_11 (by decide) ?_
      exact kw_zret C hr hlocks (by unfold rR_isWithin; rw [if_neg c_1, if_neg c_2]) rfl dR_isWithin_15
theorem kzb_R_isWithin {v : Int32} {least : Int32} {greatest : Int32} : narrow .boolean (.int (rR_isWithin v least greatest)) = .int (rR_isWithin v least greatest) := by
  unfold rR_isWithin
  (repeat' split) <;> first | rfl
def rR_isWarmth (v : Int32) : Int32 := (rR_isWithin v (-5000) 5000)
set_option maxRecDepth 100000 in
set_option maxHeartbeats 4000000 in
theorem cR_isWarmth (l : Launch) (D : va_G) (k : Nat → ClassId) (v : Int32) : kMi l yR_isWarmth (kwm yR_isWarmth bR_isWarmth 1 (some .boolean)) ({ frames := 1, cells := 0, slots := 0, locals := 22 }) D kcl (kty k) [] [] [.int v] (rR_isWarmth v) := by
  refine k_entry_i (lv0 := [(0, .int v)]) rfl (by decide +kernel) (Nat.le_of_ble_eq_true rfl) rfl ?_
  intro p e s m args below meth c0 C hr hlocks
  refine kw_iload_n C 0 dR_isWarmth_0 rfl rfl ?_
  refine kw_sipush (v := -5000) C dR_isWarmth_1 (by decide) ?_
  refine kw_sipush (v := 5000) C dR_isWarmth_4 (by decide) ?_
  refine kw_callSi (st := []) C (cR_isWithin l D k v (-5000) 5000) (va_cwS 3 C.1.2.2.2.2 (kgO kt_208 kt_209 kt_1 kt_210) rfl rfl rfl kdR_isWithin ⟨Nat.le_of_ble_eq_true rfl, Nat.le_of_ble_eq_true rfl⟩) [] rfl rfl rfl rfl (Nat.le_of_ble_eq_true rfl) dR_isWarmth_7 ⟨Nat.zero_le _, Nat.zero_le _⟩ rfl [] rfl ?_
  exact kw_zret C hr hlocks rfl (kzb_R_isWithin) dR_isWarmth_10
theorem kzb_R_isWarmth {v : Int32} : narrow .boolean (.int (rR_isWarmth v)) = .int (rR_isWarmth v) := by
  unfold rR_isWarmth
  (repeat' split) <;> first | rfl | apply kzb_R_isWithin
def rR_isHour (v : Int32) : Int32 := (rR_isWithin v 0 23)
set_option maxRecDepth 100000 in
set_option maxHeartbeats 4000000 in
theorem cR_isHour (l : Launch) (D : va_G) (k : Nat → ClassId) (v : Int32) : kMi l yR_isHour (kwm yR_isHour bR_isHour 1 (some .boolean)) ({ frames := 1, cells := 0, slots := 0, locals := 22 }) D kcl (kty k) [] [] [.int v] (rR_isHour v) := by
  refine k_entry_i (lv0 := [(0, .int v)]) rfl (by decide +kernel) (Nat.le_of_ble_eq_true rfl) rfl ?_
  intro p e s m args below meth c0 C hr hlocks
  refine kw_iload_n C 0 dR_isHour_0 rfl rfl ?_
  refine kw_iconst (v := 0) C dR_isHour_1 (by decide) ?_
  refine kw_bipush (v := 23) C dR_isHour_2 (by decide) ?_
  refine kw_callSi (st := []) C (cR_isWithin l D k v 0 23) (va_cwS 3 C.1.2.2.2.2 (kgO kt_208 kt_209 kt_1 kt_210) rfl rfl rfl kdR_isWithin ⟨Nat.le_of_ble_eq_true rfl, Nat.le_of_ble_eq_true rfl⟩) [] rfl rfl rfl rfl (Nat.le_of_ble_eq_true rfl) dR_isHour_4 ⟨Nat.zero_le _, Nat.zero_le _⟩ rfl [] rfl ?_
  exact kw_zret C hr hlocks rfl (kzb_R_isWithin) dR_isHour_7
theorem kzb_R_isHour {v : Int32} : narrow .boolean (.int (rR_isHour v)) = .int (rR_isHour v) := by
  unfold rR_isHour
  (repeat' split) <;> first | rfl | apply kzb_R_isWithin | apply kzb_R_isWarmth
def rR_isSide (v : Int32) : Int32 := (rR_isWithin v 0 3)
set_option maxRecDepth 100000 in
set_option maxHeartbeats 4000000 in
theorem cR_isSide (l : Launch) (D : va_G) (k : Nat → ClassId) (v : Int32) : kMi l yR_isSide (kwm yR_isSide bR_isSide 1 (some .boolean)) ({ frames := 1, cells := 0, slots := 0, locals := 22 }) D kcl (kty k) [] [] [.int v] (rR_isSide v) := by
  refine k_entry_i (lv0 := [(0, .int v)]) rfl (by decide +kernel) (Nat.le_of_ble_eq_true rfl) rfl ?_
  intro p e s m args below meth c0 C hr hlocks
  refine kw_iload_n C 0 dR_isSide_0 rfl rfl ?_
  refine kw_iconst (v := 0) C dR_isSide_1 (by decide) ?_
  refine kw_iconst (v := 3) C dR_isSide_2 (by decide) ?_
  refine kw_callSi (st := []) C (cR_isWithin l D k v 0 3) (va_cwS 3 C.1.2.2.2.2 (kgO kt_208 kt_209 kt_1 kt_210) rfl rfl rfl kdR_isWithin ⟨Nat.le_of_ble_eq_true rfl, Nat.le_of_ble_eq_true rfl⟩) [] rfl rfl rfl rfl (Nat.le_of_ble_eq_true rfl) dR_isSide_3 ⟨Nat.zero_le _, Nat.zero_le _⟩ rfl [] rfl ?_
  exact kw_zret C hr hlocks rfl (kzb_R_isWithin) dR_isSide_6
theorem kzb_R_isSide {v : Int32} : narrow .boolean (.int (rR_isSide v)) = .int (rR_isSide v) := by
  unfold rR_isSide
  (repeat' split) <;> first | rfl | apply kzb_R_isWithin | apply kzb_R_isWarmth | apply kzb_R_isHour
def rR_isPlan (what : Int32) (v : Int32) : Int32 := if what = 0 then (rR_isWithin v 0 100) else (if v = (-1000000) then 1 else (if (rR_isWarmth v) = 0 then 0 else 1))
set_option maxRecDepth 100000 in
set_option maxHeartbeats 4000000 in
theorem cR_isPlan (l : Launch) (D : va_G) (k : Nat → ClassId) (what : Int32) (v : Int32) : kMi l yR_isPlan (kwm yR_isPlan bR_isPlan 2 (some .boolean)) ({ frames := 2, cells := 0, slots := 0, locals := 42 }) D kcl (kty k) [] [] [.int what, .int v] (rR_isPlan what v) := by
  refine k_entry_i (lv0 := [(0, .int what), (1, .int v)]) rfl (by decide +kernel) (Nat.le_of_ble_eq_true rfl) rfl ?_
  intro p e s m args below meth c0 C hr hlocks
  refine kw_iload_n C 0 dR_isPlan_0 rfl rfl ?_
  refine kw_if_ne (tgt := 14) C dR_isPlan_1 (by decide) (fun c_1 => ?_) (fun c_1 => ?_)
  · skip
    refine kw_iload_n C 1 dR_isPlan_14 rfl rfl ?_
    refine kw_ldc (v := -1000000) C kt_389 dR_isPlan_15 ?_
    refine kw_icmp_eq (tgt := 27) C dR_isPlan_17 (by decide) (fun c_2 => ?_) (fun c_2 => ?_)
    · skip
      refine kw_iconst (v := 1) C dR_isPlan_27 (by decide) ?_
      refine kw_goto (tgt := 32) C dR_isPlan_28 (by decide) ?_
      exact kw_zret C hr hlocks (by unfold rR_isPlan; rw [if_neg c_1, if_pos c_2]) rfl dR_isPlan_32
    · skip
      refine kw_iload_n C 1 dR_isPlan_20 rfl rfl ?_
      refine kw_callSi (st := []) C (cR_isWarmth l D k v) (va_cwS 1 C.1.2.2.2.2 (kgO kt_211 kt_212 kt_1 kt_213) rfl rfl rfl kdR_isWarmth ⟨Nat.le_of_ble_eq_true rfl, Nat.le_of_ble_eq_true rfl⟩) [] rfl rfl rfl rfl (Nat.le_of_ble_eq_true rfl) dR_isPlan_21 ⟨Nat.zero_le _, Nat.zero_le _⟩ rfl [] rfl ?_
      refine kw_if_eq (tgt := 31) C dR_isPlan_24 (by decide) (fun c_3 => ?_) (fun c_3 => ?_)
      · skip
        refine kw_iconst (v := 0) C dR_isPlan_31 (by decide) ?_
        exact kw_zret C hr hlocks (by unfold rR_isPlan; rw [if_neg c_1, if_neg c_2, if_pos c_3]) rfl dR_isPlan_32
      · skip
        refine kw_iconst (v := 1) C dR_isPlan_27 (by decide) ?_
        refine kw_goto (tgt := 32) C dR_isPlan_28 (by decide) ?_
        exact kw_zret C hr hlocks (by unfold rR_isPlan; rw [if_neg c_1, if_neg c_2, if_neg c_3]) rfl dR_isPlan_32
  · skip
    refine kw_iload_n C 1 dR_isPlan_4 rfl rfl ?_
    refine kw_iconst (v := 0) C dR_isPlan_5 (by decide) ?_
    refine kw_bipush (v := 100) C dR_isPlan_6 (by decide) ?_
    refine kw_callSi (st := []) C (cR_isWithin l D k v 0 100) (va_cwS 3 C.1.2.2.2.2 (kgO kt_208 kt_209 kt_1 kt_210) rfl rfl rfl kdR_isWithin ⟨Nat.le_of_ble_eq_true rfl, Nat.le_of_ble_eq_true rfl⟩) [] rfl rfl rfl rfl (Nat.le_of_ble_eq_true rfl) dR_isPlan_8 ⟨Nat.zero_le _, Nat.zero_le _⟩ rfl [] rfl ?_
    refine kw_goto (tgt := 32) C dR_isPlan_11 (by decide) ?_
    exact kw_zret C hr hlocks (by unfold rR_isPlan; rw [if_pos c_1]) (kzb_R_isWithin) dR_isPlan_32
theorem kzb_R_isPlan {what : Int32} {v : Int32} : narrow .boolean (.int (rR_isPlan what v)) = .int (rR_isPlan what v) := by
  unfold rR_isPlan
  (repeat' split) <;> first | rfl | apply kzb_R_isWithin | apply kzb_R_isWarmth | apply kzb_R_isHour | apply kzb_R_isSide
def rC_hourOfDay (c : CS) (h : HS) : Int32 := ((c_over c) / 4) - ((c_over c) / 4) / 24 * 24
set_option maxRecDepth 100000 in
set_option maxHeartbeats 4000000 in
theorem cC_hourOfDay (l : Launch) (D : va_G) (k : Nat → ClassId) (ah : Nat → Nat) (ar : Nat → Nat → Nat) (ac : Nat → Nat) (c : CS) (h : HS)  : kMi l yC_hourOfDay (kwm yC_hourOfDay bC_hourOfDay 1 (some .int)) ({ frames := 0, cells := 0, slots := 0, locals := 0 }) D kcl (kty k) (wC k ah ar ac c h) (wC k ah ar ac c h) [.ref (ac 0)] (rC_hourOfDay c h) := by
  refine k_entry_i (lv0 := [(0, .ref (ac 0))]) rfl (by decide +kernel) (Nat.le_of_ble_eq_true rfl) rfl ?_
  intro p e s m args below meth c0 C hr hlocks
  refine kw_aload_n C 0 dC_hourOfDay_0 rfl rfl ?_
  refine kw_get (v := .int (c_over c)) C 0 rfl rfl ku_C 1 (by decide) kt_123 rfl dC_hourOfDay_1 ?_
  refine kw_iconst (v := 4) C dC_hourOfDay_4 (by decide) ?_
  refine kw_idiv C dC_hourOfDay_5 (by decide) ?_
  refine kw_bipush (v := 24) C dC_hourOfDay_6 (by decide) ?_
  refine kw_irem C dC_hourOfDay_8 (by decide) ?_
  exact kw_iret C hr hlocks rfl dC_hourOfDay_9
def rC_hourEnds (c : CS) (h : HS) : Int32 := if ((c_over c) - (c_over c) / 4 * 4) = 0 then 1 else 0
set_option maxRecDepth 100000 in
set_option maxHeartbeats 4000000 in
theorem cC_hourEnds (l : Launch) (D : va_G) (k : Nat → ClassId) (ah : Nat → Nat) (ar : Nat → Nat → Nat) (ac : Nat → Nat) (c : CS) (h : HS)  : kMi l yC_hourEnds (kwm yC_hourEnds bC_hourEnds 1 (some .boolean)) ({ frames := 0, cells := 0, slots := 0, locals := 0 }) D kcl (kty k) (wC k ah ar ac c h) (wC k ah ar ac c h) [.ref (ac 0)] (rC_hourEnds c h) := by
  refine k_entry_i (lv0 := [(0, .ref (ac 0))]) rfl (by decide +kernel) (Nat.le_of_ble_eq_true rfl) rfl ?_
  intro p e s m args below meth c0 C hr hlocks
  refine kw_aload_n C 0 dC_hourEnds_0 rfl rfl ?_
  refine kw_get (v := .int (c_over c)) C 0 rfl rfl ku_C 1 (by decide) kt_123 rfl dC_hourEnds_1 ?_
  refine kw_iconst (v := 4) C dC_hourEnds_4 (by decide) ?_
  refine kw_irem C dC_hourEnds_5 (by decide) ?_
  refine kw_if_ne (tgt := 13) C dC_hourEnds_6 (by decide) (fun c_1 => ?_) (fun c_1 => ?_)
  · skip
    refine kw_iconst (v := 0) C dC_hourEnds_13 (by decide) ?_
    exact kw_zret C hr hlocks (by unfold rC_hourEnds; rw [if_neg c_1]) rfl dC_hourEnds_14
  · skip
    refine kw_iconst (v := 1) C dC_hourEnds_9 (by decide) ?_
    refine kw_goto (tgt := 14) C dC_hourEnds_10 (by decide) ?_
    exact kw_zret C hr hlocks (by unfold rC_hourEnds; rw [if_pos c_1]) rfl dC_hourEnds_14
theorem kzb_C_hourEnds {c : CS} {h : HS} : narrow .boolean (.int (rC_hourEnds c h)) = .int (rC_hourEnds c h) := by
  unfold rC_hourEnds
  (repeat' split) <;> first | rfl | apply kzb_R_isWithin | apply kzb_R_isWarmth | apply kzb_R_isHour | apply kzb_R_isSide | apply kzb_R_isPlan
end
section
theorem kin_lt {i : Int32} {n : Nat} (h : vp_in i n) : i.toNatClampNeg < n := Nat.not_le.mp (fun q => h (Or.inr q))
theorem klc1 {x : Int64} (h : ¬ lg_cmp x 1 < 0) : ¬ x = 0 := by
  intro e
  subst e
  exact h (by decide)
theorem klc1g {x : Int64} (h : 0 ≤ lg_cmp x 1) : ¬ x = 0 := by
  intro e
  subst e
  revert h
  decide
theorem pC_plans (k : Nat → ClassId) (ah : Nat → Nat) (ar : Nat → Nat → Nat) (ac : Nat → Nat) (c : CS) (h : HS) : ∀ j : Nat, j < 3 → (wC k ah ar ac c h)[22 + j]? = some (ar 1 j, .inl (k 0, 192, .inl (h_plans h j)))
  | 0, _ => rfl
  | 1, _ => rfl
  | 2, _ => rfl
  | j + 3, hj => absurd hj (by omega)
def rJ_floorDiv (x : Int64) (y : Int64) : Int64 := if 0 ≤ (lg_cmp (x ^^^ y) 0) then x / y else (if (lg_cmp ((x / y) * y) x) = 0 then x / y else (x / y) - 1)
set_option maxRecDepth 100000 in
set_option maxHeartbeats 4000000 in
theorem cJ_floorDiv (l : Launch) (D : va_G) (k : Nat → ClassId) (x : Int64) (y : Int64) (hy : ¬ y = 0) : kMl l yJ_floorDiv (kwm yJ_floorDiv bJ_floorDiv 6 (some .long)) ({ frames := 0, cells := 0, slots := 0, locals := 0 }) D kcl (kty k) [] [] [.long x, .long y] (rJ_floorDiv x y) := by
  refine k_entry_l (lv0 := [(0, .long x), (2, .long y)]) rfl (by decide +kernel) (Nat.le_of_ble_eq_true rfl) rfl ?_
  intro p e s m args below meth c0 C hr hlocks
  refine kw_lload_n C 0 dJ_floorDiv_0 rfl rfl ?_
  refine kw_lload_n C 1 dJ_floorDiv_1 rfl rfl ?_
  refine kw_ldiv C dJ_floorDiv_2 hy ?_
  refine kw_lstore (lv' := [(4, .long (x / y)), (0, .long x), (2, .long y)]) C dJ_floorDiv_3 (by decide) rfl ?_
  refine kw_lload_n C 1 dJ_floorDiv_5 rfl rfl ?_
  refine kw_lload_n C 2 dJ_floorDiv_6 rfl rfl ?_
  refine kw_lxor C dJ_floorDiv_7 ?_
  refine kw_lconst (v := 0) C dJ_floorDiv_8 (by decide) ?_
  refine kw_lcmp C dJ_floorDiv_9 ?_
  refine kw_if_ge (tgt := 27) C dJ_floorDiv_10 (by decide) (fun c_1 => ?_) (fun c_1 => ?_)
  · skip
    refine kw_lload C 0 dJ_floorDiv_27 rfl ?_
    exact kw_lret C hr hlocks (by unfold rJ_floorDiv; rw [if_pos c_1]) dJ_floorDiv_29
  · skip
    refine kw_lload C 0 dJ_floorDiv_13 rfl ?_
    refine kw_lload_n C 2 dJ_floorDiv_15 rfl rfl ?_
    refine kw_lmul C dJ_floorDiv_16 ?_
    refine kw_lload_n C 1 dJ_floorDiv_17 rfl rfl ?_
    refine kw_lcmp C dJ_floorDiv_18 ?_
    refine kw_if_eq (tgt := 27) C dJ_floorDiv_19 (by decide) (fun c_2 => ?_) (fun c_2 => ?_)
    · skip
      refine kw_lload C 0 dJ_floorDiv_27 rfl ?_
      exact kw_lret C hr hlocks (by unfold rJ_floorDiv; rw [if_neg c_1, if_pos c_2]) dJ_floorDiv_29
    · skip
      refine kw_lload C 0 dJ_floorDiv_22 rfl ?_
      refine kw_lconst (v := 1) C dJ_floorDiv_24 (by decide) ?_
      refine kw_lsub C dJ_floorDiv_25 ?_
      exact kw_lret C hr hlocks (by unfold rJ_floorDiv; rw [if_neg c_1, if_neg c_2]) dJ_floorDiv_26
end
section
def rJ_floorMod (x : Int32) (y : Int32) : Int32 := if 0 ≤ (x ^^^ y) then x - x / y * y else (if (x - x / y * y) = 0 then x - x / y * y else (x - x / y * y) + y)
set_option maxRecDepth 100000 in
set_option maxHeartbeats 4000000 in
theorem cJ_floorMod (l : Launch) (D : va_G) (k : Nat → ClassId) (x : Int32) (y : Int32) (hy : ¬ y = 0) : kMi l yJ_floorMod (kwm yJ_floorMod bJ_floorMod 3 (some .int)) ({ frames := 0, cells := 0, slots := 0, locals := 0 }) D kcl (kty k) [] [] [.int x, .int y] (rJ_floorMod x y) := by
  refine k_entry_i (lv0 := [(0, .int x), (1, .int y)]) rfl (by decide +kernel) (Nat.le_of_ble_eq_true rfl) rfl ?_
  intro p e s m args below meth c0 C hr hlocks
  refine kw_iload_n C 0 dJ_floorMod_0 rfl rfl ?_
  refine kw_iload_n C 1 dJ_floorMod_1 rfl rfl ?_
  refine kw_irem C dJ_floorMod_2 hy ?_
  refine kw_istore_n (lv' := [(2, .int (x - x / y * y)), (0, .int x), (1, .int y)]) C dJ_floorMod_3 rfl (by decide) rfl ?_
  refine kw_iload_n C 1 dJ_floorMod_4 rfl rfl ?_
  refine kw_iload_n C 2 dJ_floorMod_5 rfl rfl ?_
  refine kw_ixor C dJ_floorMod_6 ?_
  refine kw_if_ge (tgt := 18) C dJ_floorMod_7 (by decide) (fun c_1 => ?_) (fun c_1 => ?_)
  · skip
    refine kw_iload_n C 0 dJ_floorMod_18 rfl rfl ?_
    exact kw_iret C hr hlocks (by unfold rJ_floorMod; rw [if_pos c_1]) dJ_floorMod_19
  · skip
    refine kw_iload_n C 0 dJ_floorMod_10 rfl rfl ?_
    refine kw_if_eq (tgt := 18) C dJ_floorMod_11 (by decide) (fun c_2 => ?_) (fun c_2 => ?_)
    · skip
      refine kw_iload_n C 0 dJ_floorMod_18 rfl rfl ?_
      exact kw_iret C hr hlocks (by unfold rJ_floorMod; rw [if_neg c_1, if_pos c_2]) dJ_floorMod_19
    · skip
      refine kw_iload_n C 0 dJ_floorMod_14 rfl rfl ?_
      refine kw_iload_n C 2 dJ_floorMod_15 rfl rfl ?_
      refine kw_iadd C dJ_floorMod_16 ?_
      exact kw_iret C hr hlocks (by unfold rJ_floorMod; rw [if_neg c_1, if_neg c_2]) dJ_floorMod_17
end
section
def rC_planned (c : CS) (h : HS) (what : Int32) (room : Int32) (hour : Int32) : Int32 := ((h_plans h) what.toNatClampNeg) ((room * 24 + hour).toNatClampNeg)
set_option maxRecDepth 100000 in
set_option maxHeartbeats 4000000 in
theorem cC_planned (l : Launch) (D : va_G) (k : Nat → ClassId) (ah : Nat → Nat) (ar : Nat → Nat → Nat) (ac : Nat → Nat) (c : CS) (h : HS) (what : Int32) (room : Int32) (hour : Int32) (hw : vp_in what 3) (hp : vp_in (room * 24 + hour) 192) : kMi l yC_planned (kwm yC_planned bC_planned 4 (some .int)) ({ frames := 0, cells := 0, slots := 0, locals := 0 }) D kcl (kty k) (wC k ah ar ac c h) (wC k ah ar ac c h) [.ref (ac 0), .int what, .int room, .int hour] (rC_planned c h what room hour) := by
  refine k_entry_i (lv0 := [(0, .ref (ac 0)), (1, .int what), (2, .int room), (3, .int hour)]) rfl (by decide +kernel) (Nat.le_of_ble_eq_true rfl) rfl ?_
  intro p e s m args below meth c0 C hr hlocks
  refine kw_aload_n C 0 dC_planned_0 rfl rfl ?_
  refine kw_get (v := .ref (ah 0)) C 0 rfl rfl ku_C 0 (by decide) kt_122 rfl dC_planned_1 ?_
  refine kw_get (v := .ref (ah 4)) C 7 rfl rfl ku_H 4 (by decide) kt_44 rfl dC_planned_4 ?_
  refine kw_iload_n C 1 dC_planned_7 rfl rfl ?_
  refine kw_aldA (b := ar 1 what.toNatClampNeg) C 21 2 rfl rfl (kix_of hw) (if_pos (kin_lt hw)) dC_planned_8 ?_
  refine kw_iload_n C 2 dC_planned_9 rfl rfl ?_
  refine kw_bipush (v := 24) C dC_planned_10 (by decide) ?_
  refine kw_imul C dC_planned_12 ?_
  refine kw_iload_n C 3 dC_planned_13 rfl rfl ?_
  refine kw_iadd C dC_planned_14 ?_
  refine kw_iald C (22 + what.toNatClampNeg) 0 (pC_plans k ah ar ac c h _ (kin_lt hw)) rfl (kix_of hp) dC_planned_15 ?_
  exact kw_iret C hr hlocks rfl dC_planned_16
end
section
def rC_hasPersons (c : CS) (h : HS) (room : Int32) (hour : Int32) : Int32 := if (rC_planned c h 0 room hour) ≤ 0 then 0 else 1
set_option maxRecDepth 100000 in
set_option maxHeartbeats 4000000 in
theorem cC_hasPersons (l : Launch) (D : va_G) (k : Nat → ClassId) (ah : Nat → Nat) (ar : Nat → Nat → Nat) (ac : Nat → Nat) (c : CS) (h : HS) (room : Int32) (hour : Int32) (hp : vp_in (room * 24 + hour) 192) : kMi l yC_hasPersons (kwm yC_hasPersons bC_hasPersons 3 (some .boolean)) ({ frames := 1, cells := 0, slots := 0, locals := 23 }) D kcl (kty k) (wC k ah ar ac c h) (wC k ah ar ac c h) [.ref (ac 0), .int room, .int hour] (rC_hasPersons c h room hour) := by
  refine k_entry_i (lv0 := [(0, .ref (ac 0)), (1, .int room), (2, .int hour)]) rfl (by decide +kernel) (Nat.le_of_ble_eq_true rfl) rfl ?_
  intro p e s m args below meth c0 C hr hlocks
  refine kw_aload_n C 0 dC_hasPersons_0 rfl rfl ?_
  refine kw_iconst (v := 0) C dC_hasPersons_1 (by decide) ?_
  refine kw_iload_n C 1 dC_hasPersons_2 rfl rfl ?_
  refine kw_iload_n C 2 dC_hasPersons_3 rfl rfl ?_
  refine kw_callAi (w1 := (wC k ah ar ac c h)) (st := []) C (cC_planned l D k ah ar ac c h 0 room hour (by unfold vp_in; decide) hp) (cwV 3 C.1.2.2.2.2 (kgV kt_446 kt_448 ks_C_planned kt_4 kt_449) rfl rfl rfl kdC_planned ⟨Nat.le_of_ble_eq_true rfl, Nat.le_of_ble_eq_true rfl⟩) 0 0 rfl rfl rfl rfl rfl (Nat.le_of_ble_eq_true rfl) dC_hasPersons_4 ⟨Nat.zero_le _, Nat.zero_le _⟩ (ad_wC.trans ad_wC.symm) ?_
  refine kw_if_le (tgt := 14) C dC_hasPersons_7 (by decide) (fun c_1 => ?_) (fun c_1 => ?_)
  · skip
    refine kw_iconst (v := 0) C dC_hasPersons_14 (by decide) ?_
    exact kw_zret C hr hlocks (by unfold rC_hasPersons; rw [if_pos c_1]) rfl dC_hasPersons_15
  · skip
    refine kw_iconst (v := 1) C dC_hasPersons_10 (by decide) ?_
    refine kw_goto (tgt := 15) C dC_hasPersons_11 (by decide) ?_
    exact kw_zret C hr hlocks (by unfold rC_hasPersons; rw [if_neg c_1]) rfl dC_hasPersons_15
theorem kzb_C_hasPersons {c : CS} {h : HS} {room : Int32} {hour : Int32} : narrow .boolean (.int (rC_hasPersons c h room hour)) = .int (rC_hasPersons c h room hour) := by
  unfold rC_hasPersons
  (repeat' split) <;> first | rfl | apply kzb_R_isWithin | apply kzb_R_isWarmth | apply kzb_R_isHour | apply kzb_R_isSide | apply kzb_R_isPlan | apply kzb_C_hourEnds
end
section
def rC_setOf (c : CS) (h : HS) (room : Int32) (hour : Int32) : Int32 := if room = (c_setRoom c) then (if (c_over c) < (c_setFrom c) then (rC_planned c h 1 room hour) else (c_setTried c)) else (rC_planned c h 1 room hour)
set_option maxRecDepth 100000 in
set_option maxHeartbeats 4000000 in
theorem cC_setOf (l : Launch) (D : va_G) (k : Nat → ClassId) (ah : Nat → Nat) (ar : Nat → Nat → Nat) (ac : Nat → Nat) (c : CS) (h : HS) (room : Int32) (hour : Int32) (hp : vp_in (room * 24 + hour) 192) : kMi l yC_setOf (kwm yC_setOf bC_setOf 3 (some .int)) ({ frames := 1, cells := 0, slots := 0, locals := 23 }) D kcl (kty k) (wC k ah ar ac c h) (wC k ah ar ac c h) [.ref (ac 0), .int room, .int hour] (rC_setOf c h room hour) := by
  refine k_entry_i (lv0 := [(0, .ref (ac 0)), (1, .int room), (2, .int hour)]) rfl (by decide +kernel) (Nat.le_of_ble_eq_true rfl) rfl ?_
  intro p e s m args below meth c0 C hr hlocks
  refine kw_iload_n C 1 dC_setOf_0 rfl rfl ?_
  refine kw_aload_n C 0 dC_setOf_1 rfl rfl ?_
  refine kw_get (v := .int (c_setRoom c)) C 0 rfl rfl ku_C 12 (by decide) kt_144 rfl dC_setOf_2 ?_
  refine kw_icmp_ne (tgt := 26) C dC_setOf_5 (by decide) (fun c_1 => ?_) (fun c_1 => ?_)
  · skip
    refine kw_aload_n C 0 dC_setOf_26 rfl rfl ?_
    refine kw_iconst (v := 1) C dC_setOf_27 (by decide) ?_
    refine kw_iload_n C 1 dC_setOf_28 rfl rfl ?_
    refine kw_iload_n C 2 dC_setOf_29 rfl rfl ?_
    refine kw_callAi (w1 := (wC k ah ar ac c h)) (st := []) C (cC_planned l D k ah ar ac c h 1 room hour (by unfold vp_in; decide) hp) (cwV 3 C.1.2.2.2.2 (kgV kt_446 kt_448 ks_C_planned kt_4 kt_449) rfl rfl rfl kdC_planned ⟨Nat.le_of_ble_eq_true rfl, Nat.le_of_ble_eq_true rfl⟩) 0 0 rfl rfl rfl rfl rfl (Nat.le_of_ble_eq_true rfl) dC_setOf_30 ⟨Nat.zero_le _, Nat.zero_le _⟩ (ad_wC.trans ad_wC.symm) ?_
    exact kw_iret C hr hlocks (by unfold rC_setOf; rw [if_neg c_1]) dC_setOf_33
  · skip
    refine kw_aload_n C 0 dC_setOf_8 rfl rfl ?_
    refine kw_get (v := .int (c_over c)) C 0 rfl rfl ku_C 1 (by decide) kt_123 rfl dC_setOf_9 ?_
    refine kw_aload_n C 0 dC_setOf_12 rfl rfl ?_
    refine kw_get (v := .int (c_setFrom c)) C 0 rfl rfl ku_C 14 (by decide) kt_146 rfl dC_setOf_13 ?_
    refine kw_icmp_lt (tgt := 26) C dC_setOf_16 (by decide) (fun c_2 => ?_) (fun c_2 => ?_)
    · skip
      refine kw_aload_n C 0 dC_setOf_26 rfl rfl ?_
      refine kw_iconst (v := 1) C dC_setOf_27 (by decide) ?_
      refine kw_iload_n C 1 dC_setOf_28 rfl rfl ?_
      refine kw_iload_n C 2 dC_setOf_29 rfl rfl ?_
      refine kw_callAi (w1 := (wC k ah ar ac c h)) (st := []) C (cC_planned l D k ah ar ac c h 1 room hour (by unfold vp_in; decide) hp) (cwV 3 C.1.2.2.2.2 (kgV kt_446 kt_448 ks_C_planned kt_4 kt_449) rfl rfl rfl kdC_planned ⟨Nat.le_of_ble_eq_true rfl, Nat.le_of_ble_eq_true rfl⟩) 0 0 rfl rfl rfl rfl rfl (Nat.le_of_ble_eq_true rfl) dC_setOf_30 ⟨Nat.zero_le _, Nat.zero_le _⟩ (ad_wC.trans ad_wC.symm) ?_
      exact kw_iret C hr hlocks (by unfold rC_setOf; rw [if_pos c_1, if_pos c_2]) dC_setOf_33
    · skip
      refine kw_aload_n C 0 dC_setOf_19 rfl rfl ?_
      refine kw_get (v := .int (c_setTried c)) C 0 rfl rfl ku_C 13 (by decide) kt_145 rfl dC_setOf_20 ?_
      refine kw_goto (tgt := 33) C dC_setOf_23 (by decide) ?_
      exact kw_iret C hr hlocks (by unfold rC_setOf; rw [if_pos c_1, if_neg c_2]) dC_setOf_33
end
section
def rC_heatingOf (c : CS) (h : HS) (room : Int32) : Int32 := if room = (c_mostRoom c) then (c_mostTried c) else ((h_mosts h) 0) room.toNatClampNeg
set_option maxRecDepth 100000 in
set_option maxHeartbeats 4000000 in
theorem cC_heatingOf (l : Launch) (D : va_G) (k : Nat → ClassId) (ah : Nat → Nat) (ar : Nat → Nat → Nat) (ac : Nat → Nat) (c : CS) (h : HS) (room : Int32) (hr8 : vp_in room 8) : kMi l yC_heatingOf (kwm yC_heatingOf bC_heatingOf 2 (some .int)) ({ frames := 0, cells := 0, slots := 0, locals := 0 }) D kcl (kty k) (wC k ah ar ac c h) (wC k ah ar ac c h) [.ref (ac 0), .int room] (rC_heatingOf c h room) := by
  refine k_entry_i (lv0 := [(0, .ref (ac 0)), (1, .int room)]) rfl (by decide +kernel) (Nat.le_of_ble_eq_true rfl) rfl ?_
  intro p e s m args below meth c0 C hr hlocks
  refine kw_iload_n C 1 dC_heatingOf_0 rfl rfl ?_
  refine kw_aload_n C 0 dC_heatingOf_1 rfl rfl ?_
  refine kw_get (v := .int (c_mostRoom c)) C 0 rfl rfl ku_C 15 (by decide) kt_147 rfl dC_heatingOf_2 ?_
  refine kw_icmp_ne (tgt := 15) C dC_heatingOf_5 (by decide) (fun c_1 => ?_) (fun c_1 => ?_)
  · skip
    refine kw_aload_n C 0 dC_heatingOf_15 rfl rfl ?_
    refine kw_get (v := .ref (ah 0)) C 0 rfl rfl ku_C 0 (by decide) kt_122 rfl dC_heatingOf_16 ?_
    refine kw_get (v := .ref (ah 3)) C 7 rfl rfl ku_H 3 (by decide) kt_41 rfl dC_heatingOf_19 ?_
    refine kw_iconst (v := 0) C dC_heatingOf_22 (by decide) ?_
    refine kw_aldA (b := ar 0 0) C 18 2 rfl rfl ⟨by unfold vp_in; decide, rfl⟩ rfl dC_heatingOf_23 ?_
    refine kw_iload_n C 1 dC_heatingOf_24 rfl rfl ?_
    refine kw_iald C 19 0 rfl rfl (kix_of hr8) dC_heatingOf_25 ?_
    exact kw_iret C hr hlocks (by unfold rC_heatingOf; rw [if_neg c_1]) dC_heatingOf_26
  · skip
    refine kw_aload_n C 0 dC_heatingOf_8 rfl rfl ?_
    refine kw_get (v := .int (c_mostTried c)) C 0 rfl rfl ku_C 16 (by decide) kt_148 rfl dC_heatingOf_9 ?_
    refine kw_goto (tgt := 26) C dC_heatingOf_12 (by decide) ?_
    exact kw_iret C hr hlocks (by unfold rC_heatingOf; rw [if_pos c_1]) dC_heatingOf_26
end
section
def rC_warmthOf (c : CS) (h : HS) (room : Int32) : Int64 := if 0 ≤ (lg_cmp (((h_stores h) room.toNatClampNeg).toInt64) 1) then (rJ_floorDiv ((c_heat c) room.toNatClampNeg) (((h_stores h) room.toNatClampNeg).toInt64)) else 0
set_option maxRecDepth 100000 in
set_option maxHeartbeats 4000000 in
theorem cC_warmthOf (l : Launch) (D : va_G) (k : Nat → ClassId) (ah : Nat → Nat) (ar : Nat → Nat → Nat) (ac : Nat → Nat) (c : CS) (h : HS) (room : Int32) (hr8 : vp_in room 8) : kMl l yC_warmthOf (kwm yC_warmthOf bC_warmthOf 4 (some .long)) ({ frames := 1, cells := 0, slots := 0, locals := 25 }) D kcl (kty k) (wC k ah ar ac c h) (wC k ah ar ac c h) [.ref (ac 0), .int room] (rC_warmthOf c h room) := by
  refine k_entry_l (lv0 := [(0, .ref (ac 0)), (1, .int room)]) rfl (by decide +kernel) (Nat.le_of_ble_eq_true rfl) rfl ?_
  intro p e s m args below meth c0 C hr hlocks
  refine kw_aload_n C 0 dC_warmthOf_0 rfl rfl ?_
  refine kw_get (v := .ref (ah 0)) C 0 rfl rfl ku_C 0 (by decide) kt_122 rfl dC_warmthOf_1 ?_
  refine kw_get (v := .ref (ah 1)) C 7 rfl rfl ku_H 1 (by decide) kt_37 rfl dC_warmthOf_4 ?_
  refine kw_iload_n C 1 dC_warmthOf_7 rfl rfl ?_
  refine kw_iald C 8 0 rfl rfl (kix_of hr8) dC_warmthOf_8 ?_
  refine kw_i2l C dC_warmthOf_9 ?_
  refine kw_lstore_n (lv' := [(2, .long (((h_stores h) room.toNatClampNeg).toInt64)), (0, .ref (ac 0)), (1, .int room)]) C dC_warmthOf_10 rfl (by decide) rfl ?_
  refine kw_lload_n C 0 dC_warmthOf_11 rfl rfl ?_
  refine kw_lconst (v := 1) C dC_warmthOf_12 (by decide) ?_
  refine kw_lcmp C dC_warmthOf_13 ?_
  refine kw_if_ge (tgt := 21) C dC_warmthOf_14 (by decide) (fun c_1 => ?_) (fun c_1 => ?_)
  · skip
    refine kw_aload_n C 1 dC_warmthOf_21 rfl rfl ?_
    refine kw_get (v := .ref (ac 1)) C 0 rfl rfl ku_C 2 (by decide) kt_125 rfl dC_warmthOf_22 ?_
    refine kw_iload_n C 2 dC_warmthOf_25 rfl rfl ?_
    refine kw_lald C 1 1 rfl rfl (kix_of hr8) dC_warmthOf_26 ?_
    refine kw_lload_n C 0 dC_warmthOf_27 rfl rfl ?_
    refine kw_callSl (st := []) C (cJ_floorDiv l D k ((c_heat c) room.toNatClampNeg) (((h_stores h) room.toNatClampNeg).toInt64) (klc1g c_1)) (va_cwS 2 C.1.2.2.2.2 (kgO kt_430 kt_431 kt_11 kt_432) rfl rfl rfl kdJ_floorDiv ⟨Nat.le_of_ble_eq_true rfl, Nat.le_of_ble_eq_true rfl⟩) [] rfl rfl rfl rfl (Nat.le_of_ble_eq_true rfl) dC_warmthOf_28 ⟨Nat.zero_le _, Nat.zero_le _⟩ rfl (wC k ah ar ac c h) rfl ?_
    exact kw_lret C hr hlocks (by unfold rC_warmthOf; rw [if_pos c_1]) dC_warmthOf_31
  · skip
    refine kw_lconst (v := 0) C dC_warmthOf_17 (by decide) ?_
    refine kw_goto (tgt := 31) C dC_warmthOf_18 (by decide) ?_
    exact kw_lret C hr hlocks (by unfold rC_warmthOf; rw [if_neg c_1]) dC_warmthOf_31
end
section
noncomputable def scC_bringPersons (c : CS) (h : HS) (room : Int32) (hour : Int32) : CS := ((c_over c), (c_setRoom c), (c_setTried c), (c_setFrom c), (c_mostRoom c), (c_mostTried c), (c_fellShort c), (c_begun c), (c_fromSun c), ((c_fromPersons c) + (((rC_planned c h 0 room hour) * 100).toInt64)), (c_goneOut c), (vp_updL (c_heat c) room.toNatClampNeg (((c_heat c) room.toNatClampNeg) + (((rC_planned c h 0 room hour) * 100).toInt64))), (c_warmth c), (c_given c), (c_taken c), (c_greatest c), (c_uneasy c))
set_option maxRecDepth 100000 in
set_option maxHeartbeats 4000000 in
theorem cC_bringPersons (l : Launch) (D : va_G) (k : Nat → ClassId) (ah : Nat → Nat) (ar : Nat → Nat → Nat) (ac : Nat → Nat) (c : CS) (h : HS) (room : Int32) (hour : Int32) (hr8 : vp_in room 8) (hp : vp_in (room * 24 + hour) 192) : kMv l yC_bringPersons (kwm yC_bringPersons bC_bringPersons 4 none) ({ frames := 1, cells := 0, slots := 0, locals := 23 }) D kcl (kty k) (wC k ah ar ac c h) (wC k ah ar ac (scC_bringPersons c h room hour) h) [.ref (ac 0), .int room, .int hour] := by
  refine k_entry_v (lv0 := [(0, .ref (ac 0)), (1, .int room), (2, .int hour)]) rfl (by decide +kernel) (Nat.le_of_ble_eq_true rfl) rfl ?_
  intro p e s m args below meth c0 C hr hlocks
  refine kw_aload_n C 0 dC_bringPersons_0 rfl rfl ?_
  refine kw_iconst (v := 0) C dC_bringPersons_1 (by decide) ?_
  refine kw_iload_n C 1 dC_bringPersons_2 rfl rfl ?_
  refine kw_iload_n C 2 dC_bringPersons_3 rfl rfl ?_
  refine kw_callAi (w1 := (wC k ah ar ac c h)) (st := []) C (cC_planned l D k ah ar ac c h 0 room hour (by unfold vp_in; decide) hp) (cwV 3 C.1.2.2.2.2 (kgV kt_446 kt_448 ks_C_planned kt_4 kt_449) rfl rfl rfl kdC_planned ⟨Nat.le_of_ble_eq_true rfl, Nat.le_of_ble_eq_true rfl⟩) 0 0 rfl rfl rfl rfl rfl (Nat.le_of_ble_eq_true rfl) dC_bringPersons_4 ⟨Nat.zero_le _, Nat.zero_le _⟩ (ad_wC.trans ad_wC.symm) ?_
  refine kw_bipush (v := 100) C dC_bringPersons_7 (by decide) ?_
  refine kw_imul C dC_bringPersons_9 ?_
  refine kw_istore_n (lv' := [(3, .int ((rC_planned c h 0 room hour) * 100)), (0, .ref (ac 0)), (1, .int room), (2, .int hour)]) C dC_bringPersons_10 rfl (by decide) rfl ?_
  refine kw_aload_n C 1 dC_bringPersons_11 rfl rfl ?_
  refine kw_get (v := .ref (ac 1)) C 0 rfl rfl ku_C 2 (by decide) kt_125 rfl dC_bringPersons_12 ?_
  refine kw_iload_n C 2 dC_bringPersons_15 rfl rfl ?_
  refine kw_dup2_11 C dC_bringPersons_16 rfl rfl ?_
  refine kw_lald C 1 1 rfl rfl (kix_of hr8) dC_bringPersons_17 ?_
  refine kw_iload_n C 0 dC_bringPersons_18 rfl rfl ?_
  refine kw_i2l C dC_bringPersons_19 ?_
  refine kw_ladd C dC_bringPersons_20 ?_
  refine kw_last C 1 1 rfl rfl (kix_of hr8) dC_bringPersons_21 (wC_c k ah ar ac (c_over c) (c_setRoom c) (c_setTried c) (c_setFrom c) (c_mostRoom c) (c_mostTried c) (c_fellShort c) (c_begun c) (c_fromSun c) (c_fromPersons c) (c_goneOut c) (vp_updL (c_heat c) room.toNatClampNeg (((c_heat c) room.toNatClampNeg) + (((rC_planned c h 0 room hour) * 100).toInt64))) (c_warmth c) (c_given c) (c_taken c) (c_greatest c) (c_uneasy c) h) rfl ?_
  refine kw_aload_n C 1 dC_bringPersons_22 rfl rfl ?_
  refine kw_dup C dC_bringPersons_23 rfl ?_
  refine kw_get (v := .long (c_fromPersons c)) C 0 rfl rfl ku_C 10 (by decide) kt_141 rfl dC_bringPersons_24 ?_
  refine kw_iload_n C 0 dC_bringPersons_27 rfl rfl ?_
  refine kw_i2l C dC_bringPersons_28 ?_
  refine kw_ladd C dC_bringPersons_29 ?_
  refine kw_put C 0 rfl rfl ku_C tC_ok nC 10 (by decide) kt_141 rfl (ty := .long) (by decide +kernel) rfl rfl (Nat.le_of_ble_eq_true rfl) dC_bringPersons_30 (wC_c k ah ar ac (c_over c) (c_setRoom c) (c_setTried c) (c_setFrom c) (c_mostRoom c) (c_mostTried c) (c_fellShort c) (c_begun c) (c_fromSun c) ((c_fromPersons c) + (((rC_planned c h 0 room hour) * 100).toInt64)) (c_goneOut c) (vp_updL (c_heat c) room.toNatClampNeg (((c_heat c) room.toNatClampNeg) + (((rC_planned c h 0 room hour) * 100).toInt64))) (c_warmth c) (c_given c) (c_taken c) (c_greatest c) (c_uneasy c) h) rfl ?_
  refine kw_eq rfl rfl (show (wC_c k ah ar ac (c_over c) (c_setRoom c) (c_setTried c) (c_setFrom c) (c_mostRoom c) (c_mostTried c) (c_fellShort c) (c_begun c) (c_fromSun c) ((c_fromPersons c) + (((rC_planned c h 0 room hour) * 100).toInt64)) (c_goneOut c) (vp_updL (c_heat c) room.toNatClampNeg (((c_heat c) room.toNatClampNeg) + (((rC_planned c h 0 room hour) * 100).toInt64))) (c_warmth c) (c_given c) (c_taken c) (c_greatest c) (c_uneasy c) h) = (wC k ah ar ac (scC_bringPersons c h room hour) h) from by rfl) ?_
  exact kw_vret C hr hlocks dC_bringPersons_33
end
section
noncomputable def scC_heatUp (c : CS) (h : HS) (room : Int32) (hour : Int32) : CS := if (rC_setOf c h room hour) = (-1000000) then c else (if 0 < (lg_cmp (((((h_stores h) room.toNatClampNeg).toInt64) * ((rC_setOf c h room hour).toInt64)) - ((c_heat c) room.toNatClampNeg)) 0) then (if room = (c_mostRoom c) then (if (lg_cmp (((((h_stores h) room.toNatClampNeg).toInt64) * ((rC_setOf c h room hour).toInt64)) - ((c_heat c) room.toNatClampNeg)) ((rC_heatingOf c h room).toInt64)) ≤ 0 then ((c_over c), (c_setRoom c), (c_setTried c), (c_setFrom c), (c_mostRoom c), (c_mostTried c), (c_fellShort c), (c_begun c), (c_fromSun c), (c_fromPersons c), (c_goneOut c), (vp_updL (c_heat c) room.toNatClampNeg (((c_heat c) room.toNatClampNeg) + (if ((rC_heatingOf c h room).toInt64) < (((((h_stores h) room.toNatClampNeg).toInt64) * ((rC_setOf c h room hour).toInt64)) - ((c_heat c) room.toNatClampNeg)) then ((rC_heatingOf c h room).toInt64) else (((((h_stores h) room.toNatClampNeg).toInt64) * ((rC_setOf c h room hour).toInt64)) - ((c_heat c) room.toNatClampNeg))))), (c_warmth c), (vp_updL (c_given c) room.toNatClampNeg (((c_given c) room.toNatClampNeg) + (if ((rC_heatingOf c h room).toInt64) < (((((h_stores h) room.toNatClampNeg).toInt64) * ((rC_setOf c h room hour).toInt64)) - ((c_heat c) room.toNatClampNeg)) then ((rC_heatingOf c h room).toInt64) else (((((h_stores h) room.toNatClampNeg).toInt64) * ((rC_setOf c h room hour).toInt64)) - ((c_heat c) room.toNatClampNeg))))), (c_taken c), (vp_updL (c_greatest c) room.toNatClampNeg (if (if ((rC_heatingOf c h room).toInt64) < (((((h_stores h) room.toNatClampNeg).toInt64) * ((rC_setOf c h room hour).toInt64)) - ((c_heat c) room.toNatClampNeg)) then ((rC_heatingOf c h room).toInt64) else (((((h_stores h) room.toNatClampNeg).toInt64) * ((rC_setOf c h room hour).toInt64)) - ((c_heat c) room.toNatClampNeg))) < ((c_greatest c) room.toNatClampNeg) then ((c_greatest c) room.toNatClampNeg) else (if ((rC_heatingOf c h room).toInt64) < (((((h_stores h) room.toNatClampNeg).toInt64) * ((rC_setOf c h room hour).toInt64)) - ((c_heat c) room.toNatClampNeg)) then ((rC_heatingOf c h room).toInt64) else (((((h_stores h) room.toNatClampNeg).toInt64) * ((rC_setOf c h room hour).toInt64)) - ((c_heat c) room.toNatClampNeg))))), (c_uneasy c)) else ((c_over c), (c_setRoom c), (c_setTried c), (c_setFrom c), (c_mostRoom c), (c_mostTried c), 1, (c_begun c), (c_fromSun c), (c_fromPersons c), (c_goneOut c), (vp_updL (c_heat c) room.toNatClampNeg (((c_heat c) room.toNatClampNeg) + (if ((rC_heatingOf c h room).toInt64) < (((((h_stores h) room.toNatClampNeg).toInt64) * ((rC_setOf c h room hour).toInt64)) - ((c_heat c) room.toNatClampNeg)) then ((rC_heatingOf c h room).toInt64) else (((((h_stores h) room.toNatClampNeg).toInt64) * ((rC_setOf c h room hour).toInt64)) - ((c_heat c) room.toNatClampNeg))))), (c_warmth c), (vp_updL (c_given c) room.toNatClampNeg (((c_given c) room.toNatClampNeg) + (if ((rC_heatingOf c h room).toInt64) < (((((h_stores h) room.toNatClampNeg).toInt64) * ((rC_setOf c h room hour).toInt64)) - ((c_heat c) room.toNatClampNeg)) then ((rC_heatingOf c h room).toInt64) else (((((h_stores h) room.toNatClampNeg).toInt64) * ((rC_setOf c h room hour).toInt64)) - ((c_heat c) room.toNatClampNeg))))), (c_taken c), (vp_updL (c_greatest c) room.toNatClampNeg (if (if ((rC_heatingOf c h room).toInt64) < (((((h_stores h) room.toNatClampNeg).toInt64) * ((rC_setOf c h room hour).toInt64)) - ((c_heat c) room.toNatClampNeg)) then ((rC_heatingOf c h room).toInt64) else (((((h_stores h) room.toNatClampNeg).toInt64) * ((rC_setOf c h room hour).toInt64)) - ((c_heat c) room.toNatClampNeg))) < ((c_greatest c) room.toNatClampNeg) then ((c_greatest c) room.toNatClampNeg) else (if ((rC_heatingOf c h room).toInt64) < (((((h_stores h) room.toNatClampNeg).toInt64) * ((rC_setOf c h room hour).toInt64)) - ((c_heat c) room.toNatClampNeg)) then ((rC_heatingOf c h room).toInt64) else (((((h_stores h) room.toNatClampNeg).toInt64) * ((rC_setOf c h room hour).toInt64)) - ((c_heat c) room.toNatClampNeg))))), (c_uneasy c))) else ((c_over c), (c_setRoom c), (c_setTried c), (c_setFrom c), (c_mostRoom c), (c_mostTried c), (c_fellShort c), (c_begun c), (c_fromSun c), (c_fromPersons c), (c_goneOut c), (vp_updL (c_heat c) room.toNatClampNeg (((c_heat c) room.toNatClampNeg) + (if ((rC_heatingOf c h room).toInt64) < (((((h_stores h) room.toNatClampNeg).toInt64) * ((rC_setOf c h room hour).toInt64)) - ((c_heat c) room.toNatClampNeg)) then ((rC_heatingOf c h room).toInt64) else (((((h_stores h) room.toNatClampNeg).toInt64) * ((rC_setOf c h room hour).toInt64)) - ((c_heat c) room.toNatClampNeg))))), (c_warmth c), (vp_updL (c_given c) room.toNatClampNeg (((c_given c) room.toNatClampNeg) + (if ((rC_heatingOf c h room).toInt64) < (((((h_stores h) room.toNatClampNeg).toInt64) * ((rC_setOf c h room hour).toInt64)) - ((c_heat c) room.toNatClampNeg)) then ((rC_heatingOf c h room).toInt64) else (((((h_stores h) room.toNatClampNeg).toInt64) * ((rC_setOf c h room hour).toInt64)) - ((c_heat c) room.toNatClampNeg))))), (c_taken c), (vp_updL (c_greatest c) room.toNatClampNeg (if (if ((rC_heatingOf c h room).toInt64) < (((((h_stores h) room.toNatClampNeg).toInt64) * ((rC_setOf c h room hour).toInt64)) - ((c_heat c) room.toNatClampNeg)) then ((rC_heatingOf c h room).toInt64) else (((((h_stores h) room.toNatClampNeg).toInt64) * ((rC_setOf c h room hour).toInt64)) - ((c_heat c) room.toNatClampNeg))) < ((c_greatest c) room.toNatClampNeg) then ((c_greatest c) room.toNatClampNeg) else (if ((rC_heatingOf c h room).toInt64) < (((((h_stores h) room.toNatClampNeg).toInt64) * ((rC_setOf c h room hour).toInt64)) - ((c_heat c) room.toNatClampNeg)) then ((rC_heatingOf c h room).toInt64) else (((((h_stores h) room.toNatClampNeg).toInt64) * ((rC_setOf c h room hour).toInt64)) - ((c_heat c) room.toNatClampNeg))))), (c_uneasy c))) else c)
set_option maxRecDepth 100000 in
set_option maxHeartbeats 4000000 in
theorem cC_heatUp (l : Launch) (D : va_G) (k : Nat → ClassId) (ah : Nat → Nat) (ar : Nat → Nat → Nat) (ac : Nat → Nat) (c : CS) (h : HS) (room : Int32) (hour : Int32) (hr8 : vp_in room 8) (hp : vp_in (room * 24 + hour) 192) : kMv l yC_heatUp (kwm yC_heatUp bC_heatUp 10 none) ({ frames := 2, cells := 0, slots := 0, locals := 45 }) D kcl (kty k) (wC k ah ar ac c h) (wC k ah ar ac (scC_heatUp c h room hour) h) [.ref (ac 0), .int room, .int hour] := by
  refine k_entry_v (lv0 := [(0, .ref (ac 0)), (1, .int room), (2, .int hour)]) rfl (by decide +kernel) (Nat.le_of_ble_eq_true rfl) rfl ?_
  intro p e s m args below meth c0 C hr hlocks
  refine kw_aload_n C 0 dC_heatUp_0 rfl rfl ?_
  refine kw_iload_n C 1 dC_heatUp_1 rfl rfl ?_
  refine kw_iload_n C 2 dC_heatUp_2 rfl rfl ?_
  refine kw_callAi (w1 := (wC k ah ar ac c h)) (st := []) C (cC_setOf l D k ah ar ac c h room hour hp) (cwV 2 C.1.2.2.2.2 (kgV kt_454 kt_456 ks_C_setOf kt_4 kt_457) rfl rfl rfl kdC_setOf ⟨Nat.le_of_ble_eq_true rfl, Nat.le_of_ble_eq_true rfl⟩) 0 0 rfl rfl rfl rfl rfl (Nat.le_of_ble_eq_true rfl) dC_heatUp_3 ⟨Nat.zero_le _, Nat.zero_le _⟩ (ad_wC.trans ad_wC.symm) ?_
  refine kw_istore_n (lv' := [(3, .int (rC_setOf c h room hour)), (0, .ref (ac 0)), (1, .int room), (2, .int hour)]) C dC_heatUp_6 rfl (by decide) rfl ?_
  refine kw_iload_n C 0 dC_heatUp_7 rfl rfl ?_
  refine kw_ldc (v := -1000000) C kt_458 dC_heatUp_8 ?_
  refine kw_icmp_ne (tgt := 14) C dC_heatUp_10 (by decide) (fun c_1 => ?_) (fun c_1 => ?_)
  · skip
    refine kw_aload_n C 1 dC_heatUp_14 rfl rfl ?_
    refine kw_get (v := .ref (ah 0)) C 0 rfl rfl ku_C 0 (by decide) kt_122 rfl dC_heatUp_15 ?_
    refine kw_get (v := .ref (ah 1)) C 7 rfl rfl ku_H 1 (by decide) kt_37 rfl dC_heatUp_18 ?_
    refine kw_iload_n C 2 dC_heatUp_21 rfl rfl ?_
    refine kw_iald C 8 0 rfl rfl (kix_of hr8) dC_heatUp_22 ?_
    refine kw_i2l C dC_heatUp_23 ?_
    refine kw_iload_n C 0 dC_heatUp_24 rfl rfl ?_
    refine kw_i2l C dC_heatUp_25 ?_
    refine kw_lmul C dC_heatUp_26 ?_
    refine kw_aload_n C 1 dC_heatUp_27 rfl rfl ?_
    refine kw_get (v := .ref (ac 1)) C 0 rfl rfl ku_C 2 (by decide) kt_125 rfl dC_heatUp_28 ?_
    refine kw_iload_n C 2 dC_heatUp_31 rfl rfl ?_
    refine kw_lald C 1 1 rfl rfl (kix_of hr8) dC_heatUp_32 ?_
    refine kw_lsub C dC_heatUp_33 ?_
    refine kw_lstore (lv' := [(4, .long (((((h_stores h) room.toNatClampNeg).toInt64) * ((rC_setOf c h room hour).toInt64)) - ((c_heat c) room.toNatClampNeg))), (3, .int (rC_setOf c h room hour)), (0, .ref (ac 0)), (1, .int room), (2, .int hour)]) C dC_heatUp_34 (by decide) rfl ?_
    refine kw_lload C 0 dC_heatUp_36 rfl ?_
    refine kw_lconst (v := 0) C dC_heatUp_38 (by decide) ?_
    refine kw_lcmp C dC_heatUp_39 ?_
    refine kw_if_gt (tgt := 44) C dC_heatUp_40 (by decide) (fun c_2 => ?_) (fun c_2 => ?_)
    · skip
      refine kw_aload_n C 2 dC_heatUp_44 rfl rfl ?_
      refine kw_iload_n C 3 dC_heatUp_45 rfl rfl ?_
      refine kw_callAi (w1 := (wC k ah ar ac c h)) (st := []) C (cC_heatingOf l D k ah ar ac c h room hr8) (cwV 1 C.1.2.2.2.2 (kgV kt_459 kt_461 ks_C_heatingOf kt_4 kt_462) rfl rfl rfl kdC_heatingOf ⟨Nat.le_of_ble_eq_true rfl, Nat.le_of_ble_eq_true rfl⟩) 0 0 rfl rfl rfl rfl rfl (Nat.le_of_ble_eq_true rfl) dC_heatUp_46 ⟨Nat.zero_le _, Nat.zero_le _⟩ (ad_wC.trans ad_wC.symm) ?_
      refine kw_i2l C dC_heatUp_49 ?_
      refine kw_lstore (lv' := [(6, .long ((rC_heatingOf c h room).toInt64)), (4, .long (((((h_stores h) room.toNatClampNeg).toInt64) * ((rC_setOf c h room hour).toInt64)) - ((c_heat c) room.toNatClampNeg))), (3, .int (rC_setOf c h room hour)), (0, .ref (ac 0)), (1, .int room), (2, .int hour)]) C dC_heatUp_50 (by decide) rfl ?_
      refine kw_iload_n C 4 dC_heatUp_52 rfl rfl ?_
      refine kw_aload_n C 3 dC_heatUp_53 rfl rfl ?_
      refine kw_get (v := .int (c_mostRoom c)) C 0 rfl rfl ku_C 15 (by decide) kt_147 rfl dC_heatUp_54 ?_
      refine kw_icmp_ne (tgt := 73) C dC_heatUp_57 (by decide) (fun c_3 => ?_) (fun c_3 => ?_)
      · skip
        refine kw_lload C 1 dC_heatUp_73 rfl ?_
        refine kw_lload C 0 dC_heatUp_75 rfl ?_
        refine kw_mmin_long C kt_463 kt_464 kt_11 kt_465 (Nat.le_of_ble_eq_true rfl) (Nat.le_of_ble_eq_true rfl) (Nat.zero_le _) (Nat.zero_le _) dC_heatUp_77 ?_
        refine kw_lstore (lv' := [(8, .long (if ((rC_heatingOf c h room).toInt64) < (((((h_stores h) room.toNatClampNeg).toInt64) * ((rC_setOf c h room hour).toInt64)) - ((c_heat c) room.toNatClampNeg)) then ((rC_heatingOf c h room).toInt64) else (((((h_stores h) room.toNatClampNeg).toInt64) * ((rC_setOf c h room hour).toInt64)) - ((c_heat c) room.toNatClampNeg)))), (6, .long ((rC_heatingOf c h room).toInt64)), (4, .long (((((h_stores h) room.toNatClampNeg).toInt64) * ((rC_setOf c h room hour).toInt64)) - ((c_heat c) room.toNatClampNeg))), (3, .int (rC_setOf c h room hour)), (0, .ref (ac 0)), (1, .int room), (2, .int hour)]) C dC_heatUp_80 (by decide) rfl ?_
        refine kw_aload_n C 4 dC_heatUp_82 rfl rfl ?_
        refine kw_get (v := .ref (ac 1)) C 0 rfl rfl ku_C 2 (by decide) kt_125 rfl dC_heatUp_83 ?_
        refine kw_iload_n C 5 dC_heatUp_86 rfl rfl ?_
        refine kw_dup2_11 C dC_heatUp_87 rfl rfl ?_
        refine kw_lald C 1 1 rfl rfl (kix_of hr8) dC_heatUp_88 ?_
        refine kw_lload C 0 dC_heatUp_89 rfl ?_
        refine kw_ladd C dC_heatUp_91 ?_
        refine kw_last C 1 1 rfl rfl (kix_of hr8) dC_heatUp_92 (wC_c k ah ar ac (c_over c) (c_setRoom c) (c_setTried c) (c_setFrom c) (c_mostRoom c) (c_mostTried c) (c_fellShort c) (c_begun c) (c_fromSun c) (c_fromPersons c) (c_goneOut c) (vp_updL (c_heat c) room.toNatClampNeg (((c_heat c) room.toNatClampNeg) + (if ((rC_heatingOf c h room).toInt64) < (((((h_stores h) room.toNatClampNeg).toInt64) * ((rC_setOf c h room hour).toInt64)) - ((c_heat c) room.toNatClampNeg)) then ((rC_heatingOf c h room).toInt64) else (((((h_stores h) room.toNatClampNeg).toInt64) * ((rC_setOf c h room hour).toInt64)) - ((c_heat c) room.toNatClampNeg))))) (c_warmth c) (c_given c) (c_taken c) (c_greatest c) (c_uneasy c) h) rfl ?_
        refine kw_aload_n C 4 dC_heatUp_93 rfl rfl ?_
        refine kw_get (v := .ref (ac 3)) C 0 rfl rfl ku_C 4 (by decide) kt_128 rfl dC_heatUp_94 ?_
        refine kw_iload_n C 5 dC_heatUp_97 rfl rfl ?_
        refine kw_dup2_11 C dC_heatUp_98 rfl rfl ?_
        refine kw_lald C 3 1 rfl rfl (kix_of hr8) dC_heatUp_99 ?_
        refine kw_lload C 0 dC_heatUp_100 rfl ?_
        refine kw_ladd C dC_heatUp_102 ?_
        refine kw_last C 3 1 rfl rfl (kix_of hr8) dC_heatUp_103 (wC_c k ah ar ac (c_over c) (c_setRoom c) (c_setTried c) (c_setFrom c) (c_mostRoom c) (c_mostTried c) (c_fellShort c) (c_begun c) (c_fromSun c) (c_fromPersons c) (c_goneOut c) (vp_updL (c_heat c) room.toNatClampNeg (((c_heat c) room.toNatClampNeg) + (if ((rC_heatingOf c h room).toInt64) < (((((h_stores h) room.toNatClampNeg).toInt64) * ((rC_setOf c h room hour).toInt64)) - ((c_heat c) room.toNatClampNeg)) then ((rC_heatingOf c h room).toInt64) else (((((h_stores h) room.toNatClampNeg).toInt64) * ((rC_setOf c h room hour).toInt64)) - ((c_heat c) room.toNatClampNeg))))) (c_warmth c) (vp_updL (c_given c) room.toNatClampNeg (((c_given c) room.toNatClampNeg) + (if ((rC_heatingOf c h room).toInt64) < (((((h_stores h) room.toNatClampNeg).toInt64) * ((rC_setOf c h room hour).toInt64)) - ((c_heat c) room.toNatClampNeg)) then ((rC_heatingOf c h room).toInt64) else (((((h_stores h) room.toNatClampNeg).toInt64) * ((rC_setOf c h room hour).toInt64)) - ((c_heat c) room.toNatClampNeg))))) (c_taken c) (c_greatest c) (c_uneasy c) h) rfl ?_
        refine kw_aload_n C 4 dC_heatUp_104 rfl rfl ?_
        refine kw_get (v := .ref (ac 5)) C 0 rfl rfl ku_C 6 (by decide) kt_132 rfl dC_heatUp_105 ?_
        refine kw_iload_n C 5 dC_heatUp_108 rfl rfl ?_
        refine kw_aload_n C 4 dC_heatUp_109 rfl rfl ?_
        refine kw_get (v := .ref (ac 5)) C 0 rfl rfl ku_C 6 (by decide) kt_132 rfl dC_heatUp_110 ?_
        refine kw_iload_n C 5 dC_heatUp_113 rfl rfl ?_
        refine kw_lald C 5 1 rfl rfl (kix_of hr8) dC_heatUp_114 ?_
        refine kw_lload C 0 dC_heatUp_115 rfl ?_
        refine kw_mmax_long C kt_466 kt_467 kt_11 kt_468 (Nat.le_of_ble_eq_true rfl) (Nat.le_of_ble_eq_true rfl) (Nat.zero_le _) (Nat.zero_le _) dC_heatUp_117 ?_
        refine kw_last C 5 1 rfl rfl (kix_of hr8) dC_heatUp_120 (wC_c k ah ar ac (c_over c) (c_setRoom c) (c_setTried c) (c_setFrom c) (c_mostRoom c) (c_mostTried c) (c_fellShort c) (c_begun c) (c_fromSun c) (c_fromPersons c) (c_goneOut c) (vp_updL (c_heat c) room.toNatClampNeg (((c_heat c) room.toNatClampNeg) + (if ((rC_heatingOf c h room).toInt64) < (((((h_stores h) room.toNatClampNeg).toInt64) * ((rC_setOf c h room hour).toInt64)) - ((c_heat c) room.toNatClampNeg)) then ((rC_heatingOf c h room).toInt64) else (((((h_stores h) room.toNatClampNeg).toInt64) * ((rC_setOf c h room hour).toInt64)) - ((c_heat c) room.toNatClampNeg))))) (c_warmth c) (vp_updL (c_given c) room.toNatClampNeg (((c_given c) room.toNatClampNeg) + (if ((rC_heatingOf c h room).toInt64) < (((((h_stores h) room.toNatClampNeg).toInt64) * ((rC_setOf c h room hour).toInt64)) - ((c_heat c) room.toNatClampNeg)) then ((rC_heatingOf c h room).toInt64) else (((((h_stores h) room.toNatClampNeg).toInt64) * ((rC_setOf c h room hour).toInt64)) - ((c_heat c) room.toNatClampNeg))))) (c_taken c) (vp_updL (c_greatest c) room.toNatClampNeg (if (if ((rC_heatingOf c h room).toInt64) < (((((h_stores h) room.toNatClampNeg).toInt64) * ((rC_setOf c h room hour).toInt64)) - ((c_heat c) room.toNatClampNeg)) then ((rC_heatingOf c h room).toInt64) else (((((h_stores h) room.toNatClampNeg).toInt64) * ((rC_setOf c h room hour).toInt64)) - ((c_heat c) room.toNatClampNeg))) < ((c_greatest c) room.toNatClampNeg) then ((c_greatest c) room.toNatClampNeg) else (if ((rC_heatingOf c h room).toInt64) < (((((h_stores h) room.toNatClampNeg).toInt64) * ((rC_setOf c h room hour).toInt64)) - ((c_heat c) room.toNatClampNeg)) then ((rC_heatingOf c h room).toInt64) else (((((h_stores h) room.toNatClampNeg).toInt64) * ((rC_setOf c h room hour).toInt64)) - ((c_heat c) room.toNatClampNeg))))) (c_uneasy c) h) rfl ?_
        refine kw_eq rfl rfl (show (wC_c k ah ar ac (c_over c) (c_setRoom c) (c_setTried c) (c_setFrom c) (c_mostRoom c) (c_mostTried c) (c_fellShort c) (c_begun c) (c_fromSun c) (c_fromPersons c) (c_goneOut c) (vp_updL (c_heat c) room.toNatClampNeg (((c_heat c) room.toNatClampNeg) + (if ((rC_heatingOf c h room).toInt64) < (((((h_stores h) room.toNatClampNeg).toInt64) * ((rC_setOf c h room hour).toInt64)) - ((c_heat c) room.toNatClampNeg)) then ((rC_heatingOf c h room).toInt64) else (((((h_stores h) room.toNatClampNeg).toInt64) * ((rC_setOf c h room hour).toInt64)) - ((c_heat c) room.toNatClampNeg))))) (c_warmth c) (vp_updL (c_given c) room.toNatClampNeg (((c_given c) room.toNatClampNeg) + (if ((rC_heatingOf c h room).toInt64) < (((((h_stores h) room.toNatClampNeg).toInt64) * ((rC_setOf c h room hour).toInt64)) - ((c_heat c) room.toNatClampNeg)) then ((rC_heatingOf c h room).toInt64) else (((((h_stores h) room.toNatClampNeg).toInt64) * ((rC_setOf c h room hour).toInt64)) - ((c_heat c) room.toNatClampNeg))))) (c_taken c) (vp_updL (c_greatest c) room.toNatClampNeg (if (if ((rC_heatingOf c h room).toInt64) < (((((h_stores h) room.toNatClampNeg).toInt64) * ((rC_setOf c h room hour).toInt64)) - ((c_heat c) room.toNatClampNeg)) then ((rC_heatingOf c h room).toInt64) else (((((h_stores h) room.toNatClampNeg).toInt64) * ((rC_setOf c h room hour).toInt64)) - ((c_heat c) room.toNatClampNeg))) < ((c_greatest c) room.toNatClampNeg) then ((c_greatest c) room.toNatClampNeg) else (if ((rC_heatingOf c h room).toInt64) < (((((h_stores h) room.toNatClampNeg).toInt64) * ((rC_setOf c h room hour).toInt64)) - ((c_heat c) room.toNatClampNeg)) then ((rC_heatingOf c h room).toInt64) else (((((h_stores h) room.toNatClampNeg).toInt64) * ((rC_setOf c h room hour).toInt64)) - ((c_heat c) room.toNatClampNeg))))) (c_uneasy c) h) = (wC k ah ar ac (scC_heatUp c h room hour) h) from by unfold scC_heatUp; rw [if_neg c_1, if_pos c_2, if_neg c_3]) ?_
        exact kw_vret C hr hlocks dC_heatUp_121
      · skip
        refine kw_lload C 1 dC_heatUp_60 rfl ?_
        refine kw_lload C 0 dC_heatUp_62 rfl ?_
        refine kw_lcmp C dC_heatUp_64 ?_
        refine kw_if_le (tgt := 73) C dC_heatUp_65 (by decide) (fun c_4 => ?_) (fun c_4 => ?_)
        · skip
          refine kw_lload C 1 dC_heatUp_73 rfl ?_
          refine kw_lload C 0 dC_heatUp_75 rfl ?_
          refine kw_mmin_long C kt_463 kt_464 kt_11 kt_465 (Nat.le_of_ble_eq_true rfl) (Nat.le_of_ble_eq_true rfl) (Nat.zero_le _) (Nat.zero_le _) dC_heatUp_77 ?_
          refine kw_lstore (lv' := [(8, .long (if ((rC_heatingOf c h room).toInt64) < (((((h_stores h) room.toNatClampNeg).toInt64) * ((rC_setOf c h room hour).toInt64)) - ((c_heat c) room.toNatClampNeg)) then ((rC_heatingOf c h room).toInt64) else (((((h_stores h) room.toNatClampNeg).toInt64) * ((rC_setOf c h room hour).toInt64)) - ((c_heat c) room.toNatClampNeg)))), (6, .long ((rC_heatingOf c h room).toInt64)), (4, .long (((((h_stores h) room.toNatClampNeg).toInt64) * ((rC_setOf c h room hour).toInt64)) - ((c_heat c) room.toNatClampNeg))), (3, .int (rC_setOf c h room hour)), (0, .ref (ac 0)), (1, .int room), (2, .int hour)]) C dC_heatUp_80 (by decide) rfl ?_
          refine kw_aload_n C 4 dC_heatUp_82 rfl rfl ?_
          refine kw_get (v := .ref (ac 1)) C 0 rfl rfl ku_C 2 (by decide) kt_125 rfl dC_heatUp_83 ?_
          refine kw_iload_n C 5 dC_heatUp_86 rfl rfl ?_
          refine kw_dup2_11 C dC_heatUp_87 rfl rfl ?_
          refine kw_lald C 1 1 rfl rfl (kix_of hr8) dC_heatUp_88 ?_
          refine kw_lload C 0 dC_heatUp_89 rfl ?_
          refine kw_ladd C dC_heatUp_91 ?_
          refine kw_last C 1 1 rfl rfl (kix_of hr8) dC_heatUp_92 (wC_c k ah ar ac (c_over c) (c_setRoom c) (c_setTried c) (c_setFrom c) (c_mostRoom c) (c_mostTried c) (c_fellShort c) (c_begun c) (c_fromSun c) (c_fromPersons c) (c_goneOut c) (vp_updL (c_heat c) room.toNatClampNeg (((c_heat c) room.toNatClampNeg) + (if ((rC_heatingOf c h room).toInt64) < (((((h_stores h) room.toNatClampNeg).toInt64) * ((rC_setOf c h room hour).toInt64)) - ((c_heat c) room.toNatClampNeg)) then ((rC_heatingOf c h room).toInt64) else (((((h_stores h) room.toNatClampNeg).toInt64) * ((rC_setOf c h room hour).toInt64)) - ((c_heat c) room.toNatClampNeg))))) (c_warmth c) (c_given c) (c_taken c) (c_greatest c) (c_uneasy c) h) rfl ?_
          refine kw_aload_n C 4 dC_heatUp_93 rfl rfl ?_
          refine kw_get (v := .ref (ac 3)) C 0 rfl rfl ku_C 4 (by decide) kt_128 rfl dC_heatUp_94 ?_
          refine kw_iload_n C 5 dC_heatUp_97 rfl rfl ?_
          refine kw_dup2_11 C dC_heatUp_98 rfl rfl ?_
          refine kw_lald C 3 1 rfl rfl (kix_of hr8) dC_heatUp_99 ?_
          refine kw_lload C 0 dC_heatUp_100 rfl ?_
          refine kw_ladd C dC_heatUp_102 ?_
          refine kw_last C 3 1 rfl rfl (kix_of hr8) dC_heatUp_103 (wC_c k ah ar ac (c_over c) (c_setRoom c) (c_setTried c) (c_setFrom c) (c_mostRoom c) (c_mostTried c) (c_fellShort c) (c_begun c) (c_fromSun c) (c_fromPersons c) (c_goneOut c) (vp_updL (c_heat c) room.toNatClampNeg (((c_heat c) room.toNatClampNeg) + (if ((rC_heatingOf c h room).toInt64) < (((((h_stores h) room.toNatClampNeg).toInt64) * ((rC_setOf c h room hour).toInt64)) - ((c_heat c) room.toNatClampNeg)) then ((rC_heatingOf c h room).toInt64) else (((((h_stores h) room.toNatClampNeg).toInt64) * ((rC_setOf c h room hour).toInt64)) - ((c_heat c) room.toNatClampNeg))))) (c_warmth c) (vp_updL (c_given c) room.toNatClampNeg (((c_given c) room.toNatClampNeg) + (if ((rC_heatingOf c h room).toInt64) < (((((h_stores h) room.toNatClampNeg).toInt64) * ((rC_setOf c h room hour).toInt64)) - ((c_heat c) room.toNatClampNeg)) then ((rC_heatingOf c h room).toInt64) else (((((h_stores h) room.toNatClampNeg).toInt64) * ((rC_setOf c h room hour).toInt64)) - ((c_heat c) room.toNatClampNeg))))) (c_taken c) (c_greatest c) (c_uneasy c) h) rfl ?_
          refine kw_aload_n C 4 dC_heatUp_104 rfl rfl ?_
          refine kw_get (v := .ref (ac 5)) C 0 rfl rfl ku_C 6 (by decide) kt_132 rfl dC_heatUp_105 ?_
          refine kw_iload_n C 5 dC_heatUp_108 rfl rfl ?_
          refine kw_aload_n C 4 dC_heatUp_109 rfl rfl ?_
          refine kw_get (v := .ref (ac 5)) C 0 rfl rfl ku_C 6 (by decide) kt_132 rfl dC_heatUp_110 ?_
          refine kw_iload_n C 5 dC_heatUp_113 rfl rfl ?_
          refine kw_lald C 5 1 rfl rfl (kix_of hr8) dC_heatUp_114 ?_
          refine kw_lload C 0 dC_heatUp_115 rfl ?_
          refine kw_mmax_long C kt_466 kt_467 kt_11 kt_468 (Nat.le_of_ble_eq_true rfl) (Nat.le_of_ble_eq_true rfl) (Nat.zero_le _) (Nat.zero_le _) dC_heatUp_117 ?_
          refine kw_last C 5 1 rfl rfl (kix_of hr8) dC_heatUp_120 (wC_c k ah ar ac (c_over c) (c_setRoom c) (c_setTried c) (c_setFrom c) (c_mostRoom c) (c_mostTried c) (c_fellShort c) (c_begun c) (c_fromSun c) (c_fromPersons c) (c_goneOut c) (vp_updL (c_heat c) room.toNatClampNeg (((c_heat c) room.toNatClampNeg) + (if ((rC_heatingOf c h room).toInt64) < (((((h_stores h) room.toNatClampNeg).toInt64) * ((rC_setOf c h room hour).toInt64)) - ((c_heat c) room.toNatClampNeg)) then ((rC_heatingOf c h room).toInt64) else (((((h_stores h) room.toNatClampNeg).toInt64) * ((rC_setOf c h room hour).toInt64)) - ((c_heat c) room.toNatClampNeg))))) (c_warmth c) (vp_updL (c_given c) room.toNatClampNeg (((c_given c) room.toNatClampNeg) + (if ((rC_heatingOf c h room).toInt64) < (((((h_stores h) room.toNatClampNeg).toInt64) * ((rC_setOf c h room hour).toInt64)) - ((c_heat c) room.toNatClampNeg)) then ((rC_heatingOf c h room).toInt64) else (((((h_stores h) room.toNatClampNeg).toInt64) * ((rC_setOf c h room hour).toInt64)) - ((c_heat c) room.toNatClampNeg))))) (c_taken c) (vp_updL (c_greatest c) room.toNatClampNeg (if (if ((rC_heatingOf c h room).toInt64) < (((((h_stores h) room.toNatClampNeg).toInt64) * ((rC_setOf c h room hour).toInt64)) - ((c_heat c) room.toNatClampNeg)) then ((rC_heatingOf c h room).toInt64) else (((((h_stores h) room.toNatClampNeg).toInt64) * ((rC_setOf c h room hour).toInt64)) - ((c_heat c) room.toNatClampNeg))) < ((c_greatest c) room.toNatClampNeg) then ((c_greatest c) room.toNatClampNeg) else (if ((rC_heatingOf c h room).toInt64) < (((((h_stores h) room.toNatClampNeg).toInt64) * ((rC_setOf c h room hour).toInt64)) - ((c_heat c) room.toNatClampNeg)) then ((rC_heatingOf c h room).toInt64) else (((((h_stores h) room.toNatClampNeg).toInt64) * ((rC_setOf c h room hour).toInt64)) - ((c_heat c) room.toNatClampNeg))))) (c_uneasy c) h) rfl ?_
          refine kw_eq rfl rfl (show (wC_c k ah ar ac (c_over c) (c_setRoom c) (c_setTried c) (c_setFrom c) (c_mostRoom c) (c_mostTried c) (c_fellShort c) (c_begun c) (c_fromSun c) (c_fromPersons c) (c_goneOut c) (vp_updL (c_heat c) room.toNatClampNeg (((c_heat c) room.toNatClampNeg) + (if ((rC_heatingOf c h room).toInt64) < (((((h_stores h) room.toNatClampNeg).toInt64) * ((rC_setOf c h room hour).toInt64)) - ((c_heat c) room.toNatClampNeg)) then ((rC_heatingOf c h room).toInt64) else (((((h_stores h) room.toNatClampNeg).toInt64) * ((rC_setOf c h room hour).toInt64)) - ((c_heat c) room.toNatClampNeg))))) (c_warmth c) (vp_updL (c_given c) room.toNatClampNeg (((c_given c) room.toNatClampNeg) + (if ((rC_heatingOf c h room).toInt64) < (((((h_stores h) room.toNatClampNeg).toInt64) * ((rC_setOf c h room hour).toInt64)) - ((c_heat c) room.toNatClampNeg)) then ((rC_heatingOf c h room).toInt64) else (((((h_stores h) room.toNatClampNeg).toInt64) * ((rC_setOf c h room hour).toInt64)) - ((c_heat c) room.toNatClampNeg))))) (c_taken c) (vp_updL (c_greatest c) room.toNatClampNeg (if (if ((rC_heatingOf c h room).toInt64) < (((((h_stores h) room.toNatClampNeg).toInt64) * ((rC_setOf c h room hour).toInt64)) - ((c_heat c) room.toNatClampNeg)) then ((rC_heatingOf c h room).toInt64) else (((((h_stores h) room.toNatClampNeg).toInt64) * ((rC_setOf c h room hour).toInt64)) - ((c_heat c) room.toNatClampNeg))) < ((c_greatest c) room.toNatClampNeg) then ((c_greatest c) room.toNatClampNeg) else (if ((rC_heatingOf c h room).toInt64) < (((((h_stores h) room.toNatClampNeg).toInt64) * ((rC_setOf c h room hour).toInt64)) - ((c_heat c) room.toNatClampNeg)) then ((rC_heatingOf c h room).toInt64) else (((((h_stores h) room.toNatClampNeg).toInt64) * ((rC_setOf c h room hour).toInt64)) - ((c_heat c) room.toNatClampNeg))))) (c_uneasy c) h) = (wC k ah ar ac (scC_heatUp c h room hour) h) from by unfold scC_heatUp; rw [if_neg c_1, if_pos c_2, if_pos c_3, if_pos c_4]) ?_
          exact kw_vret C hr hlocks dC_heatUp_121
        · skip
          refine kw_aload_n C 3 dC_heatUp_68 rfl rfl ?_
          refine kw_iconst (v := 1) C dC_heatUp_69 (by decide) ?_
          refine kw_put C 0 rfl rfl ku_C tC_ok nC 17 (by decide) kt_149 rfl (ty := .boolean) (by decide +kernel) rfl rfl (Nat.le_of_ble_eq_true rfl) dC_heatUp_70 (wC_c k ah ar ac (c_over c) (c_setRoom c) (c_setTried c) (c_setFrom c) (c_mostRoom c) (c_mostTried c) 1 (c_begun c) (c_fromSun c) (c_fromPersons c) (c_goneOut c) (c_heat c) (c_warmth c) (c_given c) (c_taken c) (c_greatest c) (c_uneasy c) h) rfl ?_
          refine kw_lload C 1 dC_heatUp_73 rfl ?_
          refine kw_lload C 0 dC_heatUp_75 rfl ?_
          refine kw_mmin_long C kt_463 kt_464 kt_11 kt_465 (Nat.le_of_ble_eq_true rfl) (Nat.le_of_ble_eq_true rfl) (Nat.zero_le _) (Nat.zero_le _) dC_heatUp_77 ?_
          refine kw_lstore (lv' := [(8, .long (if ((rC_heatingOf c h room).toInt64) < (((((h_stores h) room.toNatClampNeg).toInt64) * ((rC_setOf c h room hour).toInt64)) - ((c_heat c) room.toNatClampNeg)) then ((rC_heatingOf c h room).toInt64) else (((((h_stores h) room.toNatClampNeg).toInt64) * ((rC_setOf c h room hour).toInt64)) - ((c_heat c) room.toNatClampNeg)))), (6, .long ((rC_heatingOf c h room).toInt64)), (4, .long (((((h_stores h) room.toNatClampNeg).toInt64) * ((rC_setOf c h room hour).toInt64)) - ((c_heat c) room.toNatClampNeg))), (3, .int (rC_setOf c h room hour)), (0, .ref (ac 0)), (1, .int room), (2, .int hour)]) C dC_heatUp_80 (by decide) rfl ?_
          refine kw_aload_n C 4 dC_heatUp_82 rfl rfl ?_
          refine kw_get (v := .ref (ac 1)) C 0 rfl rfl ku_C 2 (by decide) kt_125 rfl dC_heatUp_83 ?_
          refine kw_iload_n C 5 dC_heatUp_86 rfl rfl ?_
          refine kw_dup2_11 C dC_heatUp_87 rfl rfl ?_
          refine kw_lald C 1 1 rfl rfl (kix_of hr8) dC_heatUp_88 ?_
          refine kw_lload C 0 dC_heatUp_89 rfl ?_
          refine kw_ladd C dC_heatUp_91 ?_
          refine kw_last C 1 1 rfl rfl (kix_of hr8) dC_heatUp_92 (wC_c k ah ar ac (c_over c) (c_setRoom c) (c_setTried c) (c_setFrom c) (c_mostRoom c) (c_mostTried c) 1 (c_begun c) (c_fromSun c) (c_fromPersons c) (c_goneOut c) (vp_updL (c_heat c) room.toNatClampNeg (((c_heat c) room.toNatClampNeg) + (if ((rC_heatingOf c h room).toInt64) < (((((h_stores h) room.toNatClampNeg).toInt64) * ((rC_setOf c h room hour).toInt64)) - ((c_heat c) room.toNatClampNeg)) then ((rC_heatingOf c h room).toInt64) else (((((h_stores h) room.toNatClampNeg).toInt64) * ((rC_setOf c h room hour).toInt64)) - ((c_heat c) room.toNatClampNeg))))) (c_warmth c) (c_given c) (c_taken c) (c_greatest c) (c_uneasy c) h) rfl ?_
          refine kw_aload_n C 4 dC_heatUp_93 rfl rfl ?_
          refine kw_get (v := .ref (ac 3)) C 0 rfl rfl ku_C 4 (by decide) kt_128 rfl dC_heatUp_94 ?_
          refine kw_iload_n C 5 dC_heatUp_97 rfl rfl ?_
          refine kw_dup2_11 C dC_heatUp_98 rfl rfl ?_
          refine kw_lald C 3 1 rfl rfl (kix_of hr8) dC_heatUp_99 ?_
          refine kw_lload C 0 dC_heatUp_100 rfl ?_
          refine kw_ladd C dC_heatUp_102 ?_
          refine kw_last C 3 1 rfl rfl (kix_of hr8) dC_heatUp_103 (wC_c k ah ar ac (c_over c) (c_setRoom c) (c_setTried c) (c_setFrom c) (c_mostRoom c) (c_mostTried c) 1 (c_begun c) (c_fromSun c) (c_fromPersons c) (c_goneOut c) (vp_updL (c_heat c) room.toNatClampNeg (((c_heat c) room.toNatClampNeg) + (if ((rC_heatingOf c h room).toInt64) < (((((h_stores h) room.toNatClampNeg).toInt64) * ((rC_setOf c h room hour).toInt64)) - ((c_heat c) room.toNatClampNeg)) then ((rC_heatingOf c h room).toInt64) else (((((h_stores h) room.toNatClampNeg).toInt64) * ((rC_setOf c h room hour).toInt64)) - ((c_heat c) room.toNatClampNeg))))) (c_warmth c) (vp_updL (c_given c) room.toNatClampNeg (((c_given c) room.toNatClampNeg) + (if ((rC_heatingOf c h room).toInt64) < (((((h_stores h) room.toNatClampNeg).toInt64) * ((rC_setOf c h room hour).toInt64)) - ((c_heat c) room.toNatClampNeg)) then ((rC_heatingOf c h room).toInt64) else (((((h_stores h) room.toNatClampNeg).toInt64) * ((rC_setOf c h room hour).toInt64)) - ((c_heat c) room.toNatClampNeg))))) (c_taken c) (c_greatest c) (c_uneasy c) h) rfl ?_
          refine kw_aload_n C 4 dC_heatUp_104 rfl rfl ?_
          refine kw_get (v := .ref (ac 5)) C 0 rfl rfl ku_C 6 (by decide) kt_132 rfl dC_heatUp_105 ?_
          refine kw_iload_n C 5 dC_heatUp_108 rfl rfl ?_
          refine kw_aload_n C 4 dC_heatUp_109 rfl rfl ?_
          refine kw_get (v := .ref (ac 5)) C 0 rfl rfl ku_C 6 (by decide) kt_132 rfl dC_heatUp_110 ?_
          refine kw_iload_n C 5 dC_heatUp_113 rfl rfl ?_
          refine kw_lald C 5 1 rfl rfl (kix_of hr8) dC_heatUp_114 ?_
          refine kw_lload C 0 dC_heatUp_115 rfl ?_
          refine kw_mmax_long C kt_466 kt_467 kt_11 kt_468 (Nat.le_of_ble_eq_true rfl) (Nat.le_of_ble_eq_true rfl) (Nat.zero_le _) (Nat.zero_le _) dC_heatUp_117 ?_
          refine kw_last C 5 1 rfl rfl (kix_of hr8) dC_heatUp_120 (wC_c k ah ar ac (c_over c) (c_setRoom c) (c_setTried c) (c_setFrom c) (c_mostRoom c) (c_mostTried c) 1 (c_begun c) (c_fromSun c) (c_fromPersons c) (c_goneOut c) (vp_updL (c_heat c) room.toNatClampNeg (((c_heat c) room.toNatClampNeg) + (if ((rC_heatingOf c h room).toInt64) < (((((h_stores h) room.toNatClampNeg).toInt64) * ((rC_setOf c h room hour).toInt64)) - ((c_heat c) room.toNatClampNeg)) then ((rC_heatingOf c h room).toInt64) else (((((h_stores h) room.toNatClampNeg).toInt64) * ((rC_setOf c h room hour).toInt64)) - ((c_heat c) room.toNatClampNeg))))) (c_warmth c) (vp_updL (c_given c) room.toNatClampNeg (((c_given c) room.toNatClampNeg) + (if ((rC_heatingOf c h room).toInt64) < (((((h_stores h) room.toNatClampNeg).toInt64) * ((rC_setOf c h room hour).toInt64)) - ((c_heat c) room.toNatClampNeg)) then ((rC_heatingOf c h room).toInt64) else (((((h_stores h) room.toNatClampNeg).toInt64) * ((rC_setOf c h room hour).toInt64)) - ((c_heat c) room.toNatClampNeg))))) (c_taken c) (vp_updL (c_greatest c) room.toNatClampNeg (if (if ((rC_heatingOf c h room).toInt64) < (((((h_stores h) room.toNatClampNeg).toInt64) * ((rC_setOf c h room hour).toInt64)) - ((c_heat c) room.toNatClampNeg)) then ((rC_heatingOf c h room).toInt64) else (((((h_stores h) room.toNatClampNeg).toInt64) * ((rC_setOf c h room hour).toInt64)) - ((c_heat c) room.toNatClampNeg))) < ((c_greatest c) room.toNatClampNeg) then ((c_greatest c) room.toNatClampNeg) else (if ((rC_heatingOf c h room).toInt64) < (((((h_stores h) room.toNatClampNeg).toInt64) * ((rC_setOf c h room hour).toInt64)) - ((c_heat c) room.toNatClampNeg)) then ((rC_heatingOf c h room).toInt64) else (((((h_stores h) room.toNatClampNeg).toInt64) * ((rC_setOf c h room hour).toInt64)) - ((c_heat c) room.toNatClampNeg))))) (c_uneasy c) h) rfl ?_
          refine kw_eq rfl rfl (show (wC_c k ah ar ac (c_over c) (c_setRoom c) (c_setTried c) (c_setFrom c) (c_mostRoom c) (c_mostTried c) 1 (c_begun c) (c_fromSun c) (c_fromPersons c) (c_goneOut c) (vp_updL (c_heat c) room.toNatClampNeg (((c_heat c) room.toNatClampNeg) + (if ((rC_heatingOf c h room).toInt64) < (((((h_stores h) room.toNatClampNeg).toInt64) * ((rC_setOf c h room hour).toInt64)) - ((c_heat c) room.toNatClampNeg)) then ((rC_heatingOf c h room).toInt64) else (((((h_stores h) room.toNatClampNeg).toInt64) * ((rC_setOf c h room hour).toInt64)) - ((c_heat c) room.toNatClampNeg))))) (c_warmth c) (vp_updL (c_given c) room.toNatClampNeg (((c_given c) room.toNatClampNeg) + (if ((rC_heatingOf c h room).toInt64) < (((((h_stores h) room.toNatClampNeg).toInt64) * ((rC_setOf c h room hour).toInt64)) - ((c_heat c) room.toNatClampNeg)) then ((rC_heatingOf c h room).toInt64) else (((((h_stores h) room.toNatClampNeg).toInt64) * ((rC_setOf c h room hour).toInt64)) - ((c_heat c) room.toNatClampNeg))))) (c_taken c) (vp_updL (c_greatest c) room.toNatClampNeg (if (if ((rC_heatingOf c h room).toInt64) < (((((h_stores h) room.toNatClampNeg).toInt64) * ((rC_setOf c h room hour).toInt64)) - ((c_heat c) room.toNatClampNeg)) then ((rC_heatingOf c h room).toInt64) else (((((h_stores h) room.toNatClampNeg).toInt64) * ((rC_setOf c h room hour).toInt64)) - ((c_heat c) room.toNatClampNeg))) < ((c_greatest c) room.toNatClampNeg) then ((c_greatest c) room.toNatClampNeg) else (if ((rC_heatingOf c h room).toInt64) < (((((h_stores h) room.toNatClampNeg).toInt64) * ((rC_setOf c h room hour).toInt64)) - ((c_heat c) room.toNatClampNeg)) then ((rC_heatingOf c h room).toInt64) else (((((h_stores h) room.toNatClampNeg).toInt64) * ((rC_setOf c h room hour).toInt64)) - ((c_heat c) room.toNatClampNeg))))) (c_uneasy c) h) = (wC k ah ar ac (scC_heatUp c h room hour) h) from by unfold scC_heatUp; rw [if_neg c_1, if_pos c_2, if_pos c_3, if_neg c_4]) ?_
          exact kw_vret C hr hlocks dC_heatUp_121
    · skip
      refine kw_eq rfl rfl (show (wC k ah ar ac c h) = (wC k ah ar ac (scC_heatUp c h room hour) h) from by unfold scC_heatUp; rw [if_neg c_1, if_neg c_2]) ?_
      exact kw_vret C hr hlocks dC_heatUp_43
  · skip
    refine kw_eq rfl rfl (show (wC k ah ar ac c h) = (wC k ah ar ac (scC_heatUp c h room hour) h) from by unfold scC_heatUp; rw [if_pos c_1]) ?_
    exact kw_vret C hr hlocks dC_heatUp_13
end
section
noncomputable def scC_coolDown (c : CS) (h : HS) (room : Int32) (hour : Int32) : CS := if (rC_planned c h 2 room hour) = (-1000000) then c else (if 0 < (lg_cmp (((c_heat c) room.toNatClampNeg) - ((((h_stores h) room.toNatClampNeg).toInt64) * ((rC_planned c h 2 room hour).toInt64))) 0) then ((c_over c), (c_setRoom c), (c_setTried c), (c_setFrom c), (c_mostRoom c), (c_mostTried c), (c_fellShort c), (c_begun c), (c_fromSun c), (c_fromPersons c), (c_goneOut c), (vp_updL (c_heat c) room.toNatClampNeg (((c_heat c) room.toNatClampNeg) - (if ((((h_mosts h) 1) room.toNatClampNeg).toInt64) < (((c_heat c) room.toNatClampNeg) - ((((h_stores h) room.toNatClampNeg).toInt64) * ((rC_planned c h 2 room hour).toInt64))) then ((((h_mosts h) 1) room.toNatClampNeg).toInt64) else (((c_heat c) room.toNatClampNeg) - ((((h_stores h) room.toNatClampNeg).toInt64) * ((rC_planned c h 2 room hour).toInt64)))))), (c_warmth c), (c_given c), (vp_updL (c_taken c) room.toNatClampNeg (((c_taken c) room.toNatClampNeg) + (if ((((h_mosts h) 1) room.toNatClampNeg).toInt64) < (((c_heat c) room.toNatClampNeg) - ((((h_stores h) room.toNatClampNeg).toInt64) * ((rC_planned c h 2 room hour).toInt64))) then ((((h_mosts h) 1) room.toNatClampNeg).toInt64) else (((c_heat c) room.toNatClampNeg) - ((((h_stores h) room.toNatClampNeg).toInt64) * ((rC_planned c h 2 room hour).toInt64)))))), (c_greatest c), (c_uneasy c)) else c)
set_option maxRecDepth 100000 in
set_option maxHeartbeats 4000000 in
theorem cC_coolDown (l : Launch) (D : va_G) (k : Nat → ClassId) (ah : Nat → Nat) (ar : Nat → Nat → Nat) (ac : Nat → Nat) (c : CS) (h : HS) (room : Int32) (hour : Int32) (hr8 : vp_in room 8) (hp : vp_in (room * 24 + hour) 192) : kMv l yC_coolDown (kwm yC_coolDown bC_coolDown 8 none) ({ frames := 1, cells := 0, slots := 0, locals := 23 }) D kcl (kty k) (wC k ah ar ac c h) (wC k ah ar ac (scC_coolDown c h room hour) h) [.ref (ac 0), .int room, .int hour] := by
  refine k_entry_v (lv0 := [(0, .ref (ac 0)), (1, .int room), (2, .int hour)]) rfl (by decide +kernel) (Nat.le_of_ble_eq_true rfl) rfl ?_
  intro p e s m args below meth c0 C hr hlocks
  refine kw_aload_n C 0 dC_coolDown_0 rfl rfl ?_
  refine kw_iconst (v := 2) C dC_coolDown_1 (by decide) ?_
  refine kw_iload_n C 1 dC_coolDown_2 rfl rfl ?_
  refine kw_iload_n C 2 dC_coolDown_3 rfl rfl ?_
  refine kw_callAi (w1 := (wC k ah ar ac c h)) (st := []) C (cC_planned l D k ah ar ac c h 2 room hour (by unfold vp_in; decide) hp) (cwV 3 C.1.2.2.2.2 (kgV kt_446 kt_448 ks_C_planned kt_4 kt_449) rfl rfl rfl kdC_planned ⟨Nat.le_of_ble_eq_true rfl, Nat.le_of_ble_eq_true rfl⟩) 0 0 rfl rfl rfl rfl rfl (Nat.le_of_ble_eq_true rfl) dC_coolDown_4 ⟨Nat.zero_le _, Nat.zero_le _⟩ (ad_wC.trans ad_wC.symm) ?_
  refine kw_istore_n (lv' := [(3, .int (rC_planned c h 2 room hour)), (0, .ref (ac 0)), (1, .int room), (2, .int hour)]) C dC_coolDown_7 rfl (by decide) rfl ?_
  refine kw_iload_n C 0 dC_coolDown_8 rfl rfl ?_
  refine kw_ldc (v := -1000000) C kt_458 dC_coolDown_9 ?_
  refine kw_icmp_ne (tgt := 15) C dC_coolDown_11 (by decide) (fun c_1 => ?_) (fun c_1 => ?_)
  · skip
    refine kw_aload_n C 1 dC_coolDown_15 rfl rfl ?_
    refine kw_get (v := .ref (ac 1)) C 0 rfl rfl ku_C 2 (by decide) kt_125 rfl dC_coolDown_16 ?_
    refine kw_iload_n C 2 dC_coolDown_19 rfl rfl ?_
    refine kw_lald C 1 1 rfl rfl (kix_of hr8) dC_coolDown_20 ?_
    refine kw_aload_n C 1 dC_coolDown_21 rfl rfl ?_
    refine kw_get (v := .ref (ah 0)) C 0 rfl rfl ku_C 0 (by decide) kt_122 rfl dC_coolDown_22 ?_
    refine kw_get (v := .ref (ah 1)) C 7 rfl rfl ku_H 1 (by decide) kt_37 rfl dC_coolDown_25 ?_
    refine kw_iload_n C 2 dC_coolDown_28 rfl rfl ?_
    refine kw_iald C 8 0 rfl rfl (kix_of hr8) dC_coolDown_29 ?_
    refine kw_i2l C dC_coolDown_30 ?_
    refine kw_iload_n C 0 dC_coolDown_31 rfl rfl ?_
    refine kw_i2l C dC_coolDown_32 ?_
    refine kw_lmul C dC_coolDown_33 ?_
    refine kw_lsub C dC_coolDown_34 ?_
    refine kw_lstore (lv' := [(4, .long (((c_heat c) room.toNatClampNeg) - ((((h_stores h) room.toNatClampNeg).toInt64) * ((rC_planned c h 2 room hour).toInt64)))), (3, .int (rC_planned c h 2 room hour)), (0, .ref (ac 0)), (1, .int room), (2, .int hour)]) C dC_coolDown_35 (by decide) rfl ?_
    refine kw_lload C 0 dC_coolDown_37 rfl ?_
    refine kw_lconst (v := 0) C dC_coolDown_39 (by decide) ?_
    refine kw_lcmp C dC_coolDown_40 ?_
    refine kw_if_gt (tgt := 45) C dC_coolDown_41 (by decide) (fun c_2 => ?_) (fun c_2 => ?_)
    · skip
      refine kw_lload C 0 dC_coolDown_45 rfl ?_
      refine kw_aload_n C 2 dC_coolDown_47 rfl rfl ?_
      refine kw_get (v := .ref (ah 0)) C 0 rfl rfl ku_C 0 (by decide) kt_122 rfl dC_coolDown_48 ?_
      refine kw_get (v := .ref (ah 3)) C 7 rfl rfl ku_H 3 (by decide) kt_41 rfl dC_coolDown_51 ?_
      refine kw_iconst (v := 1) C dC_coolDown_54 (by decide) ?_
      refine kw_aldA (b := ar 0 1) C 18 2 rfl rfl ⟨by unfold vp_in; decide, rfl⟩ rfl dC_coolDown_55 ?_
      refine kw_iload_n C 3 dC_coolDown_56 rfl rfl ?_
      refine kw_iald C 20 0 rfl rfl (kix_of hr8) dC_coolDown_57 ?_
      refine kw_i2l C dC_coolDown_58 ?_
      refine kw_mmin_long C kt_463 kt_464 kt_11 kt_465 (Nat.le_of_ble_eq_true rfl) (Nat.le_of_ble_eq_true rfl) (Nat.zero_le _) (Nat.zero_le _) dC_coolDown_59 ?_
      refine kw_lstore (lv' := [(6, .long (if ((((h_mosts h) 1) room.toNatClampNeg).toInt64) < (((c_heat c) room.toNatClampNeg) - ((((h_stores h) room.toNatClampNeg).toInt64) * ((rC_planned c h 2 room hour).toInt64))) then ((((h_mosts h) 1) room.toNatClampNeg).toInt64) else (((c_heat c) room.toNatClampNeg) - ((((h_stores h) room.toNatClampNeg).toInt64) * ((rC_planned c h 2 room hour).toInt64))))), (4, .long (((c_heat c) room.toNatClampNeg) - ((((h_stores h) room.toNatClampNeg).toInt64) * ((rC_planned c h 2 room hour).toInt64)))), (3, .int (rC_planned c h 2 room hour)), (0, .ref (ac 0)), (1, .int room), (2, .int hour)]) C dC_coolDown_62 (by decide) rfl ?_
      refine kw_aload_n C 3 dC_coolDown_64 rfl rfl ?_
      refine kw_get (v := .ref (ac 1)) C 0 rfl rfl ku_C 2 (by decide) kt_125 rfl dC_coolDown_65 ?_
      refine kw_iload_n C 4 dC_coolDown_68 rfl rfl ?_
      refine kw_dup2_11 C dC_coolDown_69 rfl rfl ?_
      refine kw_lald C 1 1 rfl rfl (kix_of hr8) dC_coolDown_70 ?_
      refine kw_lload C 0 dC_coolDown_71 rfl ?_
      refine kw_lsub C dC_coolDown_73 ?_
      refine kw_last C 1 1 rfl rfl (kix_of hr8) dC_coolDown_74 (wC_c k ah ar ac (c_over c) (c_setRoom c) (c_setTried c) (c_setFrom c) (c_mostRoom c) (c_mostTried c) (c_fellShort c) (c_begun c) (c_fromSun c) (c_fromPersons c) (c_goneOut c) (vp_updL (c_heat c) room.toNatClampNeg (((c_heat c) room.toNatClampNeg) - (if ((((h_mosts h) 1) room.toNatClampNeg).toInt64) < (((c_heat c) room.toNatClampNeg) - ((((h_stores h) room.toNatClampNeg).toInt64) * ((rC_planned c h 2 room hour).toInt64))) then ((((h_mosts h) 1) room.toNatClampNeg).toInt64) else (((c_heat c) room.toNatClampNeg) - ((((h_stores h) room.toNatClampNeg).toInt64) * ((rC_planned c h 2 room hour).toInt64)))))) (c_warmth c) (c_given c) (c_taken c) (c_greatest c) (c_uneasy c) h) rfl ?_
      refine kw_aload_n C 3 dC_coolDown_75 rfl rfl ?_
      refine kw_get (v := .ref (ac 4)) C 0 rfl rfl ku_C 5 (by decide) kt_130 rfl dC_coolDown_76 ?_
      refine kw_iload_n C 4 dC_coolDown_79 rfl rfl ?_
      refine kw_dup2_11 C dC_coolDown_80 rfl rfl ?_
      refine kw_lald C 4 1 rfl rfl (kix_of hr8) dC_coolDown_81 ?_
      refine kw_lload C 0 dC_coolDown_82 rfl ?_
      refine kw_ladd C dC_coolDown_84 ?_
      refine kw_last C 4 1 rfl rfl (kix_of hr8) dC_coolDown_85 (wC_c k ah ar ac (c_over c) (c_setRoom c) (c_setTried c) (c_setFrom c) (c_mostRoom c) (c_mostTried c) (c_fellShort c) (c_begun c) (c_fromSun c) (c_fromPersons c) (c_goneOut c) (vp_updL (c_heat c) room.toNatClampNeg (((c_heat c) room.toNatClampNeg) - (if ((((h_mosts h) 1) room.toNatClampNeg).toInt64) < (((c_heat c) room.toNatClampNeg) - ((((h_stores h) room.toNatClampNeg).toInt64) * ((rC_planned c h 2 room hour).toInt64))) then ((((h_mosts h) 1) room.toNatClampNeg).toInt64) else (((c_heat c) room.toNatClampNeg) - ((((h_stores h) room.toNatClampNeg).toInt64) * ((rC_planned c h 2 room hour).toInt64)))))) (c_warmth c) (c_given c) (vp_updL (c_taken c) room.toNatClampNeg (((c_taken c) room.toNatClampNeg) + (if ((((h_mosts h) 1) room.toNatClampNeg).toInt64) < (((c_heat c) room.toNatClampNeg) - ((((h_stores h) room.toNatClampNeg).toInt64) * ((rC_planned c h 2 room hour).toInt64))) then ((((h_mosts h) 1) room.toNatClampNeg).toInt64) else (((c_heat c) room.toNatClampNeg) - ((((h_stores h) room.toNatClampNeg).toInt64) * ((rC_planned c h 2 room hour).toInt64)))))) (c_greatest c) (c_uneasy c) h) rfl ?_
      refine kw_eq rfl rfl (show (wC_c k ah ar ac (c_over c) (c_setRoom c) (c_setTried c) (c_setFrom c) (c_mostRoom c) (c_mostTried c) (c_fellShort c) (c_begun c) (c_fromSun c) (c_fromPersons c) (c_goneOut c) (vp_updL (c_heat c) room.toNatClampNeg (((c_heat c) room.toNatClampNeg) - (if ((((h_mosts h) 1) room.toNatClampNeg).toInt64) < (((c_heat c) room.toNatClampNeg) - ((((h_stores h) room.toNatClampNeg).toInt64) * ((rC_planned c h 2 room hour).toInt64))) then ((((h_mosts h) 1) room.toNatClampNeg).toInt64) else (((c_heat c) room.toNatClampNeg) - ((((h_stores h) room.toNatClampNeg).toInt64) * ((rC_planned c h 2 room hour).toInt64)))))) (c_warmth c) (c_given c) (vp_updL (c_taken c) room.toNatClampNeg (((c_taken c) room.toNatClampNeg) + (if ((((h_mosts h) 1) room.toNatClampNeg).toInt64) < (((c_heat c) room.toNatClampNeg) - ((((h_stores h) room.toNatClampNeg).toInt64) * ((rC_planned c h 2 room hour).toInt64))) then ((((h_mosts h) 1) room.toNatClampNeg).toInt64) else (((c_heat c) room.toNatClampNeg) - ((((h_stores h) room.toNatClampNeg).toInt64) * ((rC_planned c h 2 room hour).toInt64)))))) (c_greatest c) (c_uneasy c) h) = (wC k ah ar ac (scC_coolDown c h room hour) h) from by unfold scC_coolDown; rw [if_neg c_1, if_pos c_2]) ?_
      exact kw_vret C hr hlocks dC_coolDown_86
    · skip
      refine kw_eq rfl rfl (show (wC k ah ar ac c h) = (wC k ah ar ac (scC_coolDown c h room hour) h) from by unfold scC_coolDown; rw [if_neg c_1, if_neg c_2]) ?_
      exact kw_vret C hr hlocks dC_coolDown_44
  · skip
    refine kw_eq rfl rfl (show (wC k ah ar ac c h) = (wC k ah ar ac (scC_coolDown c h room hour) h) from by unfold scC_coolDown; rw [if_pos c_1]) ?_
    exact kw_vret C hr hlocks dC_coolDown_14
end
section
noncomputable def scC_beginRoom (c : CS) (h : HS) (room : Int32) (itsHeat : Int64) : CS := ((c_over c), (c_setRoom c), (c_setTried c), (c_setFrom c), (c_mostRoom c), (c_mostTried c), (c_fellShort c), ((c_begun c) + itsHeat), (c_fromSun c), (c_fromPersons c), (c_goneOut c), (vp_updL (c_heat c) room.toNatClampNeg itsHeat), (c_warmth c), (c_given c), (c_taken c), (c_greatest c), (c_uneasy c))
set_option maxRecDepth 100000 in
set_option maxHeartbeats 4000000 in
theorem cC_beginRoom (l : Launch) (D : va_G) (k : Nat → ClassId) (ah : Nat → Nat) (ar : Nat → Nat → Nat) (ac : Nat → Nat) (c : CS) (h : HS) (room : Int32) (itsHeat : Int64) (hr8 : vp_in room 8) : kMv l yC_beginRoom (kwm yC_beginRoom bC_beginRoom 4 none) ({ frames := 0, cells := 0, slots := 0, locals := 0 }) D kcl (kty k) (wC k ah ar ac c h) (wC k ah ar ac (scC_beginRoom c h room itsHeat) h) [.ref (ac 0), .int room, .long itsHeat] := by
  refine k_entry_v (lv0 := [(0, .ref (ac 0)), (1, .int room), (2, .long itsHeat)]) rfl (by decide +kernel) (Nat.le_of_ble_eq_true rfl) rfl ?_
  intro p e s m args below meth c0 C hr hlocks
  refine kw_aload_n C 0 dC_beginRoom_0 rfl rfl ?_
  refine kw_get (v := .ref (ac 1)) C 0 rfl rfl ku_C 2 (by decide) kt_125 rfl dC_beginRoom_1 ?_
  refine kw_iload_n C 1 dC_beginRoom_4 rfl rfl ?_
  refine kw_lload_n C 2 dC_beginRoom_5 rfl rfl ?_
  refine kw_last C 1 1 rfl rfl (kix_of hr8) dC_beginRoom_6 (wC_c k ah ar ac (c_over c) (c_setRoom c) (c_setTried c) (c_setFrom c) (c_mostRoom c) (c_mostTried c) (c_fellShort c) (c_begun c) (c_fromSun c) (c_fromPersons c) (c_goneOut c) (vp_updL (c_heat c) room.toNatClampNeg itsHeat) (c_warmth c) (c_given c) (c_taken c) (c_greatest c) (c_uneasy c) h) rfl ?_
  refine kw_aload_n C 0 dC_beginRoom_7 rfl rfl ?_
  refine kw_dup C dC_beginRoom_8 rfl ?_
  refine kw_get (v := .long (c_begun c)) C 0 rfl rfl ku_C 8 (by decide) kt_136 rfl dC_beginRoom_9 ?_
  refine kw_lload_n C 2 dC_beginRoom_12 rfl rfl ?_
  refine kw_ladd C dC_beginRoom_13 ?_
  refine kw_put C 0 rfl rfl ku_C tC_ok nC 8 (by decide) kt_136 rfl (ty := .long) (by decide +kernel) rfl rfl (Nat.le_of_ble_eq_true rfl) dC_beginRoom_14 (wC_c k ah ar ac (c_over c) (c_setRoom c) (c_setTried c) (c_setFrom c) (c_mostRoom c) (c_mostTried c) (c_fellShort c) ((c_begun c) + itsHeat) (c_fromSun c) (c_fromPersons c) (c_goneOut c) (vp_updL (c_heat c) room.toNatClampNeg itsHeat) (c_warmth c) (c_given c) (c_taken c) (c_greatest c) (c_uneasy c) h) rfl ?_
  refine kw_eq rfl rfl (show (wC_c k ah ar ac (c_over c) (c_setRoom c) (c_setTried c) (c_setFrom c) (c_mostRoom c) (c_mostTried c) (c_fellShort c) ((c_begun c) + itsHeat) (c_fromSun c) (c_fromPersons c) (c_goneOut c) (vp_updL (c_heat c) room.toNatClampNeg itsHeat) (c_warmth c) (c_given c) (c_taken c) (c_greatest c) (c_uneasy c) h) = (wC k ah ar ac (scC_beginRoom c h room itsHeat) h) from by rfl) ?_
  exact kw_vret C hr hlocks dC_beginRoom_17
end
section
noncomputable def scC_trySet (c : CS) (h : HS) (room : Int32) (wanted : Int32) (from_ : Int32) : CS := ((c_over c), room, wanted, from_, (c_mostRoom c), (c_mostTried c), (c_fellShort c), (c_begun c), (c_fromSun c), (c_fromPersons c), (c_goneOut c), (c_heat c), (c_warmth c), (c_given c), (c_taken c), (c_greatest c), (c_uneasy c))
set_option maxRecDepth 100000 in
set_option maxHeartbeats 4000000 in
theorem cC_trySet (l : Launch) (D : va_G) (k : Nat → ClassId) (ah : Nat → Nat) (ar : Nat → Nat → Nat) (ac : Nat → Nat) (c : CS) (h : HS) (room : Int32) (wanted : Int32) (from_ : Int32) : kMv l yC_trySet (kwm yC_trySet bC_trySet 4 none) ({ frames := 0, cells := 0, slots := 0, locals := 0 }) D kcl (kty k) (wC k ah ar ac c h) (wC k ah ar ac (scC_trySet c h room wanted from_) h) [.ref (ac 0), .int room, .int wanted, .int from_] := by
  refine k_entry_v (lv0 := [(0, .ref (ac 0)), (1, .int room), (2, .int wanted), (3, .int from_)]) rfl (by decide +kernel) (Nat.le_of_ble_eq_true rfl) rfl ?_
  intro p e s m args below meth c0 C hr hlocks
  refine kw_aload_n C 0 dC_trySet_0 rfl rfl ?_
  refine kw_iload_n C 1 dC_trySet_1 rfl rfl ?_
  refine kw_put C 0 rfl rfl ku_C tC_ok nC 12 (by decide) kt_144 rfl (ty := .int) (by decide +kernel) rfl rfl (Nat.le_of_ble_eq_true rfl) dC_trySet_2 (wC_c k ah ar ac (c_over c) room (c_setTried c) (c_setFrom c) (c_mostRoom c) (c_mostTried c) (c_fellShort c) (c_begun c) (c_fromSun c) (c_fromPersons c) (c_goneOut c) (c_heat c) (c_warmth c) (c_given c) (c_taken c) (c_greatest c) (c_uneasy c) h) rfl ?_
  refine kw_aload_n C 0 dC_trySet_5 rfl rfl ?_
  refine kw_iload_n C 2 dC_trySet_6 rfl rfl ?_
  refine kw_put C 0 rfl rfl ku_C tC_ok nC 13 (by decide) kt_145 rfl (ty := .int) (by decide +kernel) rfl rfl (Nat.le_of_ble_eq_true rfl) dC_trySet_7 (wC_c k ah ar ac (c_over c) room wanted (c_setFrom c) (c_mostRoom c) (c_mostTried c) (c_fellShort c) (c_begun c) (c_fromSun c) (c_fromPersons c) (c_goneOut c) (c_heat c) (c_warmth c) (c_given c) (c_taken c) (c_greatest c) (c_uneasy c) h) rfl ?_
  refine kw_aload_n C 0 dC_trySet_10 rfl rfl ?_
  refine kw_iload_n C 3 dC_trySet_11 rfl rfl ?_
  refine kw_put C 0 rfl rfl ku_C tC_ok nC 14 (by decide) kt_146 rfl (ty := .int) (by decide +kernel) rfl rfl (Nat.le_of_ble_eq_true rfl) dC_trySet_12 (wC_c k ah ar ac (c_over c) room wanted from_ (c_mostRoom c) (c_mostTried c) (c_fellShort c) (c_begun c) (c_fromSun c) (c_fromPersons c) (c_goneOut c) (c_heat c) (c_warmth c) (c_given c) (c_taken c) (c_greatest c) (c_uneasy c) h) rfl ?_
  refine kw_eq rfl rfl (show (wC_c k ah ar ac (c_over c) room wanted from_ (c_mostRoom c) (c_mostTried c) (c_fellShort c) (c_begun c) (c_fromSun c) (c_fromPersons c) (c_goneOut c) (c_heat c) (c_warmth c) (c_given c) (c_taken c) (c_greatest c) (c_uneasy c) h) = (wC k ah ar ac (scC_trySet c h room wanted from_) h) from by rfl) ?_
  exact kw_vret C hr hlocks dC_trySet_15
end
section
noncomputable def scC_tryMost (c : CS) (h : HS) (room : Int32) (most : Int32) : CS := ((c_over c), (c_setRoom c), (c_setTried c), (c_setFrom c), room, most, (c_fellShort c), (c_begun c), (c_fromSun c), (c_fromPersons c), (c_goneOut c), (c_heat c), (c_warmth c), (c_given c), (c_taken c), (c_greatest c), (c_uneasy c))
set_option maxRecDepth 100000 in
set_option maxHeartbeats 4000000 in
theorem cC_tryMost (l : Launch) (D : va_G) (k : Nat → ClassId) (ah : Nat → Nat) (ar : Nat → Nat → Nat) (ac : Nat → Nat) (c : CS) (h : HS) (room : Int32) (most : Int32) : kMv l yC_tryMost (kwm yC_tryMost bC_tryMost 3 none) ({ frames := 0, cells := 0, slots := 0, locals := 0 }) D kcl (kty k) (wC k ah ar ac c h) (wC k ah ar ac (scC_tryMost c h room most) h) [.ref (ac 0), .int room, .int most] := by
  refine k_entry_v (lv0 := [(0, .ref (ac 0)), (1, .int room), (2, .int most)]) rfl (by decide +kernel) (Nat.le_of_ble_eq_true rfl) rfl ?_
  intro p e s m args below meth c0 C hr hlocks
  refine kw_aload_n C 0 dC_tryMost_0 rfl rfl ?_
  refine kw_iload_n C 1 dC_tryMost_1 rfl rfl ?_
  refine kw_put C 0 rfl rfl ku_C tC_ok nC 15 (by decide) kt_147 rfl (ty := .int) (by decide +kernel) rfl rfl (Nat.le_of_ble_eq_true rfl) dC_tryMost_2 (wC_c k ah ar ac (c_over c) (c_setRoom c) (c_setTried c) (c_setFrom c) room (c_mostTried c) (c_fellShort c) (c_begun c) (c_fromSun c) (c_fromPersons c) (c_goneOut c) (c_heat c) (c_warmth c) (c_given c) (c_taken c) (c_greatest c) (c_uneasy c) h) rfl ?_
  refine kw_aload_n C 0 dC_tryMost_5 rfl rfl ?_
  refine kw_iload_n C 2 dC_tryMost_6 rfl rfl ?_
  refine kw_put C 0 rfl rfl ku_C tC_ok nC 16 (by decide) kt_148 rfl (ty := .int) (by decide +kernel) rfl rfl (Nat.le_of_ble_eq_true rfl) dC_tryMost_7 (wC_c k ah ar ac (c_over c) (c_setRoom c) (c_setTried c) (c_setFrom c) room most (c_fellShort c) (c_begun c) (c_fromSun c) (c_fromPersons c) (c_goneOut c) (c_heat c) (c_warmth c) (c_given c) (c_taken c) (c_greatest c) (c_uneasy c) h) rfl ?_
  refine kw_eq rfl rfl (show (wC_c k ah ar ac (c_over c) (c_setRoom c) (c_setTried c) (c_setFrom c) room most (c_fellShort c) (c_begun c) (c_fromSun c) (c_fromPersons c) (c_goneOut c) (c_heat c) (c_warmth c) (c_given c) (c_taken c) (c_greatest c) (c_uneasy c) h) = (wC k ah ar ac (scC_tryMost c h room most) h) from by rfl) ?_
  exact kw_vret C hr hlocks dC_tryMost_10
end
section
def rC_nextBeginning (c : CS) (h : HS) (hour : Int32) : Int32 := if (rJ_floorMod ((hour * 4) - (c_over c)) 96) = 0 then (c_over c) + 96 else (c_over c) + (rJ_floorMod ((hour * 4) - (c_over c)) 96)
set_option maxRecDepth 100000 in
set_option maxHeartbeats 4000000 in
theorem cC_nextBeginning (l : Launch) (D : va_G) (k : Nat → ClassId) (ah : Nat → Nat) (ar : Nat → Nat → Nat) (ac : Nat → Nat) (c : CS) (h : HS) (hour : Int32) : kMi l yC_nextBeginning (kwm yC_nextBeginning bC_nextBeginning 3 (some .int)) ({ frames := 1, cells := 0, slots := 0, locals := 22 }) D kcl (kty k) (wC k ah ar ac c h) (wC k ah ar ac c h) [.ref (ac 0), .int hour] (rC_nextBeginning c h hour) := by
  refine k_entry_i (lv0 := [(0, .ref (ac 0)), (1, .int hour)]) rfl (by decide +kernel) (Nat.le_of_ble_eq_true rfl) rfl ?_
  intro p e s m args below meth c0 C hr hlocks
  refine kw_iload_n C 1 dC_nextBeginning_0 rfl rfl ?_
  refine kw_iconst (v := 4) C dC_nextBeginning_1 (by decide) ?_
  refine kw_imul C dC_nextBeginning_2 ?_
  refine kw_aload_n C 0 dC_nextBeginning_3 rfl rfl ?_
  refine kw_get (v := .int (c_over c)) C 0 rfl rfl ku_C 1 (by decide) kt_123 rfl dC_nextBeginning_4 ?_
  refine kw_isub C dC_nextBeginning_7 ?_
  refine kw_bipush (v := 96) C dC_nextBeginning_8 (by decide) ?_
  refine kw_callSi (st := []) C (cJ_floorMod l D k ((hour * 4) - (c_over c)) 96 (by decide)) (va_cwS 2 C.1.2.2.2.2 (kgO kt_518 kt_519 kt_11 kt_520) rfl rfl rfl kdJ_floorMod ⟨Nat.le_of_ble_eq_true rfl, Nat.le_of_ble_eq_true rfl⟩) [] rfl rfl rfl rfl (Nat.le_of_ble_eq_true rfl) dC_nextBeginning_10 ⟨Nat.zero_le _, Nat.zero_le _⟩ rfl (wC k ah ar ac c h) rfl ?_
  refine kw_istore_n (lv' := [(2, .int (rJ_floorMod ((hour * 4) - (c_over c)) 96)), (0, .ref (ac 0)), (1, .int hour)]) C dC_nextBeginning_13 rfl (by decide) rfl ?_
  refine kw_aload_n C 1 dC_nextBeginning_14 rfl rfl ?_
  refine kw_get (v := .int (c_over c)) C 0 rfl rfl ku_C 1 (by decide) kt_123 rfl dC_nextBeginning_15 ?_
  refine kw_iload_n C 0 dC_nextBeginning_18 rfl rfl ?_
  refine kw_if_ne (tgt := 27) C dC_nextBeginning_19 (by decide) (fun c_1 => ?_) (fun c_1 => ?_)
  · skip
    refine kw_iload_n C 0 dC_nextBeginning_27 rfl rfl ?_
    refine kw_iadd C dC_nextBeginning_28 ?_
    exact kw_iret C hr hlocks (by unfold rC_nextBeginning; rw [if_neg c_1]) dC_nextBeginning_29
  · skip
    refine kw_bipush (v := 96) C dC_nextBeginning_22 (by decide) ?_
    refine kw_goto (tgt := 28) C dC_nextBeginning_24 (by decide) ?_
    refine kw_iadd C dC_nextBeginning_28 ?_
    exact kw_iret C hr hlocks (by unfold rC_nextBeginning; rw [if_pos c_1]) dC_nextBeginning_29
end
section
theorem klp1 {x : Int32} {N i : Nat} (hx : x = nI N) (hN : N < 2 ^ 31) (hi : i ≤ N) (h : x ≤ nI i) : i = N := by
  rw [hx, nI_leI hN (Nat.lt_of_le_of_lt hi hN)] at h
  omega
theorem klp2 {x : Int32} {N i : Nat} (hx : x = nI N) (hN : N < 2 ^ 31 ∧ i ≤ N) (h : ¬ x ≤ nI i) : i < N := by
  rw [hx, nI_leI hN.1 (Nat.lt_of_le_of_lt hN.2 hN.1)] at h
  omega
abbrev hnR (h : HS) : Nat := (h_rooms h).toNatClampNeg
abbrev hnW (h : HS) : Nat := (h_walls h).toNatClampNeg
abbrev hnN (h : HS) : Nat := (h_windows h).toNatClampNeg
def kInv (h : HS) : Prop := (h_rooms h = nI (hnR h) ∧ hnR h ≤ 8) ∧ (h_walls h = nI (hnW h) ∧ hnW h ≤ 20) ∧ (h_windows h = nI (hnN h) ∧ hnN h ≤ 12) ∧ (∀ w, w < hnW h → vp_in (h_wallFrom h w) 8) ∧ (∀ w, w < hnW h → h_wallTo h w = -1 ∨ vp_in (h_wallTo h w) 8) ∧ (∀ w, w < hnN h → vp_in (h_windowRoom h w) 8) ∧ (∀ w, w < hnN h → vp_in (h_windowSide h w) 4)
theorem kInv_to {h : HS} (hI : kInv h) {w : Nat} (hw : w < hnW h) (hn : ¬ h_wallTo h w = -1) : vp_in (h_wallTo h w) 8 := (hI.2.2.2.2.1 w hw).resolve_left hn
theorem kplan {i : Nat} {hour : Int32} (h1 : i < 8) (h2 : vp_in hour 24) : vp_in (nI i * 24 + hour) 192 := by
  obtain ⟨j, hj, rfl⟩ := vp_in_of h2 (by decide)
  have e : nI i * 24 + nI j = nI (i * 24 + j) := by
    rw [show (24 : Int32) = nI 24 from rfl, pk_mul, nI_add]
  rw [e]
  exact vp_in_nI (by omega) (by decide)
theorem pC_suns (k : Nat → ClassId) (ah : Nat → Nat) (ar : Nat → Nat → Nat) (ac : Nat → Nat) (c : CS) (h : HS) : ∀ j : Nat, j < 4 → (wC k ah ar ac c h)[26 + j]? = some (ar 2 j, .inl (k 0, 24, .inl (h_suns h j)))
  | 0, _ => rfl
  | 1, _ => rfl
  | 2, _ => rfl
  | 3, _ => rfl
  | j + 4, hj => absurd hj (by omega)
noncomputable def bC_sumOf_heat_5 (z : Int64) (c : CS) (h : HS) (i : Nat) : Int64 := z + ((c_heat c) i)
noncomputable def fC_sumOf_heat_5 (c : CS) (h : HS) (n : Nat) : Int64 := Nat.rec (motive := fun _ => Int64) 0 (fun i z => bC_sumOf_heat_5 z c h i) n
set_option maxRecDepth 100000 in
set_option maxHeartbeats 4000000 in
theorem lC_sumOf_heat_5 {l : Launch} {p : Program} {e : Env} {s : State} {m : MethodId} {args : Array Value} {below : List Frame} {meth : Method} {c0 : Code} {D : va_G} {A : Nat → Prop} {Q : State → Prop} (k : Nat → ClassId) (ah : Nat → Nat) (ar : Nat → Nat → Nat) (ac : Nat → Nat) (c : CS) (h : HS)  (hI : kInv h) (C : kC p s m args c0 bC_sumOf "RoomHours$Course" kT D kcl (kty k) A 5) (kk : kW p l e ({ frames := 0, cells := 0, slots := 0, locals := 0 }) s m args below meth c0 D kcl A 5 0 0 Q 30 [(4, .int (nI (hnR h))), (0, .ref (ac 0)), (1, .ref (ac 1)), (2, .long (fC_sumOf_heat_5 c h (hnR h)))] [] (wC k ah ar ac c h)) : ∀ (n i : Nat), i ≤ hnR h → hnR h < i + n → kW p l e ({ frames := 0, cells := 0, slots := 0, locals := 0 }) s m args below meth c0 D kcl A 5 0 0 Q 5 [(4, .int (nI i)), (0, .ref (ac 0)), (1, .ref (ac 1)), (2, .long (fC_sumOf_heat_5 c h i))] [] (wC k ah ar ac c h) := by
  intro n
  induction n with
  | zero => exact fun i h1 h2 => absurd h2 (by omega)
  | succ n ih =>
    intro i hi hin
    have hb8 := hI.1.2
    refine kw_iload C 0 dC_sumOf_5 rfl ?_
    refine kw_aload_n C 1 dC_sumOf_7 rfl rfl ?_
    refine kw_get (v := .ref (ah 0)) C 0 rfl rfl ku_C 0 (by decide) kt_122 rfl dC_sumOf_8 ?_
    refine kw_get (v := .int (h_rooms h)) C 7 rfl rfl ku_H 0 (by decide) kt_35 rfl dC_sumOf_11 ?_
    refine kw_icmp_ge (tgt := 30) C dC_sumOf_14 (by decide) (fun c_1 => ?_) (fun c_1 => ?_)
    · skip
      have e9 : i = hnR h := klp1 hI.1.1 (by omega) hi c_1
      subst e9
      refine kw_sub [0, 1, 2, 3] rfl ?_
      exact kk
    · skip
      have hlt : i < hnR h := klp2 hI.1.1 (by omega) c_1
      refine kw_lload_n C 3 dC_sumOf_17 rfl rfl ?_
      refine kw_aload_n C 2 dC_sumOf_18 rfl rfl ?_
      refine kw_iload C 0 dC_sumOf_19 rfl ?_
      refine kw_lald C 1 1 rfl rfl (kix_nI (by omega) (by decide)) dC_sumOf_21 ?_
      refine kw_ladd C dC_sumOf_22 ?_
      refine kw_lstore_n (lv' := [(2, .long ((fC_sumOf_heat_5 c h i) + ((c_heat c) i))), (4, .int (nI i)), (0, .ref (ac 0)), (1, .ref (ac 1))]) C dC_sumOf_23 rfl (by decide) rfl ?_
      refine kw_iinc (v := nI (i + 1)) (lv' := [(4, .int (nI (i + 1))), (2, .long ((fC_sumOf_heat_5 c h i) + ((c_heat c) i))), (0, .ref (ac 0)), (1, .ref (ac 1))]) C 1 dC_sumOf_24 rfl (nI_1 i) (by decide) rfl ?_
      refine kw_goto (tgt := 5) C dC_sumOf_27 (by decide) ?_
      refine kw_sub [0, 2, 3, 1] rfl ?_
      refine kw_eq (show ([(4, .int (nI (i + 1))), (0, .ref (ac 0)), (1, .ref (ac 1)), (2, .long ((fC_sumOf_heat_5 c h i) + ((c_heat c) i)))] : List (Nat × Value)) = [(4, .int (nI (i + 1))), (0, .ref (ac 0)), (1, .ref (ac 1)), (2, .long (fC_sumOf_heat_5 c h (i + 1)))] from by rfl) rfl rfl ?_
      exact ih (i + 1) (by omega) (by omega)
noncomputable def rC_sumOf_heat (c : CS) (h : HS) : Int64 := (fC_sumOf_heat_5 c h (hnR h))
set_option maxRecDepth 100000 in
set_option maxHeartbeats 4000000 in
theorem cC_sumOf_heat (l : Launch) (D : va_G) (k : Nat → ClassId) (ah : Nat → Nat) (ar : Nat → Nat → Nat) (ac : Nat → Nat) (c : CS) (h : HS)  (hI : kInv h) : kMl l yC_sumOf (kwm yC_sumOf bC_sumOf 5 (some .long)) ({ frames := 0, cells := 0, slots := 0, locals := 0 }) D kcl (kty k) (wC k ah ar ac c h) (wC k ah ar ac c h) [.ref (ac 0), .ref (ac 1)] (rC_sumOf_heat c h) := by
  refine k_entry_l (lv0 := [(0, .ref (ac 0)), (1, .ref (ac 1))]) rfl (by decide +kernel) (Nat.le_of_ble_eq_true rfl) rfl ?_
  intro p e s m args below meth c0 C hr hlocks
  have hb8 := hI.1.2
  refine kw_lconst (v := 0) C dC_sumOf_0 (by decide) ?_
  refine kw_lstore_n (lv' := [(2, .long 0), (0, .ref (ac 0)), (1, .ref (ac 1))]) C dC_sumOf_1 rfl (by decide) rfl ?_
  refine kw_iconst (v := 0) C dC_sumOf_2 (by decide) ?_
  refine kw_istore (lv' := [(4, .int 0), (2, .long 0), (0, .ref (ac 0)), (1, .ref (ac 1))]) C dC_sumOf_3 (by decide) rfl ?_
  refine kw_sub [0, 2, 3, 1] rfl ?_
  refine lC_sumOf_heat_5 k ah ar ac c h hI C ?_ (hnR h + 1) 0 (Nat.zero_le _) (by omega)
  refine kw_lload_n C 3 dC_sumOf_30 rfl rfl ?_
  exact kw_lret C hr hlocks rfl dC_sumOf_31
end
section
noncomputable def bC_sumOf_given_5 (z : Int64) (c : CS) (h : HS) (i : Nat) : Int64 := z + ((c_given c) i)
noncomputable def fC_sumOf_given_5 (c : CS) (h : HS) (n : Nat) : Int64 := Nat.rec (motive := fun _ => Int64) 0 (fun i z => bC_sumOf_given_5 z c h i) n
set_option maxRecDepth 100000 in
set_option maxHeartbeats 4000000 in
theorem lC_sumOf_given_5 {l : Launch} {p : Program} {e : Env} {s : State} {m : MethodId} {args : Array Value} {below : List Frame} {meth : Method} {c0 : Code} {D : va_G} {A : Nat → Prop} {Q : State → Prop} (k : Nat → ClassId) (ah : Nat → Nat) (ar : Nat → Nat → Nat) (ac : Nat → Nat) (c : CS) (h : HS)  (hI : kInv h) (C : kC p s m args c0 bC_sumOf "RoomHours$Course" kT D kcl (kty k) A 5) (kk : kW p l e ({ frames := 0, cells := 0, slots := 0, locals := 0 }) s m args below meth c0 D kcl A 5 0 0 Q 30 [(4, .int (nI (hnR h))), (0, .ref (ac 0)), (1, .ref (ac 3)), (2, .long (fC_sumOf_given_5 c h (hnR h)))] [] (wC k ah ar ac c h)) : ∀ (n i : Nat), i ≤ hnR h → hnR h < i + n → kW p l e ({ frames := 0, cells := 0, slots := 0, locals := 0 }) s m args below meth c0 D kcl A 5 0 0 Q 5 [(4, .int (nI i)), (0, .ref (ac 0)), (1, .ref (ac 3)), (2, .long (fC_sumOf_given_5 c h i))] [] (wC k ah ar ac c h) := by
  intro n
  induction n with
  | zero => exact fun i h1 h2 => absurd h2 (by omega)
  | succ n ih =>
    intro i hi hin
    have hb8 := hI.1.2
    refine kw_iload C 0 dC_sumOf_5 rfl ?_
    refine kw_aload_n C 1 dC_sumOf_7 rfl rfl ?_
    refine kw_get (v := .ref (ah 0)) C 0 rfl rfl ku_C 0 (by decide) kt_122 rfl dC_sumOf_8 ?_
    refine kw_get (v := .int (h_rooms h)) C 7 rfl rfl ku_H 0 (by decide) kt_35 rfl dC_sumOf_11 ?_
    refine kw_icmp_ge (tgt := 30) C dC_sumOf_14 (by decide) (fun c_1 => ?_) (fun c_1 => ?_)
    · skip
      have e9 : i = hnR h := klp1 hI.1.1 (by omega) hi c_1
      subst e9
      refine kw_sub [0, 1, 2, 3] rfl ?_
      exact kk
    · skip
      have hlt : i < hnR h := klp2 hI.1.1 (by omega) c_1
      refine kw_lload_n C 3 dC_sumOf_17 rfl rfl ?_
      refine kw_aload_n C 2 dC_sumOf_18 rfl rfl ?_
      refine kw_iload C 0 dC_sumOf_19 rfl ?_
      refine kw_lald C 3 1 rfl rfl (kix_nI (by omega) (by decide)) dC_sumOf_21 ?_
      refine kw_ladd C dC_sumOf_22 ?_
      refine kw_lstore_n (lv' := [(2, .long ((fC_sumOf_given_5 c h i) + ((c_given c) i))), (4, .int (nI i)), (0, .ref (ac 0)), (1, .ref (ac 3))]) C dC_sumOf_23 rfl (by decide) rfl ?_
      refine kw_iinc (v := nI (i + 1)) (lv' := [(4, .int (nI (i + 1))), (2, .long ((fC_sumOf_given_5 c h i) + ((c_given c) i))), (0, .ref (ac 0)), (1, .ref (ac 3))]) C 1 dC_sumOf_24 rfl (nI_1 i) (by decide) rfl ?_
      refine kw_goto (tgt := 5) C dC_sumOf_27 (by decide) ?_
      refine kw_sub [0, 2, 3, 1] rfl ?_
      refine kw_eq (show ([(4, .int (nI (i + 1))), (0, .ref (ac 0)), (1, .ref (ac 3)), (2, .long ((fC_sumOf_given_5 c h i) + ((c_given c) i)))] : List (Nat × Value)) = [(4, .int (nI (i + 1))), (0, .ref (ac 0)), (1, .ref (ac 3)), (2, .long (fC_sumOf_given_5 c h (i + 1)))] from by rfl) rfl rfl ?_
      exact ih (i + 1) (by omega) (by omega)
noncomputable def rC_sumOf_given (c : CS) (h : HS) : Int64 := (fC_sumOf_given_5 c h (hnR h))
set_option maxRecDepth 100000 in
set_option maxHeartbeats 4000000 in
theorem cC_sumOf_given (l : Launch) (D : va_G) (k : Nat → ClassId) (ah : Nat → Nat) (ar : Nat → Nat → Nat) (ac : Nat → Nat) (c : CS) (h : HS)  (hI : kInv h) : kMl l yC_sumOf (kwm yC_sumOf bC_sumOf 5 (some .long)) ({ frames := 0, cells := 0, slots := 0, locals := 0 }) D kcl (kty k) (wC k ah ar ac c h) (wC k ah ar ac c h) [.ref (ac 0), .ref (ac 3)] (rC_sumOf_given c h) := by
  refine k_entry_l (lv0 := [(0, .ref (ac 0)), (1, .ref (ac 3))]) rfl (by decide +kernel) (Nat.le_of_ble_eq_true rfl) rfl ?_
  intro p e s m args below meth c0 C hr hlocks
  have hb8 := hI.1.2
  refine kw_lconst (v := 0) C dC_sumOf_0 (by decide) ?_
  refine kw_lstore_n (lv' := [(2, .long 0), (0, .ref (ac 0)), (1, .ref (ac 3))]) C dC_sumOf_1 rfl (by decide) rfl ?_
  refine kw_iconst (v := 0) C dC_sumOf_2 (by decide) ?_
  refine kw_istore (lv' := [(4, .int 0), (2, .long 0), (0, .ref (ac 0)), (1, .ref (ac 3))]) C dC_sumOf_3 (by decide) rfl ?_
  refine kw_sub [0, 2, 3, 1] rfl ?_
  refine lC_sumOf_given_5 k ah ar ac c h hI C ?_ (hnR h + 1) 0 (Nat.zero_le _) (by omega)
  refine kw_lload_n C 3 dC_sumOf_30 rfl rfl ?_
  exact kw_lret C hr hlocks rfl dC_sumOf_31
end
section
noncomputable def bC_sumOf_taken_5 (z : Int64) (c : CS) (h : HS) (i : Nat) : Int64 := z + ((c_taken c) i)
noncomputable def fC_sumOf_taken_5 (c : CS) (h : HS) (n : Nat) : Int64 := Nat.rec (motive := fun _ => Int64) 0 (fun i z => bC_sumOf_taken_5 z c h i) n
set_option maxRecDepth 100000 in
set_option maxHeartbeats 4000000 in
theorem lC_sumOf_taken_5 {l : Launch} {p : Program} {e : Env} {s : State} {m : MethodId} {args : Array Value} {below : List Frame} {meth : Method} {c0 : Code} {D : va_G} {A : Nat → Prop} {Q : State → Prop} (k : Nat → ClassId) (ah : Nat → Nat) (ar : Nat → Nat → Nat) (ac : Nat → Nat) (c : CS) (h : HS)  (hI : kInv h) (C : kC p s m args c0 bC_sumOf "RoomHours$Course" kT D kcl (kty k) A 5) (kk : kW p l e ({ frames := 0, cells := 0, slots := 0, locals := 0 }) s m args below meth c0 D kcl A 5 0 0 Q 30 [(4, .int (nI (hnR h))), (0, .ref (ac 0)), (1, .ref (ac 4)), (2, .long (fC_sumOf_taken_5 c h (hnR h)))] [] (wC k ah ar ac c h)) : ∀ (n i : Nat), i ≤ hnR h → hnR h < i + n → kW p l e ({ frames := 0, cells := 0, slots := 0, locals := 0 }) s m args below meth c0 D kcl A 5 0 0 Q 5 [(4, .int (nI i)), (0, .ref (ac 0)), (1, .ref (ac 4)), (2, .long (fC_sumOf_taken_5 c h i))] [] (wC k ah ar ac c h) := by
  intro n
  induction n with
  | zero => exact fun i h1 h2 => absurd h2 (by omega)
  | succ n ih =>
    intro i hi hin
    have hb8 := hI.1.2
    refine kw_iload C 0 dC_sumOf_5 rfl ?_
    refine kw_aload_n C 1 dC_sumOf_7 rfl rfl ?_
    refine kw_get (v := .ref (ah 0)) C 0 rfl rfl ku_C 0 (by decide) kt_122 rfl dC_sumOf_8 ?_
    refine kw_get (v := .int (h_rooms h)) C 7 rfl rfl ku_H 0 (by decide) kt_35 rfl dC_sumOf_11 ?_
    refine kw_icmp_ge (tgt := 30) C dC_sumOf_14 (by decide) (fun c_1 => ?_) (fun c_1 => ?_)
    · skip
      have e9 : i = hnR h := klp1 hI.1.1 (by omega) hi c_1
      subst e9
      refine kw_sub [0, 1, 2, 3] rfl ?_
      exact kk
    · skip
      have hlt : i < hnR h := klp2 hI.1.1 (by omega) c_1
      refine kw_lload_n C 3 dC_sumOf_17 rfl rfl ?_
      refine kw_aload_n C 2 dC_sumOf_18 rfl rfl ?_
      refine kw_iload C 0 dC_sumOf_19 rfl ?_
      refine kw_lald C 4 1 rfl rfl (kix_nI (by omega) (by decide)) dC_sumOf_21 ?_
      refine kw_ladd C dC_sumOf_22 ?_
      refine kw_lstore_n (lv' := [(2, .long ((fC_sumOf_taken_5 c h i) + ((c_taken c) i))), (4, .int (nI i)), (0, .ref (ac 0)), (1, .ref (ac 4))]) C dC_sumOf_23 rfl (by decide) rfl ?_
      refine kw_iinc (v := nI (i + 1)) (lv' := [(4, .int (nI (i + 1))), (2, .long ((fC_sumOf_taken_5 c h i) + ((c_taken c) i))), (0, .ref (ac 0)), (1, .ref (ac 4))]) C 1 dC_sumOf_24 rfl (nI_1 i) (by decide) rfl ?_
      refine kw_goto (tgt := 5) C dC_sumOf_27 (by decide) ?_
      refine kw_sub [0, 2, 3, 1] rfl ?_
      refine kw_eq (show ([(4, .int (nI (i + 1))), (0, .ref (ac 0)), (1, .ref (ac 4)), (2, .long ((fC_sumOf_taken_5 c h i) + ((c_taken c) i)))] : List (Nat × Value)) = [(4, .int (nI (i + 1))), (0, .ref (ac 0)), (1, .ref (ac 4)), (2, .long (fC_sumOf_taken_5 c h (i + 1)))] from by rfl) rfl rfl ?_
      exact ih (i + 1) (by omega) (by omega)
noncomputable def rC_sumOf_taken (c : CS) (h : HS) : Int64 := (fC_sumOf_taken_5 c h (hnR h))
set_option maxRecDepth 100000 in
set_option maxHeartbeats 4000000 in
theorem cC_sumOf_taken (l : Launch) (D : va_G) (k : Nat → ClassId) (ah : Nat → Nat) (ar : Nat → Nat → Nat) (ac : Nat → Nat) (c : CS) (h : HS)  (hI : kInv h) : kMl l yC_sumOf (kwm yC_sumOf bC_sumOf 5 (some .long)) ({ frames := 0, cells := 0, slots := 0, locals := 0 }) D kcl (kty k) (wC k ah ar ac c h) (wC k ah ar ac c h) [.ref (ac 0), .ref (ac 4)] (rC_sumOf_taken c h) := by
  refine k_entry_l (lv0 := [(0, .ref (ac 0)), (1, .ref (ac 4))]) rfl (by decide +kernel) (Nat.le_of_ble_eq_true rfl) rfl ?_
  intro p e s m args below meth c0 C hr hlocks
  have hb8 := hI.1.2
  refine kw_lconst (v := 0) C dC_sumOf_0 (by decide) ?_
  refine kw_lstore_n (lv' := [(2, .long 0), (0, .ref (ac 0)), (1, .ref (ac 4))]) C dC_sumOf_1 rfl (by decide) rfl ?_
  refine kw_iconst (v := 0) C dC_sumOf_2 (by decide) ?_
  refine kw_istore (lv' := [(4, .int 0), (2, .long 0), (0, .ref (ac 0)), (1, .ref (ac 4))]) C dC_sumOf_3 (by decide) rfl ?_
  refine kw_sub [0, 2, 3, 1] rfl ?_
  refine lC_sumOf_taken_5 k ah ar ac c h hI C ?_ (hnR h + 1) 0 (Nat.zero_le _) (by omega)
  refine kw_lload_n C 3 dC_sumOf_30 rfl rfl ?_
  exact kw_lret C hr hlocks rfl dC_sumOf_31
end
section
noncomputable def bC_passWalls_2 (z : CS) (c : CS) (h : HS) (hour : Int32) (i : Nat) : CS := if ((h_wallTo h) i) = (-1) then ((c_over z), (c_setRoom z), (c_setTried z), (c_setFrom z), (c_mostRoom z), (c_mostTried z), (c_fellShort z), (c_begun z), (c_fromSun z), (c_fromPersons z), ((c_goneOut z) + (((((c_warmth z) (((h_wallFrom h) i).toNatClampNeg)) - (((h_outsides h) hour.toNatClampNeg).toInt64)) * (((h_wallLeads h) i).toInt64)) / 100)), (vp_updL (c_heat z) (((h_wallFrom h) i).toNatClampNeg) (((c_heat z) (((h_wallFrom h) i).toNatClampNeg)) - (((((c_warmth z) (((h_wallFrom h) i).toNatClampNeg)) - (((h_outsides h) hour.toNatClampNeg).toInt64)) * (((h_wallLeads h) i).toInt64)) / 100))), (c_warmth z), (c_given z), (c_taken z), (c_greatest z), (c_uneasy z)) else ((c_over z), (c_setRoom z), (c_setTried z), (c_setFrom z), (c_mostRoom z), (c_mostTried z), (c_fellShort z), (c_begun z), (c_fromSun z), (c_fromPersons z), (c_goneOut z), (vp_updL (vp_updL (c_heat z) (((h_wallFrom h) i).toNatClampNeg) (((c_heat z) (((h_wallFrom h) i).toNatClampNeg)) - (((((c_warmth z) (((h_wallFrom h) i).toNatClampNeg)) - ((c_warmth z) (((h_wallTo h) i).toNatClampNeg))) * (((h_wallLeads h) i).toInt64)) / 100))) (((h_wallTo h) i).toNatClampNeg) (((vp_updL (c_heat z) (((h_wallFrom h) i).toNatClampNeg) (((c_heat z) (((h_wallFrom h) i).toNatClampNeg)) - (((((c_warmth z) (((h_wallFrom h) i).toNatClampNeg)) - ((c_warmth z) (((h_wallTo h) i).toNatClampNeg))) * (((h_wallLeads h) i).toInt64)) / 100))) (((h_wallTo h) i).toNatClampNeg)) + (((((c_warmth z) (((h_wallFrom h) i).toNatClampNeg)) - ((c_warmth z) (((h_wallTo h) i).toNatClampNeg))) * (((h_wallLeads h) i).toInt64)) / 100))), (c_warmth z), (c_given z), (c_taken z), (c_greatest z), (c_uneasy z))
noncomputable def fC_passWalls_2 (c : CS) (h : HS) (hour : Int32) (n : Nat) : CS := Nat.rec (motive := fun _ => CS) c (fun i z => bC_passWalls_2 z c h hour i) n
set_option maxRecDepth 100000 in
set_option maxHeartbeats 4000000 in
theorem lC_passWalls_2 {l : Launch} {p : Program} {e : Env} {s : State} {m : MethodId} {args : Array Value} {below : List Frame} {meth : Method} {c0 : Code} {D : va_G} {A : Nat → Prop} {Q : State → Prop} (k : Nat → ClassId) (ah : Nat → Nat) (ar : Nat → Nat → Nat) (ac : Nat → Nat) (c : CS) (h : HS) (hour : Int32) (hI : kInv h) (hh : vp_in hour 24) (C : kC p s m args c0 bC_passWalls "RoomHours$Course" kT D kcl (kty k) A 9) (kk : kW p l e ({ frames := 0, cells := 0, slots := 0, locals := 0 }) s m args below meth c0 D kcl A 9 0 0 Q 137 [(2, .int (nI (hnW h))), (0, .ref (ac 0)), (1, .int hour)] [] (wC k ah ar ac (fC_passWalls_2 c h hour (hnW h)) h)) : ∀ (n i : Nat), i ≤ hnW h → hnW h < i + n → kW p l e ({ frames := 0, cells := 0, slots := 0, locals := 0 }) s m args below meth c0 D kcl A 9 0 0 Q 2 [(2, .int (nI i)), (0, .ref (ac 0)), (1, .int hour)] [] (wC k ah ar ac (fC_passWalls_2 c h hour i) h) := by
  intro n
  induction n with
  | zero => exact fun i h1 h2 => absurd h2 (by omega)
  | succ n ih =>
    intro i hi hin
    have hb8 := hI.2.1.2
    refine kw_iload_n C 0 dC_passWalls_2 rfl rfl ?_
    refine kw_aload_n C 1 dC_passWalls_3 rfl rfl ?_
    refine kw_get (v := .ref (ah 0)) C 0 rfl rfl ku_C 0 (by decide) kt_122 rfl dC_passWalls_4 ?_
    refine kw_get (v := .int (h_walls h)) C 7 rfl rfl ku_H 5 (by decide) kt_47 rfl dC_passWalls_7 ?_
    refine kw_icmp_ge (tgt := 137) C dC_passWalls_10 (by decide) (fun c_1 => ?_) (fun c_1 => ?_)
    · skip
      have e9 : i = hnW h := klp1 hI.2.1.1 (by omega) hi c_1
      subst e9
      refine kw_sub [0, 1, 2] rfl ?_
      exact kk
    · skip
      have hlt : i < hnW h := klp2 hI.2.1.1 (by omega) c_1
      refine kw_aload_n C 1 dC_passWalls_13 rfl rfl ?_
      refine kw_get (v := .ref (ah 0)) C 0 rfl rfl ku_C 0 (by decide) kt_122 rfl dC_passWalls_14 ?_
      refine kw_get (v := .ref (ah 5)) C 7 rfl rfl ku_H 6 (by decide) kt_50 rfl dC_passWalls_17 ?_
      refine kw_iload_n C 0 dC_passWalls_20 rfl rfl ?_
      refine kw_iald C 10 0 rfl rfl (kix_nI (by omega) (by decide)) dC_passWalls_21 ?_
      refine kw_istore_n (lv' := [(3, .int ((h_wallFrom h) i)), (2, .int (nI i)), (0, .ref (ac 0)), (1, .int hour)]) C dC_passWalls_22 rfl (by decide) rfl ?_
      refine kw_aload_n C 2 dC_passWalls_23 rfl rfl ?_
      refine kw_get (v := .ref (ah 0)) C 0 rfl rfl ku_C 0 (by decide) kt_122 rfl dC_passWalls_24 ?_
      refine kw_get (v := .ref (ah 6)) C 7 rfl rfl ku_H 7 (by decide) kt_53 rfl dC_passWalls_27 ?_
      refine kw_iload_n C 1 dC_passWalls_30 rfl rfl ?_
      refine kw_iald C 11 0 rfl rfl (kix_nI (by omega) (by decide)) dC_passWalls_31 ?_
      refine kw_istore (lv' := [(4, .int ((h_wallTo h) i)), (3, .int ((h_wallFrom h) i)), (2, .int (nI i)), (0, .ref (ac 0)), (1, .int hour)]) C dC_passWalls_32 (by decide) rfl ?_
      refine kw_iload C 0 dC_passWalls_34 rfl ?_
      refine kw_iconst (v := -1) C dC_passWalls_36 (by decide) ?_
      refine kw_icmp_ne (tgt := 53) C dC_passWalls_37 (by decide) (fun c_2 => ?_) (fun c_2 => ?_)
      · skip
        refine kw_aload_n C 3 dC_passWalls_53 rfl rfl ?_
        refine kw_get (v := .ref (ac 2)) C 0 rfl rfl ku_C 3 (by decide) kt_127 rfl dC_passWalls_54 ?_
        refine kw_iload C 0 dC_passWalls_57 rfl ?_
        refine kw_lald C 2 1 rfl rfl (kix_of (kInv_to hI hlt c_2)) dC_passWalls_59 ?_
        refine kw_lstore (lv' := [(5, .long ((c_warmth (fC_passWalls_2 c h hour i)) (((h_wallTo h) i).toNatClampNeg))), (4, .int ((h_wallTo h) i)), (3, .int ((h_wallFrom h) i)), (2, .int (nI i)), (0, .ref (ac 0)), (1, .int hour)]) C dC_passWalls_60 (by decide) rfl ?_
        refine kw_aload_n C 4 dC_passWalls_62 rfl rfl ?_
        refine kw_get (v := .ref (ac 2)) C 0 rfl rfl ku_C 3 (by decide) kt_127 rfl dC_passWalls_63 ?_
        refine kw_iload_n C 2 dC_passWalls_66 rfl rfl ?_
        refine kw_lald C 2 1 rfl rfl (kix_of (hI.2.2.2.1 i hlt)) dC_passWalls_67 ?_
        refine kw_lload C 0 dC_passWalls_68 rfl ?_
        refine kw_lsub C dC_passWalls_70 ?_
        refine kw_aload_n C 4 dC_passWalls_71 rfl rfl ?_
        refine kw_get (v := .ref (ah 0)) C 0 rfl rfl ku_C 0 (by decide) kt_122 rfl dC_passWalls_72 ?_
        refine kw_get (v := .ref (ah 7)) C 7 rfl rfl ku_H 8 (by decide) kt_56 rfl dC_passWalls_75 ?_
        refine kw_iload_n C 3 dC_passWalls_78 rfl rfl ?_
        refine kw_iald C 12 0 rfl rfl (kix_nI (by omega) (by decide)) dC_passWalls_79 ?_
        refine kw_i2l C dC_passWalls_80 ?_
        refine kw_lmul C dC_passWalls_81 ?_
        refine kw_ldc2 (v := 100) C kt_437 dC_passWalls_82 ?_
        refine kw_ldiv C dC_passWalls_85 (by decide) ?_
        refine kw_lstore (lv' := [(7, .long (((((c_warmth (fC_passWalls_2 c h hour i)) (((h_wallFrom h) i).toNatClampNeg)) - ((c_warmth (fC_passWalls_2 c h hour i)) (((h_wallTo h) i).toNatClampNeg))) * (((h_wallLeads h) i).toInt64)) / 100)), (5, .long ((c_warmth (fC_passWalls_2 c h hour i)) (((h_wallTo h) i).toNatClampNeg))), (4, .int ((h_wallTo h) i)), (3, .int ((h_wallFrom h) i)), (2, .int (nI i)), (0, .ref (ac 0)), (1, .int hour)]) C dC_passWalls_86 (by decide) rfl ?_
        refine kw_aload_n C 5 dC_passWalls_88 rfl rfl ?_
        refine kw_get (v := .ref (ac 1)) C 0 rfl rfl ku_C 2 (by decide) kt_125 rfl dC_passWalls_89 ?_
        refine kw_iload_n C 3 dC_passWalls_92 rfl rfl ?_
        refine kw_dup2_11 C dC_passWalls_93 rfl rfl ?_
        refine kw_lald C 1 1 rfl rfl (kix_of (hI.2.2.2.1 i hlt)) dC_passWalls_94 ?_
        refine kw_lload C 0 dC_passWalls_95 rfl ?_
        refine kw_lsub C dC_passWalls_97 ?_
        refine kw_last C 1 1 rfl rfl (kix_of (hI.2.2.2.1 i hlt)) dC_passWalls_98 (wC_c k ah ar ac (c_over (fC_passWalls_2 c h hour i)) (c_setRoom (fC_passWalls_2 c h hour i)) (c_setTried (fC_passWalls_2 c h hour i)) (c_setFrom (fC_passWalls_2 c h hour i)) (c_mostRoom (fC_passWalls_2 c h hour i)) (c_mostTried (fC_passWalls_2 c h hour i)) (c_fellShort (fC_passWalls_2 c h hour i)) (c_begun (fC_passWalls_2 c h hour i)) (c_fromSun (fC_passWalls_2 c h hour i)) (c_fromPersons (fC_passWalls_2 c h hour i)) (c_goneOut (fC_passWalls_2 c h hour i)) (vp_updL (c_heat (fC_passWalls_2 c h hour i)) (((h_wallFrom h) i).toNatClampNeg) (((c_heat (fC_passWalls_2 c h hour i)) (((h_wallFrom h) i).toNatClampNeg)) - (((((c_warmth (fC_passWalls_2 c h hour i)) (((h_wallFrom h) i).toNatClampNeg)) - ((c_warmth (fC_passWalls_2 c h hour i)) (((h_wallTo h) i).toNatClampNeg))) * (((h_wallLeads h) i).toInt64)) / 100))) (c_warmth (fC_passWalls_2 c h hour i)) (c_given (fC_passWalls_2 c h hour i)) (c_taken (fC_passWalls_2 c h hour i)) (c_greatest (fC_passWalls_2 c h hour i)) (c_uneasy (fC_passWalls_2 c h hour i)) h) rfl ?_
        refine kw_iload C 2 dC_passWalls_99 rfl ?_
        refine kw_iconst (v := -1) C dC_passWalls_101 (by decide) ?_
        refine kw_icmp_ne (tgt := 119) C dC_passWalls_102 (by decide) (fun c_3 => ?_) (fun c_3 => ?_)
        · skip
          refine kw_aload_n C 5 dC_passWalls_119 rfl rfl ?_
          refine kw_get (v := .ref (ac 1)) C 0 rfl rfl ku_C 2 (by decide) kt_125 rfl dC_passWalls_120 ?_
          refine kw_iload C 2 dC_passWalls_123 rfl ?_
          refine kw_dup2_11 C dC_passWalls_125 rfl rfl ?_
          refine kw_lald C 1 1 rfl rfl (kix_of (kInv_to hI hlt c_2)) dC_passWalls_126 ?_
          refine kw_lload C 0 dC_passWalls_127 rfl ?_
          refine kw_ladd C dC_passWalls_129 ?_
          refine kw_last C 1 1 rfl rfl (kix_of (kInv_to hI hlt c_2)) dC_passWalls_130 (wC_c k ah ar ac (c_over (fC_passWalls_2 c h hour i)) (c_setRoom (fC_passWalls_2 c h hour i)) (c_setTried (fC_passWalls_2 c h hour i)) (c_setFrom (fC_passWalls_2 c h hour i)) (c_mostRoom (fC_passWalls_2 c h hour i)) (c_mostTried (fC_passWalls_2 c h hour i)) (c_fellShort (fC_passWalls_2 c h hour i)) (c_begun (fC_passWalls_2 c h hour i)) (c_fromSun (fC_passWalls_2 c h hour i)) (c_fromPersons (fC_passWalls_2 c h hour i)) (c_goneOut (fC_passWalls_2 c h hour i)) (vp_updL (vp_updL (c_heat (fC_passWalls_2 c h hour i)) (((h_wallFrom h) i).toNatClampNeg) (((c_heat (fC_passWalls_2 c h hour i)) (((h_wallFrom h) i).toNatClampNeg)) - (((((c_warmth (fC_passWalls_2 c h hour i)) (((h_wallFrom h) i).toNatClampNeg)) - ((c_warmth (fC_passWalls_2 c h hour i)) (((h_wallTo h) i).toNatClampNeg))) * (((h_wallLeads h) i).toInt64)) / 100))) (((h_wallTo h) i).toNatClampNeg) (((vp_updL (c_heat (fC_passWalls_2 c h hour i)) (((h_wallFrom h) i).toNatClampNeg) (((c_heat (fC_passWalls_2 c h hour i)) (((h_wallFrom h) i).toNatClampNeg)) - (((((c_warmth (fC_passWalls_2 c h hour i)) (((h_wallFrom h) i).toNatClampNeg)) - ((c_warmth (fC_passWalls_2 c h hour i)) (((h_wallTo h) i).toNatClampNeg))) * (((h_wallLeads h) i).toInt64)) / 100))) (((h_wallTo h) i).toNatClampNeg)) + (((((c_warmth (fC_passWalls_2 c h hour i)) (((h_wallFrom h) i).toNatClampNeg)) - ((c_warmth (fC_passWalls_2 c h hour i)) (((h_wallTo h) i).toNatClampNeg))) * (((h_wallLeads h) i).toInt64)) / 100))) (c_warmth (fC_passWalls_2 c h hour i)) (c_given (fC_passWalls_2 c h hour i)) (c_taken (fC_passWalls_2 c h hour i)) (c_greatest (fC_passWalls_2 c h hour i)) (c_uneasy (fC_passWalls_2 c h hour i)) h) rfl ?_
          refine kw_iinc (v := nI (i + 1)) (lv' := [(2, .int (nI (i + 1))), (7, .long (((((c_warmth (fC_passWalls_2 c h hour i)) (((h_wallFrom h) i).toNatClampNeg)) - ((c_warmth (fC_passWalls_2 c h hour i)) (((h_wallTo h) i).toNatClampNeg))) * (((h_wallLeads h) i).toInt64)) / 100)), (5, .long ((c_warmth (fC_passWalls_2 c h hour i)) (((h_wallTo h) i).toNatClampNeg))), (4, .int ((h_wallTo h) i)), (3, .int ((h_wallFrom h) i)), (0, .ref (ac 0)), (1, .int hour)]) C 4 dC_passWalls_131 rfl (nI_1 i) (by decide) rfl ?_
          refine kw_goto (tgt := 2) C dC_passWalls_134 (by decide) ?_
          refine kw_sub [0, 5, 6] rfl ?_
          refine kw_eq rfl rfl (show (wC_c k ah ar ac (c_over (fC_passWalls_2 c h hour i)) (c_setRoom (fC_passWalls_2 c h hour i)) (c_setTried (fC_passWalls_2 c h hour i)) (c_setFrom (fC_passWalls_2 c h hour i)) (c_mostRoom (fC_passWalls_2 c h hour i)) (c_mostTried (fC_passWalls_2 c h hour i)) (c_fellShort (fC_passWalls_2 c h hour i)) (c_begun (fC_passWalls_2 c h hour i)) (c_fromSun (fC_passWalls_2 c h hour i)) (c_fromPersons (fC_passWalls_2 c h hour i)) (c_goneOut (fC_passWalls_2 c h hour i)) (vp_updL (vp_updL (c_heat (fC_passWalls_2 c h hour i)) (((h_wallFrom h) i).toNatClampNeg) (((c_heat (fC_passWalls_2 c h hour i)) (((h_wallFrom h) i).toNatClampNeg)) - (((((c_warmth (fC_passWalls_2 c h hour i)) (((h_wallFrom h) i).toNatClampNeg)) - ((c_warmth (fC_passWalls_2 c h hour i)) (((h_wallTo h) i).toNatClampNeg))) * (((h_wallLeads h) i).toInt64)) / 100))) (((h_wallTo h) i).toNatClampNeg) (((vp_updL (c_heat (fC_passWalls_2 c h hour i)) (((h_wallFrom h) i).toNatClampNeg) (((c_heat (fC_passWalls_2 c h hour i)) (((h_wallFrom h) i).toNatClampNeg)) - (((((c_warmth (fC_passWalls_2 c h hour i)) (((h_wallFrom h) i).toNatClampNeg)) - ((c_warmth (fC_passWalls_2 c h hour i)) (((h_wallTo h) i).toNatClampNeg))) * (((h_wallLeads h) i).toInt64)) / 100))) (((h_wallTo h) i).toNatClampNeg)) + (((((c_warmth (fC_passWalls_2 c h hour i)) (((h_wallFrom h) i).toNatClampNeg)) - ((c_warmth (fC_passWalls_2 c h hour i)) (((h_wallTo h) i).toNatClampNeg))) * (((h_wallLeads h) i).toInt64)) / 100))) (c_warmth (fC_passWalls_2 c h hour i)) (c_given (fC_passWalls_2 c h hour i)) (c_taken (fC_passWalls_2 c h hour i)) (c_greatest (fC_passWalls_2 c h hour i)) (c_uneasy (fC_passWalls_2 c h hour i)) h) = (wC k ah ar ac (fC_passWalls_2 c h hour (i + 1)) h) from by show _ = (wC k ah ar ac (bC_passWalls_2 (fC_passWalls_2 c h hour i) c h hour i) h); unfold bC_passWalls_2; rw [if_neg c_2]) ?_
          exact ih (i + 1) (by omega) (by omega)
        · skip
          exact absurd c_3 c_2
      · skip
        refine kw_aload_n C 3 dC_passWalls_40 rfl rfl ?_
        refine kw_get (v := .ref (ah 0)) C 0 rfl rfl ku_C 0 (by decide) kt_122 rfl dC_passWalls_41 ?_
        refine kw_get (v := .ref (ah 12)) C 7 rfl rfl ku_H 14 (by decide) kt_70 rfl dC_passWalls_44 ?_
        refine kw_iload_n C 4 dC_passWalls_47 rfl rfl ?_
        refine kw_iald C 17 0 rfl rfl (kix_of hh) dC_passWalls_48 ?_
        refine kw_i2l C dC_passWalls_49 ?_
        refine kw_goto (tgt := 60) C dC_passWalls_50 (by decide) ?_
        refine kw_lstore (lv' := [(5, .long (((h_outsides h) hour.toNatClampNeg).toInt64)), (4, .int ((h_wallTo h) i)), (3, .int ((h_wallFrom h) i)), (2, .int (nI i)), (0, .ref (ac 0)), (1, .int hour)]) C dC_passWalls_60 (by decide) rfl ?_
        refine kw_aload_n C 4 dC_passWalls_62 rfl rfl ?_
        refine kw_get (v := .ref (ac 2)) C 0 rfl rfl ku_C 3 (by decide) kt_127 rfl dC_passWalls_63 ?_
        refine kw_iload_n C 2 dC_passWalls_66 rfl rfl ?_
        refine kw_lald C 2 1 rfl rfl (kix_of (hI.2.2.2.1 i hlt)) dC_passWalls_67 ?_
        refine kw_lload C 0 dC_passWalls_68 rfl ?_
        refine kw_lsub C dC_passWalls_70 ?_
        refine kw_aload_n C 4 dC_passWalls_71 rfl rfl ?_
        refine kw_get (v := .ref (ah 0)) C 0 rfl rfl ku_C 0 (by decide) kt_122 rfl dC_passWalls_72 ?_
        refine kw_get (v := .ref (ah 7)) C 7 rfl rfl ku_H 8 (by decide) kt_56 rfl dC_passWalls_75 ?_
        refine kw_iload_n C 3 dC_passWalls_78 rfl rfl ?_
        refine kw_iald C 12 0 rfl rfl (kix_nI (by omega) (by decide)) dC_passWalls_79 ?_
        refine kw_i2l C dC_passWalls_80 ?_
        refine kw_lmul C dC_passWalls_81 ?_
        refine kw_ldc2 (v := 100) C kt_437 dC_passWalls_82 ?_
        refine kw_ldiv C dC_passWalls_85 (by decide) ?_
        refine kw_lstore (lv' := [(7, .long (((((c_warmth (fC_passWalls_2 c h hour i)) (((h_wallFrom h) i).toNatClampNeg)) - (((h_outsides h) hour.toNatClampNeg).toInt64)) * (((h_wallLeads h) i).toInt64)) / 100)), (5, .long (((h_outsides h) hour.toNatClampNeg).toInt64)), (4, .int ((h_wallTo h) i)), (3, .int ((h_wallFrom h) i)), (2, .int (nI i)), (0, .ref (ac 0)), (1, .int hour)]) C dC_passWalls_86 (by decide) rfl ?_
        refine kw_aload_n C 5 dC_passWalls_88 rfl rfl ?_
        refine kw_get (v := .ref (ac 1)) C 0 rfl rfl ku_C 2 (by decide) kt_125 rfl dC_passWalls_89 ?_
        refine kw_iload_n C 3 dC_passWalls_92 rfl rfl ?_
        refine kw_dup2_11 C dC_passWalls_93 rfl rfl ?_
        refine kw_lald C 1 1 rfl rfl (kix_of (hI.2.2.2.1 i hlt)) dC_passWalls_94 ?_
        refine kw_lload C 0 dC_passWalls_95 rfl ?_
        refine kw_lsub C dC_passWalls_97 ?_
        refine kw_last C 1 1 rfl rfl (kix_of (hI.2.2.2.1 i hlt)) dC_passWalls_98 (wC_c k ah ar ac (c_over (fC_passWalls_2 c h hour i)) (c_setRoom (fC_passWalls_2 c h hour i)) (c_setTried (fC_passWalls_2 c h hour i)) (c_setFrom (fC_passWalls_2 c h hour i)) (c_mostRoom (fC_passWalls_2 c h hour i)) (c_mostTried (fC_passWalls_2 c h hour i)) (c_fellShort (fC_passWalls_2 c h hour i)) (c_begun (fC_passWalls_2 c h hour i)) (c_fromSun (fC_passWalls_2 c h hour i)) (c_fromPersons (fC_passWalls_2 c h hour i)) (c_goneOut (fC_passWalls_2 c h hour i)) (vp_updL (c_heat (fC_passWalls_2 c h hour i)) (((h_wallFrom h) i).toNatClampNeg) (((c_heat (fC_passWalls_2 c h hour i)) (((h_wallFrom h) i).toNatClampNeg)) - (((((c_warmth (fC_passWalls_2 c h hour i)) (((h_wallFrom h) i).toNatClampNeg)) - (((h_outsides h) hour.toNatClampNeg).toInt64)) * (((h_wallLeads h) i).toInt64)) / 100))) (c_warmth (fC_passWalls_2 c h hour i)) (c_given (fC_passWalls_2 c h hour i)) (c_taken (fC_passWalls_2 c h hour i)) (c_greatest (fC_passWalls_2 c h hour i)) (c_uneasy (fC_passWalls_2 c h hour i)) h) rfl ?_
        refine kw_iload C 2 dC_passWalls_99 rfl ?_
        refine kw_iconst (v := -1) C dC_passWalls_101 (by decide) ?_
        refine kw_icmp_ne (tgt := 119) C dC_passWalls_102 (by decide) (fun c_4 => ?_) (fun c_4 => ?_)
        · skip
          exact absurd c_2 c_4
        · skip
          refine kw_aload_n C 5 dC_passWalls_105 rfl rfl ?_
          refine kw_dup C dC_passWalls_106 rfl ?_
          refine kw_get (v := .long (c_goneOut (fC_passWalls_2 c h hour i))) C 0 rfl rfl ku_C 11 (by decide) kt_143 rfl dC_passWalls_107 ?_
          refine kw_lload C 0 dC_passWalls_110 rfl ?_
          refine kw_ladd C dC_passWalls_112 ?_
          refine kw_put C 0 rfl rfl ku_C tC_ok nC 11 (by decide) kt_143 rfl (ty := .long) (by decide +kernel) rfl rfl (Nat.le_of_ble_eq_true rfl) dC_passWalls_113 (wC_c k ah ar ac (c_over (fC_passWalls_2 c h hour i)) (c_setRoom (fC_passWalls_2 c h hour i)) (c_setTried (fC_passWalls_2 c h hour i)) (c_setFrom (fC_passWalls_2 c h hour i)) (c_mostRoom (fC_passWalls_2 c h hour i)) (c_mostTried (fC_passWalls_2 c h hour i)) (c_fellShort (fC_passWalls_2 c h hour i)) (c_begun (fC_passWalls_2 c h hour i)) (c_fromSun (fC_passWalls_2 c h hour i)) (c_fromPersons (fC_passWalls_2 c h hour i)) ((c_goneOut (fC_passWalls_2 c h hour i)) + (((((c_warmth (fC_passWalls_2 c h hour i)) (((h_wallFrom h) i).toNatClampNeg)) - (((h_outsides h) hour.toNatClampNeg).toInt64)) * (((h_wallLeads h) i).toInt64)) / 100)) (vp_updL (c_heat (fC_passWalls_2 c h hour i)) (((h_wallFrom h) i).toNatClampNeg) (((c_heat (fC_passWalls_2 c h hour i)) (((h_wallFrom h) i).toNatClampNeg)) - (((((c_warmth (fC_passWalls_2 c h hour i)) (((h_wallFrom h) i).toNatClampNeg)) - (((h_outsides h) hour.toNatClampNeg).toInt64)) * (((h_wallLeads h) i).toInt64)) / 100))) (c_warmth (fC_passWalls_2 c h hour i)) (c_given (fC_passWalls_2 c h hour i)) (c_taken (fC_passWalls_2 c h hour i)) (c_greatest (fC_passWalls_2 c h hour i)) (c_uneasy (fC_passWalls_2 c h hour i)) h) rfl ?_
          refine kw_goto (tgt := 131) C dC_passWalls_116 (by decide) ?_
          refine kw_iinc (v := nI (i + 1)) (lv' := [(2, .int (nI (i + 1))), (7, .long (((((c_warmth (fC_passWalls_2 c h hour i)) (((h_wallFrom h) i).toNatClampNeg)) - (((h_outsides h) hour.toNatClampNeg).toInt64)) * (((h_wallLeads h) i).toInt64)) / 100)), (5, .long (((h_outsides h) hour.toNatClampNeg).toInt64)), (4, .int ((h_wallTo h) i)), (3, .int ((h_wallFrom h) i)), (0, .ref (ac 0)), (1, .int hour)]) C 4 dC_passWalls_131 rfl (nI_1 i) (by decide) rfl ?_
          refine kw_goto (tgt := 2) C dC_passWalls_134 (by decide) ?_
          refine kw_sub [0, 5, 6] rfl ?_
          refine kw_eq rfl rfl (show (wC_c k ah ar ac (c_over (fC_passWalls_2 c h hour i)) (c_setRoom (fC_passWalls_2 c h hour i)) (c_setTried (fC_passWalls_2 c h hour i)) (c_setFrom (fC_passWalls_2 c h hour i)) (c_mostRoom (fC_passWalls_2 c h hour i)) (c_mostTried (fC_passWalls_2 c h hour i)) (c_fellShort (fC_passWalls_2 c h hour i)) (c_begun (fC_passWalls_2 c h hour i)) (c_fromSun (fC_passWalls_2 c h hour i)) (c_fromPersons (fC_passWalls_2 c h hour i)) ((c_goneOut (fC_passWalls_2 c h hour i)) + (((((c_warmth (fC_passWalls_2 c h hour i)) (((h_wallFrom h) i).toNatClampNeg)) - (((h_outsides h) hour.toNatClampNeg).toInt64)) * (((h_wallLeads h) i).toInt64)) / 100)) (vp_updL (c_heat (fC_passWalls_2 c h hour i)) (((h_wallFrom h) i).toNatClampNeg) (((c_heat (fC_passWalls_2 c h hour i)) (((h_wallFrom h) i).toNatClampNeg)) - (((((c_warmth (fC_passWalls_2 c h hour i)) (((h_wallFrom h) i).toNatClampNeg)) - (((h_outsides h) hour.toNatClampNeg).toInt64)) * (((h_wallLeads h) i).toInt64)) / 100))) (c_warmth (fC_passWalls_2 c h hour i)) (c_given (fC_passWalls_2 c h hour i)) (c_taken (fC_passWalls_2 c h hour i)) (c_greatest (fC_passWalls_2 c h hour i)) (c_uneasy (fC_passWalls_2 c h hour i)) h) = (wC k ah ar ac (fC_passWalls_2 c h hour (i + 1)) h) from by show _ = (wC k ah ar ac (bC_passWalls_2 (fC_passWalls_2 c h hour i) c h hour i) h); unfold bC_passWalls_2; rw [if_pos c_2]) ?_
          exact ih (i + 1) (by omega) (by omega)
noncomputable def scC_passWalls (c : CS) (h : HS) (hour : Int32) : CS := (fC_passWalls_2 c h hour (hnW h))
set_option maxRecDepth 100000 in
set_option maxHeartbeats 4000000 in
theorem cC_passWalls (l : Launch) (D : va_G) (k : Nat → ClassId) (ah : Nat → Nat) (ar : Nat → Nat → Nat) (ac : Nat → Nat) (c : CS) (h : HS) (hour : Int32) (hI : kInv h) (hh : vp_in hour 24) : kMv l yC_passWalls (kwm yC_passWalls bC_passWalls 9 none) ({ frames := 0, cells := 0, slots := 0, locals := 0 }) D kcl (kty k) (wC k ah ar ac c h) (wC k ah ar ac (scC_passWalls c h hour) h) [.ref (ac 0), .int hour] := by
  refine k_entry_v (lv0 := [(0, .ref (ac 0)), (1, .int hour)]) rfl (by decide +kernel) (Nat.le_of_ble_eq_true rfl) rfl ?_
  intro p e s m args below meth c0 C hr hlocks
  have hb8 := hI.2.1.2
  refine kw_iconst (v := 0) C dC_passWalls_0 (by decide) ?_
  refine kw_istore_n (lv' := [(2, .int 0), (0, .ref (ac 0)), (1, .int hour)]) C dC_passWalls_1 rfl (by decide) rfl ?_
  refine kw_sub [0, 1, 2] rfl ?_
  refine lC_passWalls_2 k ah ar ac c h hour hI hh C ?_ (hnW h + 1) 0 (Nat.zero_le _) (by omega)
  refine kw_eq rfl rfl (show (wC k ah ar ac (fC_passWalls_2 c h hour (hnW h)) h) = (wC k ah ar ac (scC_passWalls c h hour) h) from by rfl) ?_
  exact kw_vret C hr hlocks dC_passWalls_137
end
section
noncomputable def bC_passWindows_2 (z : CS) (c : CS) (h : HS) (hour : Int32) (i : Nat) : CS := if (lg_cmp ((c_warmth z) (((h_windowRoom h) i).toNatClampNeg)) (((h_windowLimit h) i).toInt64)) ≤ 0 then ((c_over z), (c_setRoom z), (c_setTried z), (c_setFrom z), (c_mostRoom z), (c_mostTried z), (c_fellShort z), (c_begun z), ((c_fromSun z) + (((((h_windowArea h) i) * (((h_suns h) (((h_windowSide h) i).toNatClampNeg)) hour.toNatClampNeg)) / 10).toInt64)), (c_fromPersons z), (c_goneOut z), (vp_updL (c_heat z) (((h_windowRoom h) i).toNatClampNeg) (((c_heat z) (((h_windowRoom h) i).toNatClampNeg)) + (((((h_windowArea h) i) * (((h_suns h) (((h_windowSide h) i).toNatClampNeg)) hour.toNatClampNeg)) / 10).toInt64))), (c_warmth z), (c_given z), (c_taken z), (c_greatest z), (c_uneasy z)) else ((c_over z), (c_setRoom z), (c_setTried z), (c_setFrom z), (c_mostRoom z), (c_mostTried z), (c_fellShort z), (c_begun z), ((c_fromSun z) + ((((((h_windowArea h) i) * (((h_suns h) (((h_windowSide h) i).toNatClampNeg)) hour.toNatClampNeg)) / 10) / 4).toInt64)), (c_fromPersons z), (c_goneOut z), (vp_updL (c_heat z) (((h_windowRoom h) i).toNatClampNeg) (((c_heat z) (((h_windowRoom h) i).toNatClampNeg)) + ((((((h_windowArea h) i) * (((h_suns h) (((h_windowSide h) i).toNatClampNeg)) hour.toNatClampNeg)) / 10) / 4).toInt64))), (c_warmth z), (c_given z), (c_taken z), (c_greatest z), (c_uneasy z))
noncomputable def fC_passWindows_2 (c : CS) (h : HS) (hour : Int32) (n : Nat) : CS := Nat.rec (motive := fun _ => CS) c (fun i z => bC_passWindows_2 z c h hour i) n
set_option maxRecDepth 100000 in
set_option maxHeartbeats 4000000 in
theorem lC_passWindows_2 {l : Launch} {p : Program} {e : Env} {s : State} {m : MethodId} {args : Array Value} {below : List Frame} {meth : Method} {c0 : Code} {D : va_G} {A : Nat → Prop} {Q : State → Prop} (k : Nat → ClassId) (ah : Nat → Nat) (ar : Nat → Nat → Nat) (ac : Nat → Nat) (c : CS) (h : HS) (hour : Int32) (hI : kInv h) (hh : vp_in hour 24) (C : kC p s m args c0 bC_passWindows "RoomHours$Course" kT D kcl (kty k) A 5) (kk : kW p l e ({ frames := 0, cells := 0, slots := 0, locals := 0 }) s m args below meth c0 D kcl A 5 0 0 Q 113 [(2, .int (nI (hnN h))), (0, .ref (ac 0)), (1, .int hour)] [] (wC k ah ar ac (fC_passWindows_2 c h hour (hnN h)) h)) : ∀ (n i : Nat), i ≤ hnN h → hnN h < i + n → kW p l e ({ frames := 0, cells := 0, slots := 0, locals := 0 }) s m args below meth c0 D kcl A 5 0 0 Q 2 [(2, .int (nI i)), (0, .ref (ac 0)), (1, .int hour)] [] (wC k ah ar ac (fC_passWindows_2 c h hour i) h) := by
  intro n
  induction n with
  | zero => exact fun i h1 h2 => absurd h2 (by omega)
  | succ n ih =>
    intro i hi hin
    have hb8 := hI.2.2.1.2
    refine kw_iload_n C 0 dC_passWindows_2 rfl rfl ?_
    refine kw_aload_n C 1 dC_passWindows_3 rfl rfl ?_
    refine kw_get (v := .ref (ah 0)) C 0 rfl rfl ku_C 0 (by decide) kt_122 rfl dC_passWindows_4 ?_
    refine kw_get (v := .int (h_windows h)) C 7 rfl rfl ku_H 9 (by decide) kt_59 rfl dC_passWindows_7 ?_
    refine kw_icmp_ge (tgt := 113) C dC_passWindows_10 (by decide) (fun c_1 => ?_) (fun c_1 => ?_)
    · skip
      have e9 : i = hnN h := klp1 hI.2.2.1.1 (by omega) hi c_1
      subst e9
      refine kw_sub [0, 1, 2] rfl ?_
      exact kk
    · skip
      have hlt : i < hnN h := klp2 hI.2.2.1.1 (by omega) c_1
      refine kw_aload_n C 1 dC_passWindows_13 rfl rfl ?_
      refine kw_get (v := .ref (ah 0)) C 0 rfl rfl ku_C 0 (by decide) kt_122 rfl dC_passWindows_14 ?_
      refine kw_get (v := .ref (ah 8)) C 7 rfl rfl ku_H 10 (by decide) kt_61 rfl dC_passWindows_17 ?_
      refine kw_iload_n C 0 dC_passWindows_20 rfl rfl ?_
      refine kw_iald C 13 0 rfl rfl (kix_nI (by omega) (by decide)) dC_passWindows_21 ?_
      refine kw_istore_n (lv' := [(3, .int ((h_windowRoom h) i)), (2, .int (nI i)), (0, .ref (ac 0)), (1, .int hour)]) C dC_passWindows_22 rfl (by decide) rfl ?_
      refine kw_aload_n C 2 dC_passWindows_23 rfl rfl ?_
      refine kw_get (v := .ref (ah 0)) C 0 rfl rfl ku_C 0 (by decide) kt_122 rfl dC_passWindows_24 ?_
      refine kw_get (v := .ref (ah 10)) C 7 rfl rfl ku_H 12 (by decide) kt_65 rfl dC_passWindows_27 ?_
      refine kw_iload_n C 1 dC_passWindows_30 rfl rfl ?_
      refine kw_iald C 15 0 rfl rfl (kix_nI (by omega) (by decide)) dC_passWindows_31 ?_
      refine kw_aload_n C 2 dC_passWindows_32 rfl rfl ?_
      refine kw_get (v := .ref (ah 0)) C 0 rfl rfl ku_C 0 (by decide) kt_122 rfl dC_passWindows_33 ?_
      refine kw_get (v := .ref (ah 13)) C 7 rfl rfl ku_H 15 (by decide) kt_73 rfl dC_passWindows_36 ?_
      refine kw_aload_n C 2 dC_passWindows_39 rfl rfl ?_
      refine kw_get (v := .ref (ah 0)) C 0 rfl rfl ku_C 0 (by decide) kt_122 rfl dC_passWindows_40 ?_
      refine kw_get (v := .ref (ah 9)) C 7 rfl rfl ku_H 11 (by decide) kt_63 rfl dC_passWindows_43 ?_
      refine kw_iload_n C 1 dC_passWindows_46 rfl rfl ?_
      refine kw_iald C 14 0 rfl rfl (kix_nI (by omega) (by decide)) dC_passWindows_47 ?_
      refine kw_aldA (b := ar 2 (((h_windowSide h) i).toNatClampNeg)) C 25 2 rfl rfl (kix_of (hI.2.2.2.2.2.2 i hlt)) (if_pos (kin_lt (hI.2.2.2.2.2.2 i hlt))) dC_passWindows_48 ?_
      refine kw_iload_n C 3 dC_passWindows_49 rfl rfl ?_
      refine kw_iald C (26 + (((h_windowSide h) i).toNatClampNeg)) 0 (pC_suns k ah ar ac _ h _ (kin_lt (hI.2.2.2.2.2.2 i hlt))) rfl (kix_of hh) dC_passWindows_50 ?_
      refine kw_imul C dC_passWindows_51 ?_
      refine kw_bipush (v := 10) C dC_passWindows_52 (by decide) ?_
      refine kw_idiv C dC_passWindows_54 (by decide) ?_
      refine kw_istore (lv' := [(4, .int ((((h_windowArea h) i) * (((h_suns h) (((h_windowSide h) i).toNatClampNeg)) hour.toNatClampNeg)) / 10)), (3, .int ((h_windowRoom h) i)), (2, .int (nI i)), (0, .ref (ac 0)), (1, .int hour)]) C dC_passWindows_55 (by decide) rfl ?_
      refine kw_aload_n C 3 dC_passWindows_57 rfl rfl ?_
      refine kw_get (v := .ref (ac 2)) C 0 rfl rfl ku_C 3 (by decide) kt_127 rfl dC_passWindows_58 ?_
      refine kw_iload_n C 1 dC_passWindows_61 rfl rfl ?_
      refine kw_lald C 2 1 rfl rfl (kix_of (hI.2.2.2.2.2.1 i hlt)) dC_passWindows_62 ?_
      refine kw_aload_n C 3 dC_passWindows_63 rfl rfl ?_
      refine kw_get (v := .ref (ah 0)) C 0 rfl rfl ku_C 0 (by decide) kt_122 rfl dC_passWindows_64 ?_
      refine kw_get (v := .ref (ah 11)) C 7 rfl rfl ku_H 13 (by decide) kt_67 rfl dC_passWindows_67 ?_
      refine kw_iload_n C 2 dC_passWindows_70 rfl rfl ?_
      refine kw_iald C 16 0 rfl rfl (kix_nI (by omega) (by decide)) dC_passWindows_71 ?_
      refine kw_i2l C dC_passWindows_72 ?_
      refine kw_lcmp C dC_passWindows_73 ?_
      refine kw_if_le (tgt := 83) C dC_passWindows_74 (by decide) (fun c_2 => ?_) (fun c_2 => ?_)
      · skip
        refine kw_aload_n C 3 dC_passWindows_83 rfl rfl ?_
        refine kw_get (v := .ref (ac 1)) C 0 rfl rfl ku_C 2 (by decide) kt_125 rfl dC_passWindows_84 ?_
        refine kw_iload_n C 1 dC_passWindows_87 rfl rfl ?_
        refine kw_dup2_11 C dC_passWindows_88 rfl rfl ?_
        refine kw_lald C 1 1 rfl rfl (kix_of (hI.2.2.2.2.2.1 i hlt)) dC_passWindows_89 ?_
        refine kw_iload C 0 dC_passWindows_90 rfl ?_
        refine kw_i2l C dC_passWindows_92 ?_
        refine kw_ladd C dC_passWindows_93 ?_
        refine kw_last C 1 1 rfl rfl (kix_of (hI.2.2.2.2.2.1 i hlt)) dC_passWindows_94 (wC_c k ah ar ac (c_over (fC_passWindows_2 c h hour i)) (c_setRoom (fC_passWindows_2 c h hour i)) (c_setTried (fC_passWindows_2 c h hour i)) (c_setFrom (fC_passWindows_2 c h hour i)) (c_mostRoom (fC_passWindows_2 c h hour i)) (c_mostTried (fC_passWindows_2 c h hour i)) (c_fellShort (fC_passWindows_2 c h hour i)) (c_begun (fC_passWindows_2 c h hour i)) (c_fromSun (fC_passWindows_2 c h hour i)) (c_fromPersons (fC_passWindows_2 c h hour i)) (c_goneOut (fC_passWindows_2 c h hour i)) (vp_updL (c_heat (fC_passWindows_2 c h hour i)) (((h_windowRoom h) i).toNatClampNeg) (((c_heat (fC_passWindows_2 c h hour i)) (((h_windowRoom h) i).toNatClampNeg)) + (((((h_windowArea h) i) * (((h_suns h) (((h_windowSide h) i).toNatClampNeg)) hour.toNatClampNeg)) / 10).toInt64))) (c_warmth (fC_passWindows_2 c h hour i)) (c_given (fC_passWindows_2 c h hour i)) (c_taken (fC_passWindows_2 c h hour i)) (c_greatest (fC_passWindows_2 c h hour i)) (c_uneasy (fC_passWindows_2 c h hour i)) h) rfl ?_
        refine kw_aload_n C 3 dC_passWindows_95 rfl rfl ?_
        refine kw_dup C dC_passWindows_96 rfl ?_
        refine kw_get (v := .long (c_fromSun (fC_passWindows_2 c h hour i))) C 0 rfl rfl ku_C 9 (by decide) kt_139 rfl dC_passWindows_97 ?_
        refine kw_iload C 0 dC_passWindows_100 rfl ?_
        refine kw_i2l C dC_passWindows_102 ?_
        refine kw_ladd C dC_passWindows_103 ?_
        refine kw_put C 0 rfl rfl ku_C tC_ok nC 9 (by decide) kt_139 rfl (ty := .long) (by decide +kernel) rfl rfl (Nat.le_of_ble_eq_true rfl) dC_passWindows_104 (wC_c k ah ar ac (c_over (fC_passWindows_2 c h hour i)) (c_setRoom (fC_passWindows_2 c h hour i)) (c_setTried (fC_passWindows_2 c h hour i)) (c_setFrom (fC_passWindows_2 c h hour i)) (c_mostRoom (fC_passWindows_2 c h hour i)) (c_mostTried (fC_passWindows_2 c h hour i)) (c_fellShort (fC_passWindows_2 c h hour i)) (c_begun (fC_passWindows_2 c h hour i)) ((c_fromSun (fC_passWindows_2 c h hour i)) + (((((h_windowArea h) i) * (((h_suns h) (((h_windowSide h) i).toNatClampNeg)) hour.toNatClampNeg)) / 10).toInt64)) (c_fromPersons (fC_passWindows_2 c h hour i)) (c_goneOut (fC_passWindows_2 c h hour i)) (vp_updL (c_heat (fC_passWindows_2 c h hour i)) (((h_windowRoom h) i).toNatClampNeg) (((c_heat (fC_passWindows_2 c h hour i)) (((h_windowRoom h) i).toNatClampNeg)) + (((((h_windowArea h) i) * (((h_suns h) (((h_windowSide h) i).toNatClampNeg)) hour.toNatClampNeg)) / 10).toInt64))) (c_warmth (fC_passWindows_2 c h hour i)) (c_given (fC_passWindows_2 c h hour i)) (c_taken (fC_passWindows_2 c h hour i)) (c_greatest (fC_passWindows_2 c h hour i)) (c_uneasy (fC_passWindows_2 c h hour i)) h) rfl ?_
        refine kw_iinc (v := nI (i + 1)) (lv' := [(2, .int (nI (i + 1))), (4, .int ((((h_windowArea h) i) * (((h_suns h) (((h_windowSide h) i).toNatClampNeg)) hour.toNatClampNeg)) / 10)), (3, .int ((h_windowRoom h) i)), (0, .ref (ac 0)), (1, .int hour)]) C 2 dC_passWindows_107 rfl (nI_1 i) (by decide) rfl ?_
        refine kw_goto (tgt := 2) C dC_passWindows_110 (by decide) ?_
        refine kw_sub [0, 3, 4] rfl ?_
        refine kw_eq rfl rfl (show (wC_c k ah ar ac (c_over (fC_passWindows_2 c h hour i)) (c_setRoom (fC_passWindows_2 c h hour i)) (c_setTried (fC_passWindows_2 c h hour i)) (c_setFrom (fC_passWindows_2 c h hour i)) (c_mostRoom (fC_passWindows_2 c h hour i)) (c_mostTried (fC_passWindows_2 c h hour i)) (c_fellShort (fC_passWindows_2 c h hour i)) (c_begun (fC_passWindows_2 c h hour i)) ((c_fromSun (fC_passWindows_2 c h hour i)) + (((((h_windowArea h) i) * (((h_suns h) (((h_windowSide h) i).toNatClampNeg)) hour.toNatClampNeg)) / 10).toInt64)) (c_fromPersons (fC_passWindows_2 c h hour i)) (c_goneOut (fC_passWindows_2 c h hour i)) (vp_updL (c_heat (fC_passWindows_2 c h hour i)) (((h_windowRoom h) i).toNatClampNeg) (((c_heat (fC_passWindows_2 c h hour i)) (((h_windowRoom h) i).toNatClampNeg)) + (((((h_windowArea h) i) * (((h_suns h) (((h_windowSide h) i).toNatClampNeg)) hour.toNatClampNeg)) / 10).toInt64))) (c_warmth (fC_passWindows_2 c h hour i)) (c_given (fC_passWindows_2 c h hour i)) (c_taken (fC_passWindows_2 c h hour i)) (c_greatest (fC_passWindows_2 c h hour i)) (c_uneasy (fC_passWindows_2 c h hour i)) h) = (wC k ah ar ac (fC_passWindows_2 c h hour (i + 1)) h) from by show _ = (wC k ah ar ac (bC_passWindows_2 (fC_passWindows_2 c h hour i) c h hour i) h); unfold bC_passWindows_2; rw [if_pos c_2]) ?_
        exact ih (i + 1) (by omega) (by omega)
      · skip
        refine kw_iload C 0 dC_passWindows_77 rfl ?_
        refine kw_iconst (v := 4) C dC_passWindows_79 (by decide) ?_
        refine kw_idiv C dC_passWindows_80 (by decide) ?_
        refine kw_istore (lv' := [(4, .int (((((h_windowArea h) i) * (((h_suns h) (((h_windowSide h) i).toNatClampNeg)) hour.toNatClampNeg)) / 10) / 4)), (3, .int ((h_windowRoom h) i)), (2, .int (nI i)), (0, .ref (ac 0)), (1, .int hour)]) C dC_passWindows_81 (by decide) rfl ?_
        refine kw_aload_n C 3 dC_passWindows_83 rfl rfl ?_
        refine kw_get (v := .ref (ac 1)) C 0 rfl rfl ku_C 2 (by decide) kt_125 rfl dC_passWindows_84 ?_
        refine kw_iload_n C 1 dC_passWindows_87 rfl rfl ?_
        refine kw_dup2_11 C dC_passWindows_88 rfl rfl ?_
        refine kw_lald C 1 1 rfl rfl (kix_of (hI.2.2.2.2.2.1 i hlt)) dC_passWindows_89 ?_
        refine kw_iload C 0 dC_passWindows_90 rfl ?_
        refine kw_i2l C dC_passWindows_92 ?_
        refine kw_ladd C dC_passWindows_93 ?_
        refine kw_last C 1 1 rfl rfl (kix_of (hI.2.2.2.2.2.1 i hlt)) dC_passWindows_94 (wC_c k ah ar ac (c_over (fC_passWindows_2 c h hour i)) (c_setRoom (fC_passWindows_2 c h hour i)) (c_setTried (fC_passWindows_2 c h hour i)) (c_setFrom (fC_passWindows_2 c h hour i)) (c_mostRoom (fC_passWindows_2 c h hour i)) (c_mostTried (fC_passWindows_2 c h hour i)) (c_fellShort (fC_passWindows_2 c h hour i)) (c_begun (fC_passWindows_2 c h hour i)) (c_fromSun (fC_passWindows_2 c h hour i)) (c_fromPersons (fC_passWindows_2 c h hour i)) (c_goneOut (fC_passWindows_2 c h hour i)) (vp_updL (c_heat (fC_passWindows_2 c h hour i)) (((h_windowRoom h) i).toNatClampNeg) (((c_heat (fC_passWindows_2 c h hour i)) (((h_windowRoom h) i).toNatClampNeg)) + ((((((h_windowArea h) i) * (((h_suns h) (((h_windowSide h) i).toNatClampNeg)) hour.toNatClampNeg)) / 10) / 4).toInt64))) (c_warmth (fC_passWindows_2 c h hour i)) (c_given (fC_passWindows_2 c h hour i)) (c_taken (fC_passWindows_2 c h hour i)) (c_greatest (fC_passWindows_2 c h hour i)) (c_uneasy (fC_passWindows_2 c h hour i)) h) rfl ?_
        refine kw_aload_n C 3 dC_passWindows_95 rfl rfl ?_
        refine kw_dup C dC_passWindows_96 rfl ?_
        refine kw_get (v := .long (c_fromSun (fC_passWindows_2 c h hour i))) C 0 rfl rfl ku_C 9 (by decide) kt_139 rfl dC_passWindows_97 ?_
        refine kw_iload C 0 dC_passWindows_100 rfl ?_
        refine kw_i2l C dC_passWindows_102 ?_
        refine kw_ladd C dC_passWindows_103 ?_
        refine kw_put C 0 rfl rfl ku_C tC_ok nC 9 (by decide) kt_139 rfl (ty := .long) (by decide +kernel) rfl rfl (Nat.le_of_ble_eq_true rfl) dC_passWindows_104 (wC_c k ah ar ac (c_over (fC_passWindows_2 c h hour i)) (c_setRoom (fC_passWindows_2 c h hour i)) (c_setTried (fC_passWindows_2 c h hour i)) (c_setFrom (fC_passWindows_2 c h hour i)) (c_mostRoom (fC_passWindows_2 c h hour i)) (c_mostTried (fC_passWindows_2 c h hour i)) (c_fellShort (fC_passWindows_2 c h hour i)) (c_begun (fC_passWindows_2 c h hour i)) ((c_fromSun (fC_passWindows_2 c h hour i)) + ((((((h_windowArea h) i) * (((h_suns h) (((h_windowSide h) i).toNatClampNeg)) hour.toNatClampNeg)) / 10) / 4).toInt64)) (c_fromPersons (fC_passWindows_2 c h hour i)) (c_goneOut (fC_passWindows_2 c h hour i)) (vp_updL (c_heat (fC_passWindows_2 c h hour i)) (((h_windowRoom h) i).toNatClampNeg) (((c_heat (fC_passWindows_2 c h hour i)) (((h_windowRoom h) i).toNatClampNeg)) + ((((((h_windowArea h) i) * (((h_suns h) (((h_windowSide h) i).toNatClampNeg)) hour.toNatClampNeg)) / 10) / 4).toInt64))) (c_warmth (fC_passWindows_2 c h hour i)) (c_given (fC_passWindows_2 c h hour i)) (c_taken (fC_passWindows_2 c h hour i)) (c_greatest (fC_passWindows_2 c h hour i)) (c_uneasy (fC_passWindows_2 c h hour i)) h) rfl ?_
        refine kw_iinc (v := nI (i + 1)) (lv' := [(2, .int (nI (i + 1))), (4, .int (((((h_windowArea h) i) * (((h_suns h) (((h_windowSide h) i).toNatClampNeg)) hour.toNatClampNeg)) / 10) / 4)), (3, .int ((h_windowRoom h) i)), (0, .ref (ac 0)), (1, .int hour)]) C 2 dC_passWindows_107 rfl (nI_1 i) (by decide) rfl ?_
        refine kw_goto (tgt := 2) C dC_passWindows_110 (by decide) ?_
        refine kw_sub [0, 3, 4] rfl ?_
        refine kw_eq rfl rfl (show (wC_c k ah ar ac (c_over (fC_passWindows_2 c h hour i)) (c_setRoom (fC_passWindows_2 c h hour i)) (c_setTried (fC_passWindows_2 c h hour i)) (c_setFrom (fC_passWindows_2 c h hour i)) (c_mostRoom (fC_passWindows_2 c h hour i)) (c_mostTried (fC_passWindows_2 c h hour i)) (c_fellShort (fC_passWindows_2 c h hour i)) (c_begun (fC_passWindows_2 c h hour i)) ((c_fromSun (fC_passWindows_2 c h hour i)) + ((((((h_windowArea h) i) * (((h_suns h) (((h_windowSide h) i).toNatClampNeg)) hour.toNatClampNeg)) / 10) / 4).toInt64)) (c_fromPersons (fC_passWindows_2 c h hour i)) (c_goneOut (fC_passWindows_2 c h hour i)) (vp_updL (c_heat (fC_passWindows_2 c h hour i)) (((h_windowRoom h) i).toNatClampNeg) (((c_heat (fC_passWindows_2 c h hour i)) (((h_windowRoom h) i).toNatClampNeg)) + ((((((h_windowArea h) i) * (((h_suns h) (((h_windowSide h) i).toNatClampNeg)) hour.toNatClampNeg)) / 10) / 4).toInt64))) (c_warmth (fC_passWindows_2 c h hour i)) (c_given (fC_passWindows_2 c h hour i)) (c_taken (fC_passWindows_2 c h hour i)) (c_greatest (fC_passWindows_2 c h hour i)) (c_uneasy (fC_passWindows_2 c h hour i)) h) = (wC k ah ar ac (fC_passWindows_2 c h hour (i + 1)) h) from by show _ = (wC k ah ar ac (bC_passWindows_2 (fC_passWindows_2 c h hour i) c h hour i) h); unfold bC_passWindows_2; rw [if_neg c_2]) ?_
        exact ih (i + 1) (by omega) (by omega)
noncomputable def scC_passWindows (c : CS) (h : HS) (hour : Int32) : CS := (fC_passWindows_2 c h hour (hnN h))
set_option maxRecDepth 100000 in
set_option maxHeartbeats 4000000 in
theorem cC_passWindows (l : Launch) (D : va_G) (k : Nat → ClassId) (ah : Nat → Nat) (ar : Nat → Nat → Nat) (ac : Nat → Nat) (c : CS) (h : HS) (hour : Int32) (hI : kInv h) (hh : vp_in hour 24) : kMv l yC_passWindows (kwm yC_passWindows bC_passWindows 5 none) ({ frames := 0, cells := 0, slots := 0, locals := 0 }) D kcl (kty k) (wC k ah ar ac c h) (wC k ah ar ac (scC_passWindows c h hour) h) [.ref (ac 0), .int hour] := by
  refine k_entry_v (lv0 := [(0, .ref (ac 0)), (1, .int hour)]) rfl (by decide +kernel) (Nat.le_of_ble_eq_true rfl) rfl ?_
  intro p e s m args below meth c0 C hr hlocks
  have hb8 := hI.2.2.1.2
  refine kw_iconst (v := 0) C dC_passWindows_0 (by decide) ?_
  refine kw_istore_n (lv' := [(2, .int 0), (0, .ref (ac 0)), (1, .int hour)]) C dC_passWindows_1 rfl (by decide) rfl ?_
  refine kw_sub [0, 1, 2] rfl ?_
  refine lC_passWindows_2 k ah ar ac c h hour hI hh C ?_ (hnN h + 1) 0 (Nat.zero_le _) (by omega)
  refine kw_eq rfl rfl (show (wC k ah ar ac (fC_passWindows_2 c h hour (hnN h)) h) = (wC k ah ar ac (scC_passWindows c h hour) h) from by rfl) ?_
  exact kw_vret C hr hlocks dC_passWindows_113
end
section
noncomputable def bC_countUneasy_2 (z : CS) (c : CS) (h : HS) (hour : Int32) (i : Nat) : CS := if (rC_hasPersons z h (nI i) hour) = 0 then z else (if (lg_cmp (rC_warmthOf z h (nI i)) ((h_low h).toInt64)) < 0 then ((c_over z), (c_setRoom z), (c_setTried z), (c_setFrom z), (c_mostRoom z), (c_mostTried z), (c_fellShort z), (c_begun z), (c_fromSun z), (c_fromPersons z), (c_goneOut z), (c_heat z), (c_warmth z), (c_given z), (c_taken z), (c_greatest z), (upd (c_uneasy z) i (((c_uneasy z) i) + 1))) else (if (lg_cmp (rC_warmthOf z h (nI i)) ((h_high h).toInt64)) ≤ 0 then z else ((c_over z), (c_setRoom z), (c_setTried z), (c_setFrom z), (c_mostRoom z), (c_mostTried z), (c_fellShort z), (c_begun z), (c_fromSun z), (c_fromPersons z), (c_goneOut z), (c_heat z), (c_warmth z), (c_given z), (c_taken z), (c_greatest z), (upd (c_uneasy z) i (((c_uneasy z) i) + 1)))))
noncomputable def fC_countUneasy_2 (c : CS) (h : HS) (hour : Int32) (n : Nat) : CS := Nat.rec (motive := fun _ => CS) c (fun i z => bC_countUneasy_2 z c h hour i) n
set_option maxRecDepth 100000 in
set_option maxHeartbeats 4000000 in
theorem lC_countUneasy_2 {l : Launch} {p : Program} {e : Env} {s : State} {m : MethodId} {args : Array Value} {below : List Frame} {meth : Method} {c0 : Code} {D : va_G} {A : Nat → Prop} {Q : State → Prop} (k : Nat → ClassId) (ah : Nat → Nat) (ar : Nat → Nat → Nat) (ac : Nat → Nat) (c : CS) (h : HS) (hour : Int32) (hI : kInv h) (hh : vp_in hour 24) (C : kC p s m args c0 bC_countUneasy "RoomHours$Course" kT D kcl (kty k) A 5) (kk : kW p l e ({ frames := 2, cells := 0, slots := 0, locals := 48 }) s m args below meth c0 D kcl A 5 0 0 Q 70 [(2, .int (nI (hnR h))), (0, .ref (ac 0)), (1, .int hour)] [] (wC k ah ar ac (fC_countUneasy_2 c h hour (hnR h)) h)) : ∀ (n i : Nat), i ≤ hnR h → hnR h < i + n → kW p l e ({ frames := 2, cells := 0, slots := 0, locals := 48 }) s m args below meth c0 D kcl A 5 0 0 Q 2 [(2, .int (nI i)), (0, .ref (ac 0)), (1, .int hour)] [] (wC k ah ar ac (fC_countUneasy_2 c h hour i) h) := by
  intro n
  induction n with
  | zero => exact fun i h1 h2 => absurd h2 (by omega)
  | succ n ih =>
    intro i hi hin
    have hb8 := hI.1.2
    refine kw_iload_n C 0 dC_countUneasy_2 rfl rfl ?_
    refine kw_aload_n C 1 dC_countUneasy_3 rfl rfl ?_
    refine kw_get (v := .ref (ah 0)) C 0 rfl rfl ku_C 0 (by decide) kt_122 rfl dC_countUneasy_4 ?_
    refine kw_get (v := .int (h_rooms h)) C 7 rfl rfl ku_H 0 (by decide) kt_35 rfl dC_countUneasy_7 ?_
    refine kw_icmp_ge (tgt := 70) C dC_countUneasy_10 (by decide) (fun c_1 => ?_) (fun c_1 => ?_)
    · skip
      have e9 : i = hnR h := klp1 hI.1.1 (by omega) hi c_1
      subst e9
      refine kw_sub [0, 1, 2] rfl ?_
      exact kk
    · skip
      have hlt : i < hnR h := klp2 hI.1.1 (by omega) c_1
      refine kw_aload_n C 1 dC_countUneasy_13 rfl rfl ?_
      refine kw_iload_n C 0 dC_countUneasy_14 rfl rfl ?_
      refine kw_callAl (w1 := (wC k ah ar ac (fC_countUneasy_2 c h hour i) h)) (st := []) C (cC_warmthOf l D k ah ar ac (fC_countUneasy_2 c h hour i) h (nI i) (vp_in_nI (by omega) (by decide))) (cwV 1 C.1.2.2.2.2 (kgV kt_426 kt_427 kt_428 kt_4 kt_429) rfl rfl rfl kdC_warmthOf ⟨Nat.le_of_ble_eq_true rfl, Nat.le_of_ble_eq_true rfl⟩) 0 0 rfl rfl rfl rfl rfl (Nat.le_of_ble_eq_true rfl) dC_countUneasy_15 ⟨Nat.zero_le _, Nat.zero_le _⟩ (ad_wC.trans ad_wC.symm) ?_
      refine kw_lstore_n (lv' := [(3, .long (rC_warmthOf (fC_countUneasy_2 c h hour i) h (nI i))), (2, .int (nI i)), (0, .ref (ac 0)), (1, .int hour)]) C dC_countUneasy_18 rfl (by decide) rfl ?_
      refine kw_aload_n C 2 dC_countUneasy_19 rfl rfl ?_
      refine kw_iload_n C 1 dC_countUneasy_20 rfl rfl ?_
      refine kw_iload_n C 3 dC_countUneasy_21 rfl rfl ?_
      refine kw_callAi (w1 := (wC k ah ar ac (fC_countUneasy_2 c h hour i) h)) (st := []) C (cC_hasPersons l D k ah ar ac (fC_countUneasy_2 c h hour i) h (nI i) hour (kplan (by omega) hh)) (cwV 2 C.1.2.2.2.2 (kgV kt_481 kt_483 ks_C_hasPersons kt_4 kt_484) rfl rfl rfl kdC_hasPersons ⟨Nat.le_of_ble_eq_true rfl, Nat.le_of_ble_eq_true rfl⟩) 0 0 rfl rfl rfl rfl rfl (Nat.le_of_ble_eq_true rfl) dC_countUneasy_22 ⟨Nat.zero_le _, Nat.zero_le _⟩ (ad_wC.trans ad_wC.symm) ?_
      refine kw_if_eq (tgt := 64) C dC_countUneasy_25 (by decide) (fun c_2 => ?_) (fun c_2 => ?_)
      · skip
        refine kw_iinc (v := nI (i + 1)) (lv' := [(2, .int (nI (i + 1))), (3, .long (rC_warmthOf (fC_countUneasy_2 c h hour i) h (nI i))), (0, .ref (ac 0)), (1, .int hour)]) C 1 dC_countUneasy_64 rfl (nI_1 i) (by decide) rfl ?_
        refine kw_goto (tgt := 2) C dC_countUneasy_67 (by decide) ?_
        refine kw_sub [0, 2, 3] rfl ?_
        refine kw_eq rfl rfl (show (wC k ah ar ac (fC_countUneasy_2 c h hour i) h) = (wC k ah ar ac (fC_countUneasy_2 c h hour (i + 1)) h) from by show _ = (wC k ah ar ac (bC_countUneasy_2 (fC_countUneasy_2 c h hour i) c h hour i) h); unfold bC_countUneasy_2; rw [if_pos c_2]) ?_
        exact ih (i + 1) (by omega) (by omega)
      · skip
        refine kw_lload_n C 0 dC_countUneasy_28 rfl rfl ?_
        refine kw_aload_n C 2 dC_countUneasy_29 rfl rfl ?_
        refine kw_get (v := .ref (ah 0)) C 0 rfl rfl ku_C 0 (by decide) kt_122 rfl dC_countUneasy_30 ?_
        refine kw_get (v := .int (h_low h)) C 7 rfl rfl ku_H 16 (by decide) kt_74 rfl dC_countUneasy_33 ?_
        refine kw_i2l C dC_countUneasy_36 ?_
        refine kw_lcmp C dC_countUneasy_37 ?_
        refine kw_if_lt (tgt := 54) C dC_countUneasy_38 (by decide) (fun c_3 => ?_) (fun c_3 => ?_)
        · skip
          refine kw_aload_n C 2 dC_countUneasy_54 rfl rfl ?_
          refine kw_get (v := .ref (ac 6)) C 0 rfl rfl ku_C 7 (by decide) kt_134 rfl dC_countUneasy_55 ?_
          refine kw_iload_n C 1 dC_countUneasy_58 rfl rfl ?_
          refine kw_dup2_11 C dC_countUneasy_59 rfl rfl ?_
          refine kw_iald C 6 0 rfl rfl (kix_nI (by omega) (by decide)) dC_countUneasy_60 ?_
          refine kw_iconst (v := 1) C dC_countUneasy_61 (by decide) ?_
          refine kw_iadd C dC_countUneasy_62 ?_
          refine kw_iast C 6 0 rfl rfl (kix_nI (by omega) (by decide)) dC_countUneasy_63 (wC_c k ah ar ac (c_over (fC_countUneasy_2 c h hour i)) (c_setRoom (fC_countUneasy_2 c h hour i)) (c_setTried (fC_countUneasy_2 c h hour i)) (c_setFrom (fC_countUneasy_2 c h hour i)) (c_mostRoom (fC_countUneasy_2 c h hour i)) (c_mostTried (fC_countUneasy_2 c h hour i)) (c_fellShort (fC_countUneasy_2 c h hour i)) (c_begun (fC_countUneasy_2 c h hour i)) (c_fromSun (fC_countUneasy_2 c h hour i)) (c_fromPersons (fC_countUneasy_2 c h hour i)) (c_goneOut (fC_countUneasy_2 c h hour i)) (c_heat (fC_countUneasy_2 c h hour i)) (c_warmth (fC_countUneasy_2 c h hour i)) (c_given (fC_countUneasy_2 c h hour i)) (c_taken (fC_countUneasy_2 c h hour i)) (c_greatest (fC_countUneasy_2 c h hour i)) (upd (c_uneasy (fC_countUneasy_2 c h hour i)) i (((c_uneasy (fC_countUneasy_2 c h hour i)) i) + 1)) h) rfl ?_
          refine kw_iinc (v := nI (i + 1)) (lv' := [(2, .int (nI (i + 1))), (3, .long (rC_warmthOf (fC_countUneasy_2 c h hour i) h (nI i))), (0, .ref (ac 0)), (1, .int hour)]) C 1 dC_countUneasy_64 rfl (nI_1 i) (by decide) rfl ?_
          refine kw_goto (tgt := 2) C dC_countUneasy_67 (by decide) ?_
          refine kw_sub [0, 2, 3] rfl ?_
          refine kw_eq rfl rfl (show (wC_c k ah ar ac (c_over (fC_countUneasy_2 c h hour i)) (c_setRoom (fC_countUneasy_2 c h hour i)) (c_setTried (fC_countUneasy_2 c h hour i)) (c_setFrom (fC_countUneasy_2 c h hour i)) (c_mostRoom (fC_countUneasy_2 c h hour i)) (c_mostTried (fC_countUneasy_2 c h hour i)) (c_fellShort (fC_countUneasy_2 c h hour i)) (c_begun (fC_countUneasy_2 c h hour i)) (c_fromSun (fC_countUneasy_2 c h hour i)) (c_fromPersons (fC_countUneasy_2 c h hour i)) (c_goneOut (fC_countUneasy_2 c h hour i)) (c_heat (fC_countUneasy_2 c h hour i)) (c_warmth (fC_countUneasy_2 c h hour i)) (c_given (fC_countUneasy_2 c h hour i)) (c_taken (fC_countUneasy_2 c h hour i)) (c_greatest (fC_countUneasy_2 c h hour i)) (upd (c_uneasy (fC_countUneasy_2 c h hour i)) i (((c_uneasy (fC_countUneasy_2 c h hour i)) i) + 1)) h) = (wC k ah ar ac (fC_countUneasy_2 c h hour (i + 1)) h) from by show _ = (wC k ah ar ac (bC_countUneasy_2 (fC_countUneasy_2 c h hour i) c h hour i) h); unfold bC_countUneasy_2; rw [if_neg c_2, if_pos c_3]) ?_
          exact ih (i + 1) (by omega) (by omega)
        · skip
          refine kw_lload_n C 0 dC_countUneasy_41 rfl rfl ?_
          refine kw_aload_n C 2 dC_countUneasy_42 rfl rfl ?_
          refine kw_get (v := .ref (ah 0)) C 0 rfl rfl ku_C 0 (by decide) kt_122 rfl dC_countUneasy_43 ?_
          refine kw_get (v := .int (h_high h)) C 7 rfl rfl ku_H 17 (by decide) kt_77 rfl dC_countUneasy_46 ?_
          refine kw_i2l C dC_countUneasy_49 ?_
          refine kw_lcmp C dC_countUneasy_50 ?_
          refine kw_if_le (tgt := 64) C dC_countUneasy_51 (by decide) (fun c_4 => ?_) (fun c_4 => ?_)
          · skip
            refine kw_iinc (v := nI (i + 1)) (lv' := [(2, .int (nI (i + 1))), (3, .long (rC_warmthOf (fC_countUneasy_2 c h hour i) h (nI i))), (0, .ref (ac 0)), (1, .int hour)]) C 1 dC_countUneasy_64 rfl (nI_1 i) (by decide) rfl ?_
            refine kw_goto (tgt := 2) C dC_countUneasy_67 (by decide) ?_
            refine kw_sub [0, 2, 3] rfl ?_
            refine kw_eq rfl rfl (show (wC k ah ar ac (fC_countUneasy_2 c h hour i) h) = (wC k ah ar ac (fC_countUneasy_2 c h hour (i + 1)) h) from by show _ = (wC k ah ar ac (bC_countUneasy_2 (fC_countUneasy_2 c h hour i) c h hour i) h); unfold bC_countUneasy_2; rw [if_neg c_2, if_neg c_3, if_pos c_4]) ?_
            exact ih (i + 1) (by omega) (by omega)
          · skip
            refine kw_aload_n C 2 dC_countUneasy_54 rfl rfl ?_
            refine kw_get (v := .ref (ac 6)) C 0 rfl rfl ku_C 7 (by decide) kt_134 rfl dC_countUneasy_55 ?_
            refine kw_iload_n C 1 dC_countUneasy_58 rfl rfl ?_
            refine kw_dup2_11 C dC_countUneasy_59 rfl rfl ?_
            refine kw_iald C 6 0 rfl rfl (kix_nI (by omega) (by decide)) dC_countUneasy_60 ?_
            refine kw_iconst (v := 1) C dC_countUneasy_61 (by decide) ?_
            refine kw_iadd C dC_countUneasy_62 ?_
            refine kw_iast C 6 0 rfl rfl (kix_nI (by omega) (by decide)) dC_countUneasy_63 (wC_c k ah ar ac (c_over (fC_countUneasy_2 c h hour i)) (c_setRoom (fC_countUneasy_2 c h hour i)) (c_setTried (fC_countUneasy_2 c h hour i)) (c_setFrom (fC_countUneasy_2 c h hour i)) (c_mostRoom (fC_countUneasy_2 c h hour i)) (c_mostTried (fC_countUneasy_2 c h hour i)) (c_fellShort (fC_countUneasy_2 c h hour i)) (c_begun (fC_countUneasy_2 c h hour i)) (c_fromSun (fC_countUneasy_2 c h hour i)) (c_fromPersons (fC_countUneasy_2 c h hour i)) (c_goneOut (fC_countUneasy_2 c h hour i)) (c_heat (fC_countUneasy_2 c h hour i)) (c_warmth (fC_countUneasy_2 c h hour i)) (c_given (fC_countUneasy_2 c h hour i)) (c_taken (fC_countUneasy_2 c h hour i)) (c_greatest (fC_countUneasy_2 c h hour i)) (upd (c_uneasy (fC_countUneasy_2 c h hour i)) i (((c_uneasy (fC_countUneasy_2 c h hour i)) i) + 1)) h) rfl ?_
            refine kw_iinc (v := nI (i + 1)) (lv' := [(2, .int (nI (i + 1))), (3, .long (rC_warmthOf (fC_countUneasy_2 c h hour i) h (nI i))), (0, .ref (ac 0)), (1, .int hour)]) C 1 dC_countUneasy_64 rfl (nI_1 i) (by decide) rfl ?_
            refine kw_goto (tgt := 2) C dC_countUneasy_67 (by decide) ?_
            refine kw_sub [0, 2, 3] rfl ?_
            refine kw_eq rfl rfl (show (wC_c k ah ar ac (c_over (fC_countUneasy_2 c h hour i)) (c_setRoom (fC_countUneasy_2 c h hour i)) (c_setTried (fC_countUneasy_2 c h hour i)) (c_setFrom (fC_countUneasy_2 c h hour i)) (c_mostRoom (fC_countUneasy_2 c h hour i)) (c_mostTried (fC_countUneasy_2 c h hour i)) (c_fellShort (fC_countUneasy_2 c h hour i)) (c_begun (fC_countUneasy_2 c h hour i)) (c_fromSun (fC_countUneasy_2 c h hour i)) (c_fromPersons (fC_countUneasy_2 c h hour i)) (c_goneOut (fC_countUneasy_2 c h hour i)) (c_heat (fC_countUneasy_2 c h hour i)) (c_warmth (fC_countUneasy_2 c h hour i)) (c_given (fC_countUneasy_2 c h hour i)) (c_taken (fC_countUneasy_2 c h hour i)) (c_greatest (fC_countUneasy_2 c h hour i)) (upd (c_uneasy (fC_countUneasy_2 c h hour i)) i (((c_uneasy (fC_countUneasy_2 c h hour i)) i) + 1)) h) = (wC k ah ar ac (fC_countUneasy_2 c h hour (i + 1)) h) from by show _ = (wC k ah ar ac (bC_countUneasy_2 (fC_countUneasy_2 c h hour i) c h hour i) h); unfold bC_countUneasy_2; rw [if_neg c_2, if_neg c_3, if_neg c_4]) ?_
            exact ih (i + 1) (by omega) (by omega)
noncomputable def scC_countUneasy (c : CS) (h : HS) (hour : Int32) : CS := (fC_countUneasy_2 c h hour (hnR h))
set_option maxRecDepth 100000 in
set_option maxHeartbeats 4000000 in
theorem cC_countUneasy (l : Launch) (D : va_G) (k : Nat → ClassId) (ah : Nat → Nat) (ar : Nat → Nat → Nat) (ac : Nat → Nat) (c : CS) (h : HS) (hour : Int32) (hI : kInv h) (hh : vp_in hour 24) : kMv l yC_countUneasy (kwm yC_countUneasy bC_countUneasy 5 none) ({ frames := 2, cells := 0, slots := 0, locals := 48 }) D kcl (kty k) (wC k ah ar ac c h) (wC k ah ar ac (scC_countUneasy c h hour) h) [.ref (ac 0), .int hour] := by
  refine k_entry_v (lv0 := [(0, .ref (ac 0)), (1, .int hour)]) rfl (by decide +kernel) (Nat.le_of_ble_eq_true rfl) rfl ?_
  intro p e s m args below meth c0 C hr hlocks
  have hb8 := hI.1.2
  refine kw_iconst (v := 0) C dC_countUneasy_0 (by decide) ?_
  refine kw_istore_n (lv' := [(2, .int 0), (0, .ref (ac 0)), (1, .int hour)]) C dC_countUneasy_1 rfl (by decide) rfl ?_
  refine kw_sub [0, 1, 2] rfl ?_
  refine lC_countUneasy_2 k ah ar ac c h hour hI hh C ?_ (hnR h + 1) 0 (Nat.zero_le _) (by omega)
  refine kw_eq rfl rfl (show (wC k ah ar ac (fC_countUneasy_2 c h hour (hnR h)) h) = (wC k ah ar ac (scC_countUneasy c h hour) h) from by rfl) ?_
  exact kw_vret C hr hlocks dC_countUneasy_70
end
section
theorem khour {c : CS} {h : HS} (ho : ¬ c_over c < 0) : vp_in (rC_hourOfDay c h) 24 := by
  obtain ⟨j, hj, e⟩ := nI_of ho
  have e4 : c_over c / 4 = nI (j / 4) := by rw [e, show (4 : Int32) = nI 4 from rfl, pk_div hj (by decide) (by decide)]
  have : rC_hourOfDay c h = nI (j / 4 % 24) := by
    show c_over c / 4 - c_over c / 4 / 24 * 24 = _
    rw [e4, show (24 : Int32) = nI 24 from rfl, pk_rem (by omega) (by decide) (by decide)]
  rw [this]
  exact vp_in_nI (Nat.mod_lt _ (by decide)) (by decide)
noncomputable def bC_step_7 (z : CS) (c : CS) (h : HS) (hour : Int32) (i : Nat) : CS := ((c_over z), (c_setRoom z), (c_setTried z), (c_setFrom z), (c_mostRoom z), (c_mostTried z), (c_fellShort z), (c_begun z), (c_fromSun z), (c_fromPersons z), (c_goneOut z), (c_heat z), (vp_updL (c_warmth z) i (rC_warmthOf z h (nI i))), (c_given z), (c_taken z), (c_greatest z), (c_uneasy z))
noncomputable def fC_step_7 (c : CS) (h : HS) (hour : Int32) (n : Nat) : CS := Nat.rec (motive := fun _ => CS) c (fun i z => bC_step_7 z c h hour i) n
set_option maxRecDepth 100000 in
set_option maxHeartbeats 4000000 in
theorem lC_step_7 {l : Launch} {p : Program} {e : Env} {s : State} {m : MethodId} {args : Array Value} {below : List Frame} {meth : Method} {c0 : Code} {D : va_G} {A : Nat → Prop} {Q : State → Prop} (k : Nat → ClassId) (ah : Nat → Nat) (ar : Nat → Nat → Nat) (ac : Nat → Nat) (c : CS) (h : HS) (hour : Int32) (hI : kInv h) (hh : vp_in hour 24) (C : kC p s m args c0 bC_step "RoomHours$Course" kT D kcl (kty k) A 3) (kk : kW p l e ({ frames := 3, cells := 0, slots := 0, locals := 74 }) s m args below meth c0 D kcl A 3 0 0 Q 35 [(2, .int (nI (hnR h))), (0, .ref (ac 0)), (1, .int hour)] [] (wC k ah ar ac (fC_step_7 c h hour (hnR h)) h)) : ∀ (n i : Nat), i ≤ hnR h → hnR h < i + n → kW p l e ({ frames := 3, cells := 0, slots := 0, locals := 74 }) s m args below meth c0 D kcl A 3 0 0 Q 7 [(2, .int (nI i)), (0, .ref (ac 0)), (1, .int hour)] [] (wC k ah ar ac (fC_step_7 c h hour i) h) := by
  intro n
  induction n with
  | zero => exact fun i h1 h2 => absurd h2 (by omega)
  | succ n ih =>
    intro i hi hin
    have hb8 := hI.1.2
    refine kw_iload_n C 0 dC_step_7 rfl rfl ?_
    refine kw_aload_n C 1 dC_step_8 rfl rfl ?_
    refine kw_get (v := .ref (ah 0)) C 0 rfl rfl ku_C 0 (by decide) kt_122 rfl dC_step_9 ?_
    refine kw_get (v := .int (h_rooms h)) C 7 rfl rfl ku_H 0 (by decide) kt_35 rfl dC_step_12 ?_
    refine kw_icmp_ge (tgt := 35) C dC_step_15 (by decide) (fun c_1 => ?_) (fun c_1 => ?_)
    · skip
      have e9 : i = hnR h := klp1 hI.1.1 (by omega) hi c_1
      subst e9
      refine kw_sub [0, 1, 2] rfl ?_
      exact kk
    · skip
      have hlt : i < hnR h := klp2 hI.1.1 (by omega) c_1
      refine kw_aload_n C 1 dC_step_18 rfl rfl ?_
      refine kw_get (v := .ref (ac 2)) C 0 rfl rfl ku_C 3 (by decide) kt_127 rfl dC_step_19 ?_
      refine kw_iload_n C 0 dC_step_22 rfl rfl ?_
      refine kw_aload_n C 1 dC_step_23 rfl rfl ?_
      refine kw_iload_n C 0 dC_step_24 rfl rfl ?_
      refine kw_callAl (w1 := (wC k ah ar ac (fC_step_7 c h hour i) h)) (st := [.int (nI i), .ref (ac 2)]) C (cC_warmthOf l D k ah ar ac (fC_step_7 c h hour i) h (nI i) (vp_in_nI (by omega) (by decide))) (cwV 1 C.1.2.2.2.2 (kgV kt_426 kt_427 kt_428 kt_4 kt_429) rfl rfl rfl kdC_warmthOf ⟨Nat.le_of_ble_eq_true rfl, Nat.le_of_ble_eq_true rfl⟩) 0 0 rfl rfl rfl rfl rfl (Nat.le_of_ble_eq_true rfl) dC_step_25 ⟨Nat.zero_le _, Nat.zero_le _⟩ (ad_wC.trans ad_wC.symm) ?_
      refine kw_last C 2 1 rfl rfl (kix_nI (by omega) (by decide)) dC_step_28 (wC_c k ah ar ac (c_over (fC_step_7 c h hour i)) (c_setRoom (fC_step_7 c h hour i)) (c_setTried (fC_step_7 c h hour i)) (c_setFrom (fC_step_7 c h hour i)) (c_mostRoom (fC_step_7 c h hour i)) (c_mostTried (fC_step_7 c h hour i)) (c_fellShort (fC_step_7 c h hour i)) (c_begun (fC_step_7 c h hour i)) (c_fromSun (fC_step_7 c h hour i)) (c_fromPersons (fC_step_7 c h hour i)) (c_goneOut (fC_step_7 c h hour i)) (c_heat (fC_step_7 c h hour i)) (vp_updL (c_warmth (fC_step_7 c h hour i)) i (rC_warmthOf (fC_step_7 c h hour i) h (nI i))) (c_given (fC_step_7 c h hour i)) (c_taken (fC_step_7 c h hour i)) (c_greatest (fC_step_7 c h hour i)) (c_uneasy (fC_step_7 c h hour i)) h) rfl ?_
      refine kw_iinc (v := nI (i + 1)) (lv' := [(2, .int (nI (i + 1))), (0, .ref (ac 0)), (1, .int hour)]) C 0 dC_step_29 rfl (nI_1 i) (by decide) rfl ?_
      refine kw_goto (tgt := 7) C dC_step_32 (by decide) ?_
      refine kw_sub [0, 1, 2] rfl ?_
      refine kw_eq rfl rfl (show (wC_c k ah ar ac (c_over (fC_step_7 c h hour i)) (c_setRoom (fC_step_7 c h hour i)) (c_setTried (fC_step_7 c h hour i)) (c_setFrom (fC_step_7 c h hour i)) (c_mostRoom (fC_step_7 c h hour i)) (c_mostTried (fC_step_7 c h hour i)) (c_fellShort (fC_step_7 c h hour i)) (c_begun (fC_step_7 c h hour i)) (c_fromSun (fC_step_7 c h hour i)) (c_fromPersons (fC_step_7 c h hour i)) (c_goneOut (fC_step_7 c h hour i)) (c_heat (fC_step_7 c h hour i)) (vp_updL (c_warmth (fC_step_7 c h hour i)) i (rC_warmthOf (fC_step_7 c h hour i) h (nI i))) (c_given (fC_step_7 c h hour i)) (c_taken (fC_step_7 c h hour i)) (c_greatest (fC_step_7 c h hour i)) (c_uneasy (fC_step_7 c h hour i)) h) = (wC k ah ar ac (fC_step_7 c h hour (i + 1)) h) from by show _ = (wC k ah ar ac (bC_step_7 (fC_step_7 c h hour i) c h hour i) h); unfold bC_step_7; rfl) ?_
      exact ih (i + 1) (by omega) (by omega)
noncomputable def bC_step_47 (z : CS) (c : CS) (h : HS) (hour : Int32) (i : Nat) : CS := (scC_coolDown (scC_heatUp (scC_bringPersons z h (nI i) hour) h (nI i) hour) h (nI i) hour)
noncomputable def fC_step_47 (c : CS) (h : HS) (hour : Int32) (n : Nat) : CS := Nat.rec (motive := fun _ => CS) c (fun i z => bC_step_47 z c h hour i) n
set_option maxRecDepth 100000 in
set_option maxHeartbeats 4000000 in
theorem lC_step_47 {l : Launch} {p : Program} {e : Env} {s : State} {m : MethodId} {args : Array Value} {below : List Frame} {meth : Method} {c0 : Code} {D : va_G} {A : Nat → Prop} {Q : State → Prop} (k : Nat → ClassId) (ah : Nat → Nat) (ar : Nat → Nat → Nat) (ac : Nat → Nat) (c : CS) (h : HS) (hour : Int32) (hI : kInv h) (hh : vp_in hour 24) (C : kC p s m args c0 bC_step "RoomHours$Course" kT D kcl (kty k) A 3) (kk : kW p l e ({ frames := 3, cells := 0, slots := 0, locals := 74 }) s m args below meth c0 D kcl A 3 0 0 Q 82 [(2, .int (nI (hnR h))), (0, .ref (ac 0)), (1, .int hour)] [] (wC k ah ar ac (fC_step_47 c h hour (hnR h)) h)) : ∀ (n i : Nat), i ≤ hnR h → hnR h < i + n → kW p l e ({ frames := 3, cells := 0, slots := 0, locals := 74 }) s m args below meth c0 D kcl A 3 0 0 Q 47 [(2, .int (nI i)), (0, .ref (ac 0)), (1, .int hour)] [] (wC k ah ar ac (fC_step_47 c h hour i) h) := by
  intro n
  induction n with
  | zero => exact fun i h1 h2 => absurd h2 (by omega)
  | succ n ih =>
    intro i hi hin
    have hb8 := hI.1.2
    refine kw_iload_n C 0 dC_step_47 rfl rfl ?_
    refine kw_aload_n C 1 dC_step_48 rfl rfl ?_
    refine kw_get (v := .ref (ah 0)) C 0 rfl rfl ku_C 0 (by decide) kt_122 rfl dC_step_49 ?_
    refine kw_get (v := .int (h_rooms h)) C 7 rfl rfl ku_H 0 (by decide) kt_35 rfl dC_step_52 ?_
    refine kw_icmp_ge (tgt := 82) C dC_step_55 (by decide) (fun c_1 => ?_) (fun c_1 => ?_)
    · skip
      have e9 : i = hnR h := klp1 hI.1.1 (by omega) hi c_1
      subst e9
      refine kw_sub [0, 1, 2] rfl ?_
      exact kk
    · skip
      have hlt : i < hnR h := klp2 hI.1.1 (by omega) c_1
      refine kw_aload_n C 1 dC_step_58 rfl rfl ?_
      refine kw_iload_n C 0 dC_step_59 rfl rfl ?_
      refine kw_iload_n C 2 dC_step_60 rfl rfl ?_
      refine kw_callAv (w1 := (wC k ah ar ac (scC_bringPersons (fC_step_47 c h hour i) h (nI i) hour) h)) (st := []) C (cC_bringPersons l D k ah ar ac (fC_step_47 c h hour i) h (nI i) hour (vp_in_nI (by omega) (by decide)) (kplan (by omega) hh)) (cwV 2 C.1.2.2.2.2 (kgV kt_442 kt_444 ks_C_bringPersons kt_4 kt_445) rfl rfl rfl kdC_bringPersons ⟨Nat.le_of_ble_eq_true rfl, Nat.le_of_ble_eq_true rfl⟩) 0 0 rfl rfl rfl rfl rfl (Nat.le_of_ble_eq_true rfl) dC_step_61 ⟨Nat.zero_le _, Nat.zero_le _⟩ (ad_wC.trans ad_wC.symm) ?_
      refine kw_aload_n C 1 dC_step_64 rfl rfl ?_
      refine kw_iload_n C 0 dC_step_65 rfl rfl ?_
      refine kw_iload_n C 2 dC_step_66 rfl rfl ?_
      refine kw_callAv (w1 := (wC k ah ar ac (scC_heatUp (scC_bringPersons (fC_step_47 c h hour i) h (nI i) hour) h (nI i) hour) h)) (st := []) C (cC_heatUp l D k ah ar ac (scC_bringPersons (fC_step_47 c h hour i) h (nI i) hour) h (nI i) hour (vp_in_nI (by omega) (by decide)) (kplan (by omega) hh)) (cwV 2 C.1.2.2.2.2 (kgV kt_450 kt_452 ks_C_heatUp kt_4 kt_453) rfl rfl rfl kdC_heatUp ⟨Nat.le_of_ble_eq_true rfl, Nat.le_of_ble_eq_true rfl⟩) 0 0 rfl rfl rfl rfl rfl (Nat.le_of_ble_eq_true rfl) dC_step_67 ⟨Nat.zero_le _, Nat.zero_le _⟩ (ad_wC.trans ad_wC.symm) ?_
      refine kw_aload_n C 1 dC_step_70 rfl rfl ?_
      refine kw_iload_n C 0 dC_step_71 rfl rfl ?_
      refine kw_iload_n C 2 dC_step_72 rfl rfl ?_
      refine kw_callAv (w1 := (wC k ah ar ac (scC_coolDown (scC_heatUp (scC_bringPersons (fC_step_47 c h hour i) h (nI i) hour) h (nI i) hour) h (nI i) hour) h)) (st := []) C (cC_coolDown l D k ah ar ac (scC_heatUp (scC_bringPersons (fC_step_47 c h hour i) h (nI i) hour) h (nI i) hour) h (nI i) hour (vp_in_nI (by omega) (by decide)) (kplan (by omega) hh)) (cwV 2 C.1.2.2.2.2 (kgV kt_469 kt_471 ks_C_coolDown kt_4 kt_472) rfl rfl rfl kdC_coolDown ⟨Nat.le_of_ble_eq_true rfl, Nat.le_of_ble_eq_true rfl⟩) 0 0 rfl rfl rfl rfl rfl (Nat.le_of_ble_eq_true rfl) dC_step_73 ⟨Nat.zero_le _, Nat.zero_le _⟩ (ad_wC.trans ad_wC.symm) ?_
      refine kw_iinc (v := nI (i + 1)) (lv' := [(2, .int (nI (i + 1))), (0, .ref (ac 0)), (1, .int hour)]) C 0 dC_step_76 rfl (nI_1 i) (by decide) rfl ?_
      refine kw_goto (tgt := 47) C dC_step_79 (by decide) ?_
      refine kw_sub [0, 1, 2] rfl ?_
      refine kw_eq rfl rfl (show (wC k ah ar ac (scC_coolDown (scC_heatUp (scC_bringPersons (fC_step_47 c h hour i) h (nI i) hour) h (nI i) hour) h (nI i) hour) h) = (wC k ah ar ac (fC_step_47 c h hour (i + 1)) h) from by show _ = (wC k ah ar ac (bC_step_47 (fC_step_47 c h hour i) c h hour i) h); unfold bC_step_47; rfl) ?_
      exact ih (i + 1) (by omega) (by omega)
noncomputable def scC_step_z (z1 : CS) (c : CS) (h : HS) : CS := if (rC_hourEnds (((c_over z1) + 1), (c_setRoom z1), (c_setTried z1), (c_setFrom z1), (c_mostRoom z1), (c_mostTried z1), (c_fellShort z1), (c_begun z1), (c_fromSun z1), (c_fromPersons z1), (c_goneOut z1), (c_heat z1), (c_warmth z1), (c_given z1), (c_taken z1), (c_greatest z1), (c_uneasy z1)) h) = 0 then (((c_over z1) + 1), (c_setRoom z1), (c_setTried z1), (c_setFrom z1), (c_mostRoom z1), (c_mostTried z1), (c_fellShort z1), (c_begun z1), (c_fromSun z1), (c_fromPersons z1), (c_goneOut z1), (c_heat z1), (c_warmth z1), (c_given z1), (c_taken z1), (c_greatest z1), (c_uneasy z1)) else (scC_countUneasy (((c_over z1) + 1), (c_setRoom z1), (c_setTried z1), (c_setFrom z1), (c_mostRoom z1), (c_mostTried z1), (c_fellShort z1), (c_begun z1), (c_fromSun z1), (c_fromPersons z1), (c_goneOut z1), (c_heat z1), (c_warmth z1), (c_given z1), (c_taken z1), (c_greatest z1), (c_uneasy z1)) h (rC_hourOfDay c h))
noncomputable def scC_step (c : CS) (h : HS) : CS := scC_step_z (fC_step_47 (scC_passWindows (scC_passWalls (fC_step_7 c h (rC_hourOfDay c h) (hnR h)) h (rC_hourOfDay c h)) h (rC_hourOfDay c h)) h (rC_hourOfDay c h) (hnR h)) c h
set_option maxRecDepth 100000 in
set_option maxHeartbeats 4000000 in
theorem cC_step (l : Launch) (D : va_G) (k : Nat → ClassId) (ah : Nat → Nat) (ar : Nat → Nat → Nat) (ac : Nat → Nat) (c : CS) (h : HS)  (hI : kInv h) (ho : ¬ c_over c < 0) : kMv l yC_step (kwm yC_step bC_step 3 none) ({ frames := 3, cells := 0, slots := 0, locals := 74 }) D kcl (kty k) (wC k ah ar ac c h) (wC k ah ar ac (scC_step c h) h) [.ref (ac 0)] := by
  refine k_entry_v (lv0 := [(0, .ref (ac 0))]) rfl (by decide +kernel) (Nat.le_of_ble_eq_true rfl) rfl ?_
  intro p e s m args below meth c0 C hr hlocks
  have hb8 := hI.1.2
  refine kw_aload_n C 0 dC_step_0 rfl rfl ?_
  refine kw_callAi (w1 := (wC k ah ar ac c h)) (st := []) C (cC_hourOfDay l D k ah ar ac c h) (cwV 0 C.1.2.2.2.2 (kgV kt_422 kt_424 ks_C_hourOfDay kt_4 kt_425) rfl rfl rfl kdC_hourOfDay ⟨Nat.le_of_ble_eq_true rfl, Nat.le_of_ble_eq_true rfl⟩) 0 0 rfl rfl rfl rfl rfl (Nat.le_of_ble_eq_true rfl) dC_step_1 ⟨Nat.zero_le _, Nat.zero_le _⟩ (ad_wC.trans ad_wC.symm) ?_
  refine kw_istore_n (lv' := [(1, .int (rC_hourOfDay c h)), (0, .ref (ac 0))]) C dC_step_4 rfl (by decide) rfl ?_
  refine kw_iconst (v := 0) C dC_step_5 (by decide) ?_
  refine kw_istore_n (lv' := [(2, .int 0), (1, .int (rC_hourOfDay c h)), (0, .ref (ac 0))]) C dC_step_6 rfl (by decide) rfl ?_
  refine kw_sub [0, 2, 1] rfl ?_
  refine lC_step_7 k ah ar ac c h (rC_hourOfDay c h) hI (khour ho) C ?_ (hnR h + 1) 0 (Nat.zero_le _) (by omega)
  refine kw_aload_n C 1 dC_step_35 rfl rfl ?_
  refine kw_iload_n C 2 dC_step_36 rfl rfl ?_
  refine kw_callAv (w1 := (wC k ah ar ac (scC_passWalls (fC_step_7 c h (rC_hourOfDay c h) (hnR h)) h (rC_hourOfDay c h)) h)) (st := []) C (cC_passWalls l D k ah ar ac (fC_step_7 c h (rC_hourOfDay c h) (hnR h)) h (rC_hourOfDay c h) hI (khour ho)) (cwV 1 C.1.2.2.2.2 (kgV kt_433 kt_435 ks_C_passWalls kt_4 kt_436) rfl rfl rfl kdC_passWalls ⟨Nat.le_of_ble_eq_true rfl, Nat.le_of_ble_eq_true rfl⟩) 0 0 rfl rfl rfl rfl rfl (Nat.le_of_ble_eq_true rfl) dC_step_37 ⟨Nat.zero_le _, Nat.zero_le _⟩ (ad_wC.trans ad_wC.symm) ?_
  refine kw_aload_n C 1 dC_step_40 rfl rfl ?_
  refine kw_iload_n C 2 dC_step_41 rfl rfl ?_
  refine kw_callAv (w1 := (wC k ah ar ac (scC_passWindows (scC_passWalls (fC_step_7 c h (rC_hourOfDay c h) (hnR h)) h (rC_hourOfDay c h)) h (rC_hourOfDay c h)) h)) (st := []) C (cC_passWindows l D k ah ar ac (scC_passWalls (fC_step_7 c h (rC_hourOfDay c h) (hnR h)) h (rC_hourOfDay c h)) h (rC_hourOfDay c h) hI (khour ho)) (cwV 1 C.1.2.2.2.2 (kgV kt_438 kt_440 ks_C_passWindows kt_4 kt_441) rfl rfl rfl kdC_passWindows ⟨Nat.le_of_ble_eq_true rfl, Nat.le_of_ble_eq_true rfl⟩) 0 0 rfl rfl rfl rfl rfl (Nat.le_of_ble_eq_true rfl) dC_step_42 ⟨Nat.zero_le _, Nat.zero_le _⟩ (ad_wC.trans ad_wC.symm) ?_
  refine kw_iconst (v := 0) C dC_step_45 (by decide) ?_
  refine kw_istore_n (lv' := [(2, .int 0), (0, .ref (ac 0)), (1, .int (rC_hourOfDay c h))]) C dC_step_46 rfl (by decide) rfl ?_
  refine kw_sub [0, 1, 2] rfl ?_
  refine lC_step_47 k ah ar ac (scC_passWindows (scC_passWalls (fC_step_7 c h (rC_hourOfDay c h) (hnR h)) h (rC_hourOfDay c h)) h (rC_hourOfDay c h)) h (rC_hourOfDay c h) hI (khour ho) C ?_ (hnR h + 1) 0 (Nat.zero_le _) (by omega)
  generalize ez1 : (fC_step_47 (scC_passWindows (scC_passWalls (fC_step_7 c h (rC_hourOfDay c h) (hnR h)) h (rC_hourOfDay c h)) h (rC_hourOfDay c h)) h (rC_hourOfDay c h) (hnR h)) = z1
  refine kw_aload_n C 1 dC_step_82 rfl rfl ?_
  refine kw_dup C dC_step_83 rfl ?_
  refine kw_get (v := .int (c_over z1)) C 0 rfl rfl ku_C 1 (by decide) kt_123 rfl dC_step_84 ?_
  refine kw_iconst (v := 1) C dC_step_87 (by decide) ?_
  refine kw_iadd C dC_step_88 ?_
  refine kw_put C 0 rfl rfl ku_C tC_ok nC 1 (by decide) kt_123 rfl (ty := .int) (by decide +kernel) rfl rfl (Nat.le_of_ble_eq_true rfl) dC_step_89 (wC_c k ah ar ac ((c_over z1) + 1) (c_setRoom z1) (c_setTried z1) (c_setFrom z1) (c_mostRoom z1) (c_mostTried z1) (c_fellShort z1) (c_begun z1) (c_fromSun z1) (c_fromPersons z1) (c_goneOut z1) (c_heat z1) (c_warmth z1) (c_given z1) (c_taken z1) (c_greatest z1) (c_uneasy z1) h) rfl ?_
  refine kw_aload_n C 1 dC_step_92 rfl rfl ?_
  refine kw_callAi (w1 := (wC_c k ah ar ac ((c_over z1) + 1) (c_setRoom z1) (c_setTried z1) (c_setFrom z1) (c_mostRoom z1) (c_mostTried z1) (c_fellShort z1) (c_begun z1) (c_fromSun z1) (c_fromPersons z1) (c_goneOut z1) (c_heat z1) (c_warmth z1) (c_given z1) (c_taken z1) (c_greatest z1) (c_uneasy z1) h)) (st := []) C (cC_hourEnds l D k ah ar ac (((c_over z1) + 1), (c_setRoom z1), (c_setTried z1), (c_setFrom z1), (c_mostRoom z1), (c_mostTried z1), (c_fellShort z1), (c_begun z1), (c_fromSun z1), (c_fromPersons z1), (c_goneOut z1), (c_heat z1), (c_warmth z1), (c_given z1), (c_taken z1), (c_greatest z1), (c_uneasy z1)) h) (cwV 0 C.1.2.2.2.2 (kgV kt_473 kt_475 ks_C_hourEnds kt_4 kt_476) rfl rfl rfl kdC_hourEnds ⟨Nat.le_of_ble_eq_true rfl, Nat.le_of_ble_eq_true rfl⟩) 0 0 rfl rfl rfl rfl rfl (Nat.le_of_ble_eq_true rfl) dC_step_93 ⟨Nat.zero_le _, Nat.zero_le _⟩ (ad_wC_c.trans ad_wC_c.symm) ?_
  refine kw_if_eq (tgt := 104) C dC_step_96 (by decide) (fun c_1 => ?_) (fun c_1 => ?_)
  · skip
    refine kw_eq rfl rfl (show (wC_c k ah ar ac ((c_over z1) + 1) (c_setRoom z1) (c_setTried z1) (c_setFrom z1) (c_mostRoom z1) (c_mostTried z1) (c_fellShort z1) (c_begun z1) (c_fromSun z1) (c_fromPersons z1) (c_goneOut z1) (c_heat z1) (c_warmth z1) (c_given z1) (c_taken z1) (c_greatest z1) (c_uneasy z1) h) = (wC k ah ar ac (scC_step c h) h) from by subst ez1; unfold scC_step scC_step_z; rw [if_pos c_1]) ?_
    exact kw_vret C hr hlocks dC_step_104
  · skip
    refine kw_aload_n C 1 dC_step_99 rfl rfl ?_
    refine kw_iload_n C 2 dC_step_100 rfl rfl ?_
    refine kw_callAv (w1 := (wC k ah ar ac (scC_countUneasy (((c_over z1) + 1), (c_setRoom z1), (c_setTried z1), (c_setFrom z1), (c_mostRoom z1), (c_mostTried z1), (c_fellShort z1), (c_begun z1), (c_fromSun z1), (c_fromPersons z1), (c_goneOut z1), (c_heat z1), (c_warmth z1), (c_given z1), (c_taken z1), (c_greatest z1), (c_uneasy z1)) h (rC_hourOfDay c h)) h)) (st := []) C (cC_countUneasy l D k ah ar ac (((c_over z1) + 1), (c_setRoom z1), (c_setTried z1), (c_setFrom z1), (c_mostRoom z1), (c_mostTried z1), (c_fellShort z1), (c_begun z1), (c_fromSun z1), (c_fromPersons z1), (c_goneOut z1), (c_heat z1), (c_warmth z1), (c_given z1), (c_taken z1), (c_greatest z1), (c_uneasy z1)) h (rC_hourOfDay c h) hI (khour ho)) (cwV 1 C.1.2.2.2.2 (kgV kt_477 kt_479 ks_C_countUneasy kt_4 kt_480) rfl rfl rfl kdC_countUneasy ⟨Nat.le_of_ble_eq_true rfl, Nat.le_of_ble_eq_true rfl⟩) 0 0 rfl rfl rfl rfl rfl (Nat.le_of_ble_eq_true rfl) dC_step_101 ⟨Nat.zero_le _, Nat.zero_le _⟩ (ad_wC.trans ad_wC_c.symm) ?_
    refine kw_eq rfl rfl (show (wC k ah ar ac (scC_countUneasy (((c_over z1) + 1), (c_setRoom z1), (c_setTried z1), (c_setFrom z1), (c_mostRoom z1), (c_mostTried z1), (c_fellShort z1), (c_begun z1), (c_fromSun z1), (c_fromPersons z1), (c_goneOut z1), (c_heat z1), (c_warmth z1), (c_given z1), (c_taken z1), (c_greatest z1), (c_uneasy z1)) h (rC_hourOfDay c h)) h) = (wC k ah ar ac (scC_step c h) h) from by subst ez1; unfold scC_step scC_step_z; rw [if_neg c_1]) ?_
    exact kw_vret C hr hlocks dC_step_104
end
section
def rH_hasRoom (h : HS) (room : Int32) : Int32 := if room < 0 then 0 else (if (h_rooms h) ≤ room then 0 else 1)
set_option maxRecDepth 100000 in
set_option maxHeartbeats 4000000 in
theorem cH_hasRoom (l : Launch) (D : va_G) (k : Nat → ClassId) (ah : Nat → Nat) (ar : Nat → Nat → Nat) (h : HS) (room : Int32) : kMi l yH_hasRoom (kwm yH_hasRoom bH_hasRoom 2 (some .boolean)) ({ frames := 0, cells := 0, slots := 0, locals := 0 }) D kcl (kty k) (wH k ah ar h) (wH k ah ar h) [.ref (ah 0), .int room] (rH_hasRoom h room) := by
  refine k_entry_i (lv0 := [(0, .ref (ah 0)), (1, .int room)]) rfl (by decide +kernel) (Nat.le_of_ble_eq_true rfl) rfl ?_
  intro p e s m args below meth c0 C hr hlocks
  refine kw_iload_n C 1 dH_hasRoom_0 rfl rfl ?_
  refine kw_if_lt (tgt := 16) C dH_hasRoom_1 (by decide) (fun c_1 => ?_) (fun c_1 => ?_)
  · skip
    refine kw_iconst (v := 0) C dH_hasRoom_16 (by decide) ?_
    exact kw_zret C hr hlocks (by unfold rH_hasRoom; rw [if_pos c_1]) rfl dH_hasRoom_17
  · skip
    refine kw_iload_n C 1 dH_hasRoom_4 rfl rfl ?_
    refine kw_aload_n C 0 dH_hasRoom_5 rfl rfl ?_
    refine kw_get (v := .int (h_rooms h)) C 0 rfl rfl ku_H 0 (by decide) kt_33 rfl dH_hasRoom_6 ?_
    refine kw_icmp_ge (tgt := 16) C dH_hasRoom_9 (by decide) (fun c_2 => ?_) (fun c_2 => ?_)
    · skip
      refine kw_iconst (v := 0) C dH_hasRoom_16 (by decide) ?_
      exact kw_zret C hr hlocks (by unfold rH_hasRoom; rw [if_neg c_1, if_pos c_2]) rfl dH_hasRoom_17
    · skip
      refine kw_iconst (v := 1) C dH_hasRoom_12 (by decide) ?_
      refine kw_goto (tgt := 17) C dH_hasRoom_13 (by decide) ?_
      exact kw_zret C hr hlocks (by unfold rH_hasRoom; rw [if_neg c_1, if_neg c_2]) rfl dH_hasRoom_17
theorem kzb_H_hasRoom {h : HS} {room : Int32} : narrow .boolean (.int (rH_hasRoom h room)) = .int (rH_hasRoom h room) := by
  unfold rH_hasRoom
  (repeat' split) <;> first | rfl | apply kzb_R_isWithin | apply kzb_R_isWarmth | apply kzb_R_isHour | apply kzb_R_isSide | apply kzb_R_isPlan | apply kzb_C_hourEnds | apply kzb_C_hasPersons
theorem khas {h : HS} {room : Int32} (hI : kInv h) (hc : ¬ rH_hasRoom h room = 0) : vp_in room (hnR h) := by
  unfold rH_hasRoom at hc
  split at hc
  · exact absurd rfl hc
  · rename_i h1
    split at hc
    · exact absurd rfl hc
    · rename_i h2
      obtain ⟨j, hj, e⟩ := nI_of h1
      rw [e, hI.1.1, nI_leI (by have := hI.1.2; omega) hj] at h2
      rw [e]
      exact vp_in_nI (by omega) (by have := hI.1.2; omega)
theorem kin_le {x : Int32} {a b : Nat} (h : vp_in x a) (hab : a ≤ b) : vp_in x b := fun q => h (q.imp id (fun q => Nat.le_trans hab q))
end
section
def rH_bears (h : HS) (room : Int32) (more : Int32) : Int32 := if (rH_hasRoom h room) = 0 then 1 else (if (100 * ((h_stores h) room.toNatClampNeg)) < (((h_leadsAt h) room.toNatClampNeg) + more) then 0 else 1)
set_option maxRecDepth 100000 in
set_option maxHeartbeats 4000000 in
theorem cH_bears (l : Launch) (D : va_G) (k : Nat → ClassId) (ah : Nat → Nat) (ar : Nat → Nat → Nat) (h : HS) (room : Int32) (more : Int32) (hI : kInv h) : kMi l yH_bears (kwm yH_bears bH_bears 3 (some .boolean)) ({ frames := 1, cells := 0, slots := 0, locals := 21 }) D kcl (kty k) (wH k ah ar h) (wH k ah ar h) [.ref (ah 0), .int room, .int more] (rH_bears h room more) := by
  refine k_entry_i (lv0 := [(0, .ref (ah 0)), (1, .int room), (2, .int more)]) rfl (by decide +kernel) (Nat.le_of_ble_eq_true rfl) rfl ?_
  intro p e s m args below meth c0 C hr hlocks
  refine kw_aload_n C 0 dH_bears_0 rfl rfl ?_
  refine kw_iload_n C 1 dH_bears_1 rfl rfl ?_
  refine kw_callAi (w1 := (wH k ah ar h)) (st := []) C (cH_hasRoom l D k ah ar h room) (cwV 1 C.1.2.2.2.2 (kgV kt_322 kt_313 kt_314 kt_2 kt_315) rfl rfl rfl kdH_hasRoom ⟨Nat.le_of_ble_eq_true rfl, Nat.le_of_ble_eq_true rfl⟩) 0 1 rfl rfl rfl rfl rfl (Nat.le_of_ble_eq_true rfl) dH_bears_2 ⟨Nat.zero_le _, Nat.zero_le _⟩ (ad_wH.trans ad_wH.symm) ?_
  refine kw_if_eq (tgt := 28) C dH_bears_5 (by decide) (fun c_1 => ?_) (fun c_1 => ?_)
  · skip
    refine kw_iconst (v := 1) C dH_bears_28 (by decide) ?_
    refine kw_goto (tgt := 33) C dH_bears_29 (by decide) ?_
    exact kw_zret C hr hlocks (by unfold rH_bears; rw [if_pos c_1]) rfl dH_bears_33
  · skip
    refine kw_aload_n C 0 dH_bears_8 rfl rfl ?_
    refine kw_get (v := .ref (ah 2)) C 0 rfl rfl ku_H 2 (by decide) kt_38 rfl dH_bears_9 ?_
    refine kw_iload_n C 1 dH_bears_12 rfl rfl ?_
    refine kw_iald C 2 0 rfl rfl (kix_of (kin_le (khas hI c_1) hI.1.2)) dH_bears_13 ?_
    refine kw_iload_n C 2 dH_bears_14 rfl rfl ?_
    refine kw_iadd C dH_bears_15 ?_
    refine kw_bipush (v := 100) C dH_bears_16 (by decide) ?_
    refine kw_aload_n C 0 dH_bears_18 rfl rfl ?_
    refine kw_get (v := .ref (ah 1)) C 0 rfl rfl ku_H 1 (by decide) kt_36 rfl dH_bears_19 ?_
    refine kw_iload_n C 1 dH_bears_22 rfl rfl ?_
    refine kw_iald C 1 0 rfl rfl (kix_of (kin_le (khas hI c_1) hI.1.2)) dH_bears_23 ?_
    refine kw_imul C dH_bears_24 ?_
    refine kw_icmp_gt (tgt := 32) C dH_bears_25 (by decide) (fun c_2 => ?_) (fun c_2 => ?_)
    · skip
      refine kw_iconst (v := 0) C dH_bears_32 (by decide) ?_
      exact kw_zret C hr hlocks (by unfold rH_bears; rw [if_neg c_1, if_pos c_2]) rfl dH_bears_33
    · skip
      refine kw_iconst (v := 1) C dH_bears_28 (by decide) ?_
      refine kw_goto (tgt := 33) C dH_bears_29 (by decide) ?_
      exact kw_zret C hr hlocks (by unfold rH_bears; rw [if_neg c_1, if_neg c_2]) rfl dH_bears_33
theorem kzb_H_bears {h : HS} {room : Int32} {more : Int32} : narrow .boolean (.int (rH_bears h room more)) = .int (rH_bears h room more) := by
  unfold rH_bears
  (repeat' split) <;> first | rfl | apply kzb_R_isWithin | apply kzb_R_isWarmth | apply kzb_R_isHour | apply kzb_R_isSide | apply kzb_R_isPlan | apply kzb_C_hourEnds | apply kzb_C_hasPersons | apply kzb_H_hasRoom
end
section
def rH_addRoom (h : HS) (store : Int32) : Int32 := (h_rooms h)
noncomputable def shH_addRoom (h : HS) (store : Int32) : HS := (((h_rooms h) + 1), (h_walls h), (h_windows h), (h_low h), (h_high h), (upd (h_stores h) ((h_rooms h).toNatClampNeg) store), (h_leadsAt h), (h_mosts h), (h_plans h), (h_wallFrom h), (h_wallTo h), (h_wallLeads h), (h_windowRoom h), (h_windowSide h), (h_windowArea h), (h_windowLimit h), (h_outsides h), (h_suns h))
set_option maxRecDepth 100000 in
set_option maxHeartbeats 4000000 in
theorem cH_addRoom (l : Launch) (D : va_G) (k : Nat → ClassId) (ah : Nat → Nat) (ar : Nat → Nat → Nat) (h : HS) (store : Int32) (h8 : vp_in (h_rooms h) 8) : kMi l yH_addRoom (kwm yH_addRoom bH_addRoom 3 (some .int)) ({ frames := 0, cells := 0, slots := 0, locals := 0 }) D kcl (kty k) (wH k ah ar h) (wH k ah ar (shH_addRoom h store)) [.ref (ah 0), .int store] (rH_addRoom h store) := by
  refine k_entry_i (lv0 := [(0, .ref (ah 0)), (1, .int store)]) rfl (by decide +kernel) (Nat.le_of_ble_eq_true rfl) rfl ?_
  intro p e s m args below meth c0 C hr hlocks
  refine kw_aload_n C 0 dH_addRoom_0 rfl rfl ?_
  refine kw_get (v := .int (h_rooms h)) C 0 rfl rfl ku_H 0 (by decide) kt_33 rfl dH_addRoom_1 ?_
  refine kw_istore_n (lv' := [(2, .int (h_rooms h)), (0, .ref (ah 0)), (1, .int store)]) C dH_addRoom_4 rfl (by decide) rfl ?_
  refine kw_aload_n C 1 dH_addRoom_5 rfl rfl ?_
  refine kw_get (v := .ref (ah 1)) C 0 rfl rfl ku_H 1 (by decide) kt_36 rfl dH_addRoom_6 ?_
  refine kw_iload_n C 0 dH_addRoom_9 rfl rfl ?_
  refine kw_iload_n C 2 dH_addRoom_10 rfl rfl ?_
  refine kw_iast C 1 0 rfl rfl (kix_of h8) dH_addRoom_11 (wH_h k ah ar (h_rooms h) (h_walls h) (h_windows h) (h_low h) (h_high h) (upd (h_stores h) ((h_rooms h).toNatClampNeg) store) (h_leadsAt h) (h_mosts h) (h_plans h) (h_wallFrom h) (h_wallTo h) (h_wallLeads h) (h_windowRoom h) (h_windowSide h) (h_windowArea h) (h_windowLimit h) (h_outsides h) (h_suns h)) rfl ?_
  refine kw_aload_n C 1 dH_addRoom_12 rfl rfl ?_
  refine kw_dup C dH_addRoom_13 rfl ?_
  refine kw_get (v := .int (h_rooms h)) C 0 rfl rfl ku_H 0 (by decide) kt_33 rfl dH_addRoom_14 ?_
  refine kw_iconst (v := 1) C dH_addRoom_17 (by decide) ?_
  refine kw_iadd C dH_addRoom_18 ?_
  refine kw_put C 0 rfl rfl ku_H tH_ok nH 0 (by decide) kt_33 rfl (ty := .int) (by decide +kernel) rfl rfl (Nat.le_of_ble_eq_true rfl) dH_addRoom_19 (wH_h k ah ar ((h_rooms h) + 1) (h_walls h) (h_windows h) (h_low h) (h_high h) (upd (h_stores h) ((h_rooms h).toNatClampNeg) store) (h_leadsAt h) (h_mosts h) (h_plans h) (h_wallFrom h) (h_wallTo h) (h_wallLeads h) (h_windowRoom h) (h_windowSide h) (h_windowArea h) (h_windowLimit h) (h_outsides h) (h_suns h)) rfl ?_
  refine kw_iload_n C 0 dH_addRoom_22 rfl rfl ?_
  refine kw_eq rfl rfl (show (wH_h k ah ar ((h_rooms h) + 1) (h_walls h) (h_windows h) (h_low h) (h_high h) (upd (h_stores h) ((h_rooms h).toNatClampNeg) store) (h_leadsAt h) (h_mosts h) (h_plans h) (h_wallFrom h) (h_wallTo h) (h_wallLeads h) (h_windowRoom h) (h_windowSide h) (h_windowArea h) (h_windowLimit h) (h_outsides h) (h_suns h)) = (wH k ah ar (shH_addRoom h store)) from by rfl) ?_
  exact kw_iret C hr hlocks rfl dH_addRoom_23
end
section
noncomputable def shH_addLeads (h : HS) (wall : Int32) (more : Int32) : HS := if ((h_wallTo h) wall.toNatClampNeg) = (-1) then ((h_rooms h), (h_walls h), (h_windows h), (h_low h), (h_high h), (h_stores h), (upd (h_leadsAt h) (((h_wallFrom h) wall.toNatClampNeg).toNatClampNeg) (((h_leadsAt h) (((h_wallFrom h) wall.toNatClampNeg).toNatClampNeg)) + more)), (h_mosts h), (h_plans h), (h_wallFrom h), (h_wallTo h), (upd (h_wallLeads h) wall.toNatClampNeg (((h_wallLeads h) wall.toNatClampNeg) + more)), (h_windowRoom h), (h_windowSide h), (h_windowArea h), (h_windowLimit h), (h_outsides h), (h_suns h)) else ((h_rooms h), (h_walls h), (h_windows h), (h_low h), (h_high h), (h_stores h), (upd (upd (h_leadsAt h) (((h_wallFrom h) wall.toNatClampNeg).toNatClampNeg) (((h_leadsAt h) (((h_wallFrom h) wall.toNatClampNeg).toNatClampNeg)) + more)) (((h_wallTo h) wall.toNatClampNeg).toNatClampNeg) (((upd (h_leadsAt h) (((h_wallFrom h) wall.toNatClampNeg).toNatClampNeg) (((h_leadsAt h) (((h_wallFrom h) wall.toNatClampNeg).toNatClampNeg)) + more)) (((h_wallTo h) wall.toNatClampNeg).toNatClampNeg)) + more)), (h_mosts h), (h_plans h), (h_wallFrom h), (h_wallTo h), (upd (h_wallLeads h) wall.toNatClampNeg (((h_wallLeads h) wall.toNatClampNeg) + more)), (h_windowRoom h), (h_windowSide h), (h_windowArea h), (h_windowLimit h), (h_outsides h), (h_suns h))
set_option maxRecDepth 100000 in
set_option maxHeartbeats 4000000 in
theorem cH_addLeads (l : Launch) (D : va_G) (k : Nat → ClassId) (ah : Nat → Nat) (ar : Nat → Nat → Nat) (h : HS) (wall : Int32) (more : Int32) (h20 : vp_in wall 20) (hf : vp_in (h_wallFrom h wall.toNatClampNeg) 8) (ht : h_wallTo h wall.toNatClampNeg = -1 ∨ vp_in (h_wallTo h wall.toNatClampNeg) 8) : kMv l yH_addLeads (kwm yH_addLeads bH_addLeads 3 none) ({ frames := 0, cells := 0, slots := 0, locals := 0 }) D kcl (kty k) (wH k ah ar h) (wH k ah ar (shH_addLeads h wall more)) [.ref (ah 0), .int wall, .int more] := by
  refine k_entry_v (lv0 := [(0, .ref (ah 0)), (1, .int wall), (2, .int more)]) rfl (by decide +kernel) (Nat.le_of_ble_eq_true rfl) rfl ?_
  intro p e s m args below meth c0 C hr hlocks
  refine kw_aload_n C 0 dH_addLeads_0 rfl rfl ?_
  refine kw_get (v := .ref (ah 7)) C 0 rfl rfl ku_H 8 (by decide) kt_54 rfl dH_addLeads_1 ?_
  refine kw_iload_n C 1 dH_addLeads_4 rfl rfl ?_
  refine kw_dup2_11 C dH_addLeads_5 rfl rfl ?_
  refine kw_iald C 5 0 rfl rfl (kix_of h20) dH_addLeads_6 ?_
  refine kw_iload_n C 2 dH_addLeads_7 rfl rfl ?_
  refine kw_iadd C dH_addLeads_8 ?_
  refine kw_iast C 5 0 rfl rfl (kix_of h20) dH_addLeads_9 (wH_h k ah ar (h_rooms h) (h_walls h) (h_windows h) (h_low h) (h_high h) (h_stores h) (h_leadsAt h) (h_mosts h) (h_plans h) (h_wallFrom h) (h_wallTo h) (upd (h_wallLeads h) wall.toNatClampNeg (((h_wallLeads h) wall.toNatClampNeg) + more)) (h_windowRoom h) (h_windowSide h) (h_windowArea h) (h_windowLimit h) (h_outsides h) (h_suns h)) rfl ?_
  refine kw_aload_n C 0 dH_addLeads_10 rfl rfl ?_
  refine kw_get (v := .ref (ah 2)) C 0 rfl rfl ku_H 2 (by decide) kt_38 rfl dH_addLeads_11 ?_
  refine kw_aload_n C 0 dH_addLeads_14 rfl rfl ?_
  refine kw_get (v := .ref (ah 5)) C 0 rfl rfl ku_H 6 (by decide) kt_48 rfl dH_addLeads_15 ?_
  refine kw_iload_n C 1 dH_addLeads_18 rfl rfl ?_
  refine kw_iald C 3 0 rfl rfl (kix_of h20) dH_addLeads_19 ?_
  refine kw_dup2_11 C dH_addLeads_20 rfl rfl ?_
  refine kw_iald C 2 0 rfl rfl (kix_of hf) dH_addLeads_21 ?_
  refine kw_iload_n C 2 dH_addLeads_22 rfl rfl ?_
  refine kw_iadd C dH_addLeads_23 ?_
  refine kw_iast C 2 0 rfl rfl (kix_of hf) dH_addLeads_24 (wH_h k ah ar (h_rooms h) (h_walls h) (h_windows h) (h_low h) (h_high h) (h_stores h) (upd (h_leadsAt h) (((h_wallFrom h) wall.toNatClampNeg).toNatClampNeg) (((h_leadsAt h) (((h_wallFrom h) wall.toNatClampNeg).toNatClampNeg)) + more)) (h_mosts h) (h_plans h) (h_wallFrom h) (h_wallTo h) (upd (h_wallLeads h) wall.toNatClampNeg (((h_wallLeads h) wall.toNatClampNeg) + more)) (h_windowRoom h) (h_windowSide h) (h_windowArea h) (h_windowLimit h) (h_outsides h) (h_suns h)) rfl ?_
  refine kw_aload_n C 0 dH_addLeads_25 rfl rfl ?_
  refine kw_get (v := .ref (ah 6)) C 0 rfl rfl ku_H 7 (by decide) kt_51 rfl dH_addLeads_26 ?_
  refine kw_iload_n C 1 dH_addLeads_29 rfl rfl ?_
  refine kw_iald C 4 0 rfl rfl (kix_of h20) dH_addLeads_30 ?_
  refine kw_iconst (v := -1) C dH_addLeads_31 (by decide) ?_
  refine kw_icmp_eq (tgt := 50) C dH_addLeads_32 (by decide) (fun c_1 => ?_) (fun c_1 => ?_)
  · skip
    refine kw_eq rfl rfl (show (wH_h k ah ar (h_rooms h) (h_walls h) (h_windows h) (h_low h) (h_high h) (h_stores h) (upd (h_leadsAt h) (((h_wallFrom h) wall.toNatClampNeg).toNatClampNeg) (((h_leadsAt h) (((h_wallFrom h) wall.toNatClampNeg).toNatClampNeg)) + more)) (h_mosts h) (h_plans h) (h_wallFrom h) (h_wallTo h) (upd (h_wallLeads h) wall.toNatClampNeg (((h_wallLeads h) wall.toNatClampNeg) + more)) (h_windowRoom h) (h_windowSide h) (h_windowArea h) (h_windowLimit h) (h_outsides h) (h_suns h)) = (wH k ah ar (shH_addLeads h wall more)) from by unfold shH_addLeads; rw [if_pos c_1]) ?_
    exact kw_vret C hr hlocks dH_addLeads_50
  · skip
    refine kw_aload_n C 0 dH_addLeads_35 rfl rfl ?_
    refine kw_get (v := .ref (ah 2)) C 0 rfl rfl ku_H 2 (by decide) kt_38 rfl dH_addLeads_36 ?_
    refine kw_aload_n C 0 dH_addLeads_39 rfl rfl ?_
    refine kw_get (v := .ref (ah 6)) C 0 rfl rfl ku_H 7 (by decide) kt_51 rfl dH_addLeads_40 ?_
    refine kw_iload_n C 1 dH_addLeads_43 rfl rfl ?_
    refine kw_iald C 4 0 rfl rfl (kix_of h20) dH_addLeads_44 ?_
    refine kw_dup2_11 C dH_addLeads_45 rfl rfl ?_
    refine kw_iald C 2 0 rfl rfl (kix_of (ht.resolve_left c_1)) dH_addLeads_46 ?_
    refine kw_iload_n C 2 dH_addLeads_47 rfl rfl ?_
    refine kw_iadd C dH_addLeads_48 ?_
    refine kw_iast C 2 0 rfl rfl (kix_of (ht.resolve_left c_1)) dH_addLeads_49 (wH_h k ah ar (h_rooms h) (h_walls h) (h_windows h) (h_low h) (h_high h) (h_stores h) (upd (upd (h_leadsAt h) (((h_wallFrom h) wall.toNatClampNeg).toNatClampNeg) (((h_leadsAt h) (((h_wallFrom h) wall.toNatClampNeg).toNatClampNeg)) + more)) (((h_wallTo h) wall.toNatClampNeg).toNatClampNeg) (((upd (h_leadsAt h) (((h_wallFrom h) wall.toNatClampNeg).toNatClampNeg) (((h_leadsAt h) (((h_wallFrom h) wall.toNatClampNeg).toNatClampNeg)) + more)) (((h_wallTo h) wall.toNatClampNeg).toNatClampNeg)) + more)) (h_mosts h) (h_plans h) (h_wallFrom h) (h_wallTo h) (upd (h_wallLeads h) wall.toNatClampNeg (((h_wallLeads h) wall.toNatClampNeg) + more)) (h_windowRoom h) (h_windowSide h) (h_windowArea h) (h_windowLimit h) (h_outsides h) (h_suns h)) rfl ?_
    refine kw_eq rfl rfl (show (wH_h k ah ar (h_rooms h) (h_walls h) (h_windows h) (h_low h) (h_high h) (h_stores h) (upd (upd (h_leadsAt h) (((h_wallFrom h) wall.toNatClampNeg).toNatClampNeg) (((h_leadsAt h) (((h_wallFrom h) wall.toNatClampNeg).toNatClampNeg)) + more)) (((h_wallTo h) wall.toNatClampNeg).toNatClampNeg) (((upd (h_leadsAt h) (((h_wallFrom h) wall.toNatClampNeg).toNatClampNeg) (((h_leadsAt h) (((h_wallFrom h) wall.toNatClampNeg).toNatClampNeg)) + more)) (((h_wallTo h) wall.toNatClampNeg).toNatClampNeg)) + more)) (h_mosts h) (h_plans h) (h_wallFrom h) (h_wallTo h) (upd (h_wallLeads h) wall.toNatClampNeg (((h_wallLeads h) wall.toNatClampNeg) + more)) (h_windowRoom h) (h_windowSide h) (h_windowArea h) (h_windowLimit h) (h_outsides h) (h_suns h)) = (wH k ah ar (shH_addLeads h wall more)) from by unfold shH_addLeads; rw [if_neg c_1]) ?_
    exact kw_vret C hr hlocks dH_addLeads_50
end
section
def rH_addWall (h : HS) (room : Int32) (other : Int32) (leads : Int32) : Int32 := (h_walls h)
noncomputable def shH_addWall (h : HS) (room : Int32) (other : Int32) (leads : Int32) : HS := (shH_addLeads ((h_rooms h), ((h_walls h) + 1), (h_windows h), (h_low h), (h_high h), (h_stores h), (h_leadsAt h), (h_mosts h), (h_plans h), (upd (h_wallFrom h) ((h_walls h).toNatClampNeg) room), (upd (h_wallTo h) ((h_walls h).toNatClampNeg) other), (h_wallLeads h), (h_windowRoom h), (h_windowSide h), (h_windowArea h), (h_windowLimit h), (h_outsides h), (h_suns h)) (h_walls h) leads)
set_option maxRecDepth 100000 in
set_option maxHeartbeats 4000000 in
theorem cH_addWall (l : Launch) (D : va_G) (k : Nat → ClassId) (ah : Nat → Nat) (ar : Nat → Nat → Nat) (h : HS) (room : Int32) (other : Int32) (leads : Int32) (h20 : vp_in (h_walls h) 20) (hf : vp_in room 8) (ht : other = -1 ∨ vp_in other 8) : kMi l yH_addWall (kwm yH_addWall bH_addWall 5 (some .int)) ({ frames := 1, cells := 0, slots := 0, locals := 22 }) D kcl (kty k) (wH k ah ar h) (wH k ah ar (shH_addWall h room other leads)) [.ref (ah 0), .int room, .int other, .int leads] (rH_addWall h room other leads) := by
  refine k_entry_i (lv0 := [(0, .ref (ah 0)), (1, .int room), (2, .int other), (3, .int leads)]) rfl (by decide +kernel) (Nat.le_of_ble_eq_true rfl) rfl ?_
  intro p e s m args below meth c0 C hr hlocks
  refine kw_aload_n C 0 dH_addWall_0 rfl rfl ?_
  refine kw_get (v := .int (h_walls h)) C 0 rfl rfl ku_H 5 (by decide) kt_46 rfl dH_addWall_1 ?_
  refine kw_istore (lv' := [(4, .int (h_walls h)), (0, .ref (ah 0)), (1, .int room), (2, .int other), (3, .int leads)]) C dH_addWall_4 (by decide) rfl ?_
  refine kw_aload_n C 1 dH_addWall_6 rfl rfl ?_
  refine kw_get (v := .ref (ah 5)) C 0 rfl rfl ku_H 6 (by decide) kt_48 rfl dH_addWall_7 ?_
  refine kw_iload C 0 dH_addWall_10 rfl ?_
  refine kw_iload_n C 2 dH_addWall_12 rfl rfl ?_
  refine kw_iast C 3 0 rfl rfl (kix_of h20) dH_addWall_13 (wH_h k ah ar (h_rooms h) (h_walls h) (h_windows h) (h_low h) (h_high h) (h_stores h) (h_leadsAt h) (h_mosts h) (h_plans h) (upd (h_wallFrom h) ((h_walls h).toNatClampNeg) room) (h_wallTo h) (h_wallLeads h) (h_windowRoom h) (h_windowSide h) (h_windowArea h) (h_windowLimit h) (h_outsides h) (h_suns h)) rfl ?_
  refine kw_aload_n C 1 dH_addWall_14 rfl rfl ?_
  refine kw_get (v := .ref (ah 6)) C 0 rfl rfl ku_H 7 (by decide) kt_51 rfl dH_addWall_15 ?_
  refine kw_iload C 0 dH_addWall_18 rfl ?_
  refine kw_iload_n C 3 dH_addWall_20 rfl rfl ?_
  refine kw_iast C 4 0 rfl rfl (kix_of h20) dH_addWall_21 (wH_h k ah ar (h_rooms h) (h_walls h) (h_windows h) (h_low h) (h_high h) (h_stores h) (h_leadsAt h) (h_mosts h) (h_plans h) (upd (h_wallFrom h) ((h_walls h).toNatClampNeg) room) (upd (h_wallTo h) ((h_walls h).toNatClampNeg) other) (h_wallLeads h) (h_windowRoom h) (h_windowSide h) (h_windowArea h) (h_windowLimit h) (h_outsides h) (h_suns h)) rfl ?_
  refine kw_aload_n C 1 dH_addWall_22 rfl rfl ?_
  refine kw_dup C dH_addWall_23 rfl ?_
  refine kw_get (v := .int (h_walls h)) C 0 rfl rfl ku_H 5 (by decide) kt_46 rfl dH_addWall_24 ?_
  refine kw_iconst (v := 1) C dH_addWall_27 (by decide) ?_
  refine kw_iadd C dH_addWall_28 ?_
  refine kw_put C 0 rfl rfl ku_H tH_ok nH 5 (by decide) kt_46 rfl (ty := .int) (by decide +kernel) rfl rfl (Nat.le_of_ble_eq_true rfl) dH_addWall_29 (wH_h k ah ar (h_rooms h) ((h_walls h) + 1) (h_windows h) (h_low h) (h_high h) (h_stores h) (h_leadsAt h) (h_mosts h) (h_plans h) (upd (h_wallFrom h) ((h_walls h).toNatClampNeg) room) (upd (h_wallTo h) ((h_walls h).toNatClampNeg) other) (h_wallLeads h) (h_windowRoom h) (h_windowSide h) (h_windowArea h) (h_windowLimit h) (h_outsides h) (h_suns h)) rfl ?_
  refine kw_aload_n C 1 dH_addWall_32 rfl rfl ?_
  refine kw_iload C 0 dH_addWall_33 rfl ?_
  refine kw_iload_n C 4 dH_addWall_35 rfl rfl ?_
  refine kw_callAv (w1 := (wH k ah ar (shH_addLeads ((h_rooms h), ((h_walls h) + 1), (h_windows h), (h_low h), (h_high h), (h_stores h), (h_leadsAt h), (h_mosts h), (h_plans h), (upd (h_wallFrom h) ((h_walls h).toNatClampNeg) room), (upd (h_wallTo h) ((h_walls h).toNatClampNeg) other), (h_wallLeads h), (h_windowRoom h), (h_windowSide h), (h_windowArea h), (h_windowLimit h), (h_outsides h), (h_suns h)) (h_walls h) leads))) (st := []) C (cH_addLeads l D k ah ar ((h_rooms h), ((h_walls h) + 1), (h_windows h), (h_low h), (h_high h), (h_stores h), (h_leadsAt h), (h_mosts h), (h_plans h), (upd (h_wallFrom h) ((h_walls h).toNatClampNeg) room), (upd (h_wallTo h) ((h_walls h).toNatClampNeg) other), (h_wallLeads h), (h_windowRoom h), (h_windowSide h), (h_windowArea h), (h_windowLimit h), (h_outsides h), (h_suns h)) (h_walls h) leads h20 (by show vp_in (upd _ _ _ _) 8; rw [pk_us]; exact hf) (by show upd _ _ _ _ = -1 ∨ vp_in (upd _ _ _ _) 8; rw [pk_us]; exact ht)) (cwV 2 C.1.2.2.2.2 (kgV kt_328 kt_329 kt_330 kt_2 kt_331) rfl rfl rfl kdH_addLeads ⟨Nat.le_of_ble_eq_true rfl, Nat.le_of_ble_eq_true rfl⟩) 0 1 rfl rfl rfl rfl rfl (Nat.le_of_ble_eq_true rfl) dH_addWall_36 ⟨Nat.zero_le _, Nat.zero_le _⟩ (ad_wH.trans ad_wH_h.symm) ?_
  refine kw_iload C 0 dH_addWall_39 rfl ?_
  refine kw_eq rfl rfl (show (wH k ah ar (shH_addLeads ((h_rooms h), ((h_walls h) + 1), (h_windows h), (h_low h), (h_high h), (h_stores h), (h_leadsAt h), (h_mosts h), (h_plans h), (upd (h_wallFrom h) ((h_walls h).toNatClampNeg) room), (upd (h_wallTo h) ((h_walls h).toNatClampNeg) other), (h_wallLeads h), (h_windowRoom h), (h_windowSide h), (h_windowArea h), (h_windowLimit h), (h_outsides h), (h_suns h)) (h_walls h) leads)) = (wH k ah ar (shH_addWall h room other leads)) from by rfl) ?_
  exact kw_iret C hr hlocks rfl dH_addWall_41
end
section
def rH_addWindow (h : HS) (room : Int32) (side : Int32) (area : Int32) (limit : Int32) : Int32 := (h_windows h)
noncomputable def shH_addWindow (h : HS) (room : Int32) (side : Int32) (area : Int32) (limit : Int32) : HS := ((h_rooms h), (h_walls h), ((h_windows h) + 1), (h_low h), (h_high h), (h_stores h), (h_leadsAt h), (h_mosts h), (h_plans h), (h_wallFrom h), (h_wallTo h), (h_wallLeads h), (upd (h_windowRoom h) ((h_windows h).toNatClampNeg) room), (upd (h_windowSide h) ((h_windows h).toNatClampNeg) side), (upd (h_windowArea h) ((h_windows h).toNatClampNeg) area), (upd (h_windowLimit h) ((h_windows h).toNatClampNeg) limit), (h_outsides h), (h_suns h))
set_option maxRecDepth 100000 in
set_option maxHeartbeats 4000000 in
theorem cH_addWindow (l : Launch) (D : va_G) (k : Nat → ClassId) (ah : Nat → Nat) (ar : Nat → Nat → Nat) (h : HS) (room : Int32) (side : Int32) (area : Int32) (limit : Int32) (h12 : vp_in (h_windows h) 12) : kMi l yH_addWindow (kwm yH_addWindow bH_addWindow 6 (some .int)) ({ frames := 0, cells := 0, slots := 0, locals := 0 }) D kcl (kty k) (wH k ah ar h) (wH k ah ar (shH_addWindow h room side area limit)) [.ref (ah 0), .int room, .int side, .int area, .int limit] (rH_addWindow h room side area limit) := by
  refine k_entry_i (lv0 := [(0, .ref (ah 0)), (1, .int room), (2, .int side), (3, .int area), (4, .int limit)]) rfl (by decide +kernel) (Nat.le_of_ble_eq_true rfl) rfl ?_
  intro p e s m args below meth c0 C hr hlocks
  refine kw_aload_n C 0 dH_addWindow_0 rfl rfl ?_
  refine kw_get (v := .int (h_windows h)) C 0 rfl rfl ku_H 9 (by decide) kt_58 rfl dH_addWindow_1 ?_
  refine kw_istore (lv' := [(5, .int (h_windows h)), (0, .ref (ah 0)), (1, .int room), (2, .int side), (3, .int area), (4, .int limit)]) C dH_addWindow_4 (by decide) rfl ?_
  refine kw_aload_n C 1 dH_addWindow_6 rfl rfl ?_
  refine kw_get (v := .ref (ah 8)) C 0 rfl rfl ku_H 10 (by decide) kt_60 rfl dH_addWindow_7 ?_
  refine kw_iload C 0 dH_addWindow_10 rfl ?_
  refine kw_iload_n C 2 dH_addWindow_12 rfl rfl ?_
  refine kw_iast C 6 0 rfl rfl (kix_of h12) dH_addWindow_13 (wH_h k ah ar (h_rooms h) (h_walls h) (h_windows h) (h_low h) (h_high h) (h_stores h) (h_leadsAt h) (h_mosts h) (h_plans h) (h_wallFrom h) (h_wallTo h) (h_wallLeads h) (upd (h_windowRoom h) ((h_windows h).toNatClampNeg) room) (h_windowSide h) (h_windowArea h) (h_windowLimit h) (h_outsides h) (h_suns h)) rfl ?_
  refine kw_aload_n C 1 dH_addWindow_14 rfl rfl ?_
  refine kw_get (v := .ref (ah 9)) C 0 rfl rfl ku_H 11 (by decide) kt_62 rfl dH_addWindow_15 ?_
  refine kw_iload C 0 dH_addWindow_18 rfl ?_
  refine kw_iload_n C 3 dH_addWindow_20 rfl rfl ?_
  refine kw_iast C 7 0 rfl rfl (kix_of h12) dH_addWindow_21 (wH_h k ah ar (h_rooms h) (h_walls h) (h_windows h) (h_low h) (h_high h) (h_stores h) (h_leadsAt h) (h_mosts h) (h_plans h) (h_wallFrom h) (h_wallTo h) (h_wallLeads h) (upd (h_windowRoom h) ((h_windows h).toNatClampNeg) room) (upd (h_windowSide h) ((h_windows h).toNatClampNeg) side) (h_windowArea h) (h_windowLimit h) (h_outsides h) (h_suns h)) rfl ?_
  refine kw_aload_n C 1 dH_addWindow_22 rfl rfl ?_
  refine kw_get (v := .ref (ah 10)) C 0 rfl rfl ku_H 12 (by decide) kt_64 rfl dH_addWindow_23 ?_
  refine kw_iload C 0 dH_addWindow_26 rfl ?_
  refine kw_iload_n C 4 dH_addWindow_28 rfl rfl ?_
  refine kw_iast C 8 0 rfl rfl (kix_of h12) dH_addWindow_29 (wH_h k ah ar (h_rooms h) (h_walls h) (h_windows h) (h_low h) (h_high h) (h_stores h) (h_leadsAt h) (h_mosts h) (h_plans h) (h_wallFrom h) (h_wallTo h) (h_wallLeads h) (upd (h_windowRoom h) ((h_windows h).toNatClampNeg) room) (upd (h_windowSide h) ((h_windows h).toNatClampNeg) side) (upd (h_windowArea h) ((h_windows h).toNatClampNeg) area) (h_windowLimit h) (h_outsides h) (h_suns h)) rfl ?_
  refine kw_aload_n C 1 dH_addWindow_30 rfl rfl ?_
  refine kw_get (v := .ref (ah 11)) C 0 rfl rfl ku_H 13 (by decide) kt_66 rfl dH_addWindow_31 ?_
  refine kw_iload C 0 dH_addWindow_34 rfl ?_
  refine kw_iload C 5 dH_addWindow_36 rfl ?_
  refine kw_iast C 9 0 rfl rfl (kix_of h12) dH_addWindow_38 (wH_h k ah ar (h_rooms h) (h_walls h) (h_windows h) (h_low h) (h_high h) (h_stores h) (h_leadsAt h) (h_mosts h) (h_plans h) (h_wallFrom h) (h_wallTo h) (h_wallLeads h) (upd (h_windowRoom h) ((h_windows h).toNatClampNeg) room) (upd (h_windowSide h) ((h_windows h).toNatClampNeg) side) (upd (h_windowArea h) ((h_windows h).toNatClampNeg) area) (upd (h_windowLimit h) ((h_windows h).toNatClampNeg) limit) (h_outsides h) (h_suns h)) rfl ?_
  refine kw_aload_n C 1 dH_addWindow_39 rfl rfl ?_
  refine kw_dup C dH_addWindow_40 rfl ?_
  refine kw_get (v := .int (h_windows h)) C 0 rfl rfl ku_H 9 (by decide) kt_58 rfl dH_addWindow_41 ?_
  refine kw_iconst (v := 1) C dH_addWindow_44 (by decide) ?_
  refine kw_iadd C dH_addWindow_45 ?_
  refine kw_put C 0 rfl rfl ku_H tH_ok nH 9 (by decide) kt_58 rfl (ty := .int) (by decide +kernel) rfl rfl (Nat.le_of_ble_eq_true rfl) dH_addWindow_46 (wH_h k ah ar (h_rooms h) (h_walls h) ((h_windows h) + 1) (h_low h) (h_high h) (h_stores h) (h_leadsAt h) (h_mosts h) (h_plans h) (h_wallFrom h) (h_wallTo h) (h_wallLeads h) (upd (h_windowRoom h) ((h_windows h).toNatClampNeg) room) (upd (h_windowSide h) ((h_windows h).toNatClampNeg) side) (upd (h_windowArea h) ((h_windows h).toNatClampNeg) area) (upd (h_windowLimit h) ((h_windows h).toNatClampNeg) limit) (h_outsides h) (h_suns h)) rfl ?_
  refine kw_iload C 0 dH_addWindow_49 rfl ?_
  refine kw_eq rfl rfl (show (wH_h k ah ar (h_rooms h) (h_walls h) ((h_windows h) + 1) (h_low h) (h_high h) (h_stores h) (h_leadsAt h) (h_mosts h) (h_plans h) (h_wallFrom h) (h_wallTo h) (h_wallLeads h) (upd (h_windowRoom h) ((h_windows h).toNatClampNeg) room) (upd (h_windowSide h) ((h_windows h).toNatClampNeg) side) (upd (h_windowArea h) ((h_windows h).toNatClampNeg) area) (upd (h_windowLimit h) ((h_windows h).toNatClampNeg) limit) (h_outsides h) (h_suns h)) = (wH k ah ar (shH_addWindow h room side area limit)) from by rfl) ?_
  exact kw_iret C hr hlocks rfl dH_addWindow_51
end
