theorem kad_o {k : Nat → ClassId} {ah : Nat → Nat} {ar : Nat → Nat → Nat} {ac ax : Nat → Nat} {a ao : Nat} {c t c' t' : CS} {h h' : HS} {f f' : Nat → Int64} : (wR k ah ar ac ax a c' t' h' ++ [((ao, .inl (k 1, 1, .inr (.inl f'))) : Nat × va_E)]).map (fun q => q.1) = (wR k ah ar ac ax a c t h ++ [((ao, .inl (k 1, 1, .inr (.inl f))) : Nat × va_E)]).map (fun q => q.1) := by
  rw [List.map_append, List.map_append, ad_wR, ad_wR]
  rfl
theorem kad_m {k : Nat → ClassId} {am : Nat → Nat} {gu gu' : MU} {gv gv' : MV} : (wM k am gu' gv').map (fun q => q.1) = (wM k am gu gv).map (fun q => q.1) := by
  rw [ad_wM, ad_wM]
theorem kscr {i n j : Nat} (h : i + j < n) (hn : n ≤ 2560) {x : Int32} (hx : x = nI j) : kix (nI i + x) n (i + j) := by
  rw [hx, nI_add]
  exact kix_nI h (by omega)
theorem kcmp0 {x y : Int64} (h : x = y) : lg_cmp x y = 0 := by
  subst h
  unfold lg_cmp
  simp
theorem kdL_room : yL_room.cls ≠ "java/lang/invoke/MethodHandle" ∧ yL_room.cls ≠ "java/lang/invoke/VarHandle" ∧ (parseMethodDescriptor yL_room.desc).map (fun d => d.parameters.length) = some 4 := by decide +kernel
theorem kdL_wall : yL_wall.cls ≠ "java/lang/invoke/MethodHandle" ∧ yL_wall.cls ≠ "java/lang/invoke/VarHandle" ∧ (parseMethodDescriptor yL_wall.desc).map (fun d => d.parameters.length) = some 5 := by decide +kernel
theorem kdL_leads : yL_leads.cls ≠ "java/lang/invoke/MethodHandle" ∧ yL_leads.cls ≠ "java/lang/invoke/VarHandle" ∧ (parseMethodDescriptor yL_leads.desc).map (fun d => d.parameters.length) = some 4 := by decide +kernel
theorem kdL_window : yL_window.cls ≠ "java/lang/invoke/MethodHandle" ∧ yL_window.cls ≠ "java/lang/invoke/VarHandle" ∧ (parseMethodDescriptor yL_window.desc).map (fun d => d.parameters.length) = some 6 := by decide +kernel
theorem kdL_outside : yL_outside.cls ≠ "java/lang/invoke/MethodHandle" ∧ yL_outside.cls ≠ "java/lang/invoke/VarHandle" ∧ (parseMethodDescriptor yL_outside.desc).map (fun d => d.parameters.length) = some 4 := by decide +kernel
theorem kdL_sun : yL_sun.cls ≠ "java/lang/invoke/MethodHandle" ∧ yL_sun.cls ≠ "java/lang/invoke/VarHandle" ∧ (parseMethodDescriptor yL_sun.desc).map (fun d => d.parameters.length) = some 5 := by decide +kernel
theorem kdL_plan : yL_plan.cls ≠ "java/lang/invoke/MethodHandle" ∧ yL_plan.cls ≠ "java/lang/invoke/VarHandle" ∧ (parseMethodDescriptor yL_plan.desc).map (fun d => d.parameters.length) = some 6 := by decide +kernel
theorem kdL_most : yL_most.cls ≠ "java/lang/invoke/MethodHandle" ∧ yL_most.cls ≠ "java/lang/invoke/VarHandle" ∧ (parseMethodDescriptor yL_most.desc).map (fun d => d.parameters.length) = some 5 := by decide +kernel
theorem kdL_ease : yL_ease.cls ≠ "java/lang/invoke/MethodHandle" ∧ yL_ease.cls ≠ "java/lang/invoke/VarHandle" ∧ (parseMethodDescriptor yL_ease.desc).map (fun d => d.parameters.length) = some 3 := by decide +kernel
theorem kdL_run : yL_run.cls ≠ "java/lang/invoke/MethodHandle" ∧ yL_run.cls ≠ "java/lang/invoke/VarHandle" ∧ (parseMethodDescriptor yL_run.desc).map (fun d => d.parameters.length) = some 3 := by decide +kernel
theorem kdL_told : yL_told.cls ≠ "java/lang/invoke/MethodHandle" ∧ yL_told.cls ≠ "java/lang/invoke/VarHandle" ∧ (parseMethodDescriptor yL_told.desc).map (fun d => d.parameters.length) = some 4 := by decide +kernel
theorem kdL_balance : yL_balance.cls ≠ "java/lang/invoke/MethodHandle" ∧ yL_balance.cls ≠ "java/lang/invoke/VarHandle" ∧ (parseMethodDescriptor yL_balance.desc).map (fun d => d.parameters.length) = some 3 := by decide +kernel
theorem kdL_early : yL_early.cls ≠ "java/lang/invoke/MethodHandle" ∧ yL_early.cls ≠ "java/lang/invoke/VarHandle" ∧ (parseMethodDescriptor yL_early.desc).map (fun d => d.parameters.length) = some 5 := by decide +kernel
theorem kdL_strong : yL_strong.cls ≠ "java/lang/invoke/MethodHandle" ∧ yL_strong.cls ≠ "java/lang/invoke/VarHandle" ∧ (parseMethodDescriptor yL_strong.desc).map (fun d => d.parameters.length) = some 4 := by decide +kernel
set_option maxRecDepth 100000 in
set_option maxHeartbeats 4000000 in
theorem lL_room {l : Launch} {p : Program} {e : Env} {s : State} {m : MethodId} {args : Array Value} {below : List Frame} {meth : Method} {c0 : Code} {D : va_G} {A : Nat → Prop} {Q : State → Prop} {cells slots : Nat} (k : Nat → ClassId) (ah : Nat → Nat) (ar : Nat → Nat → Nat) (ac ax am : Nat → Nat) (a ao b n i : Nat) (xs : Nat → Int32) (c t : CS) (h : HS) (gu : MU) (gv : MV) (f : Nat → Int64) (p0 p1 : Int32) (q0 : xs (i + 1) = p0) (q1 : xs (i + 2) = p1) (hl9 : l.stackTraces = false) (C : kC p s m args c0 code "RoomHoursLaw" kT D kcl (kty k) A 8) (hE : kE s) (hZ : kZ A s s.heap) (hN : kN9 s) (hX : va_X b n xs s s.heap) (hbs : b < s.heap.size) (hbA : ¬ A b) (hn : n ≤ 2560) (hi : i + 5 ≤ n) (hcs : cells + 1 ≤ 601024) (hss : slots + 6 ≤ 7293034) (hI : kInv h) (hIm : mInv gu) (e1 : m_thrown (sguM_room gu gv p0 p1) = kcode (oR_room c t h p0 p1)) (e2 : kcode (oR_room c t h p0 p1) = 0 → (kout (oR_room c t h p0 p1) (rR_room c t h p0 p1).toInt64 f) 0 = (rM_room gu gv p0 p1).toInt64) (kk : kW p l e room_1 s m args below meth c0 D kcl A 8 (cells + 1) (slots + 6) Q 1110 [(4, .int (nI i)), (0, .ref b), (1, .ref a), (2, .ref (am 0)), (3, .ref ao)] [] ((wR k ah ar ac ax a (scR_room c t h p0 p1) t (shR_room c t h p0 p1) ++ [(ao, .inl (k 1, 1, .inr (.inl (kout (oR_room c t h p0 p1) (rR_room c t h p0 p1).toInt64 f))))]) ++ wM k am (sguM_room gu gv p0 p1) (sgvM_room gu gv p0 p1))) : kW p l e room_1 s m args below meth c0 D kcl A 8 cells slots Q 108 [(4, .int (nI i)), (0, .ref b), (1, .ref a), (2, .ref (am 0)), (3, .ref ao)] [] ((wR k ah ar ac ax a c t h ++ [(ao, .inl (k 1, 1, .inr (.inl f)))]) ++ wM k am gu gv) := by
  refine kw_aload_n C 2 dL_law_108 rfl rfl ?_
  refine kw_aload_n C 1 dL_law_109 rfl rfl ?_
  refine kw_iload C 0 dL_law_110 rfl ?_
  refine kw_iconst (v := 1) C dL_law_112 (by decide) ?_
  refine kw_iadd C dL_law_113 ?_
  refine kw_sld C hX hbs hbA (kscr (j := 1) (by omega) hn rfl) dL_law_114 ?_
  refine kw_eq rfl (show ([.int (xs (i + 1)), .ref a] : List Value) = [.int p0, .ref a] from by rw [q0]) rfl ?_
  refine kw_aload_n C 1 dL_law_115 rfl rfl ?_
  refine kw_iload C 0 dL_law_116 rfl ?_
  refine kw_iconst (v := 2) C dL_law_118 (by decide) ?_
  refine kw_iadd C dL_law_119 ?_
  refine kw_sld C hX hbs hbA (kscr (j := 2) (by omega) hn rfl) dL_law_120 ?_
  refine kw_eq rfl (show ([.int (xs (i + 2)), .int p0, .ref a] : List Value) = [.int p1, .int p0, .ref a] from by rw [q1]) rfl ?_
  refine kw_aload_n C 4 dL_law_121 rfl rfl ?_
  refine kw_callH (w1 := (wR k ah ar ac ax a (scR_room c t h p0 p1) t (shR_room c t h p0 p1) ++ [(ao, .inl (k 1, 1, .inr (.inl (kout (oR_room c t h p0 p1) (rR_room c t h p0 p1).toInt64 f))))])) (wr := wM k am gu gv) (st := []) C hE hZ hN (cL_room l D k ah ar ac ax a ao c t h f p0 p1 hl9 hI) (vx_cwSW 4 C.1.2.2.2.2 (kgH kt_199 kt_200 kt_0 kt_201) rfl rfl rfl kdL_room ⟨Nat.le_of_ble_eq_true rfl, Nat.le_of_ble_eq_true rfl⟩) rfl rfl (Nat.le_of_ble_eq_true rfl) dL_law_122 ⟨by exact hcs, by exact hss⟩ kad_o ?_
  refine kw_istore (lv' := [(5, .int (kcode (oR_room c t h p0 p1))), (4, .int (nI i)), (0, .ref b), (1, .ref a), (2, .ref (am 0)), (3, .ref ao)]) C dL_law_125 (by decide) rfl ?_
  refine kw_aload_n C 4 dL_law_127 rfl rfl ?_
  refine kw_aload_n C 2 dL_law_128 rfl rfl ?_
  refine kw_iload C 1 dL_law_129 rfl ?_
  refine kw_iconst (v := 1) C dL_law_131 (by decide) ?_
  refine kw_iadd C dL_law_132 ?_
  refine kw_sld C hX hbs hbA (kscr (j := 1) (by omega) hn rfl) dL_law_133 ?_
  refine kw_eq rfl (show ([.int (xs (i + 1)), .ref (am 0)] : List Value) = [.int p0, .ref (am 0)] from by rw [q0]) rfl ?_
  refine kw_aload_n C 2 dL_law_134 rfl rfl ?_
  refine kw_iload C 1 dL_law_135 rfl ?_
  refine kw_iconst (v := 2) C dL_law_137 (by decide) ?_
  refine kw_iadd C dL_law_138 ?_
  refine kw_sld C hX hbs hbA (kscr (j := 2) (by omega) hn rfl) dL_law_139 ?_
  refine kw_eq rfl (show ([.int (xs (i + 2)), .int p0, .ref (am 0)] : List Value) = [.int p1, .int p0, .ref (am 0)] from by rw [q1]) rfl ?_
  refine kw_callRi (R := room_1) (cells := cells + 1) (slots := slots + 6) (w0 := wM k am gu gv) (w1 := wM k am (sguM_room gu gv p0 p1) (sgvM_room gu gv p0 p1)) (wr := (wR k ah ar ac ax a (scR_room c t h p0 p1) t (shR_room c t h p0 p1) ++ [(ao, .inl (k 1, 1, .inr (.inl (kout (oR_room c t h p0 p1) (rR_room c t h p0 p1).toInt64 f))))])) (st := []) C (cM_room l D k am gu gv p0 p1 hIm) (cwV 2 C.1.2.2.2.2 (kgV kt_672 kt_673 kt_674 kt_5 kt_675) rfl rfl rfl kdM_room ⟨Nat.le_of_ble_eq_true rfl, Nat.le_of_ble_eq_true rfl⟩) 0 3 rfl rfl rfl rfl rfl (Nat.le_of_ble_eq_true rfl) dL_law_140 ⟨by exact hcs, by exact hss⟩ kad_m ?_
  refine kw_istore (lv' := [(6, .int (rM_room gu gv p0 p1)), (5, .int (kcode (oR_room c t h p0 p1))), (4, .int (nI i)), (0, .ref b), (1, .ref a), (2, .ref (am 0)), (3, .ref ao)]) C dL_law_143 (by decide) rfl ?_
  refine kw_aload_n C 5 dL_law_145 rfl rfl ?_
  refine kw_callRi (R := room_1) (cells := cells + 1) (slots := slots + 6) (w0 := wM k am (sguM_room gu gv p0 p1) (sgvM_room gu gv p0 p1)) (w1 := wM k am (sguM_room gu gv p0 p1) (sgvM_room gu gv p0 p1)) (wr := (wR k ah ar ac ax a (scR_room c t h p0 p1) t (shR_room c t h p0 p1) ++ [(ao, .inl (k 1, 1, .inr (.inl (kout (oR_room c t h p0 p1) (rR_room c t h p0 p1).toInt64 f))))])) (st := []) C (cM_thrown l D k am (sguM_room gu gv p0 p1) (sgvM_room gu gv p0 p1)) (cwV 0 C.1.2.2.2.2 (kgV kt_668 kt_669 kt_670 kt_5 kt_671) rfl rfl rfl kdM_thrown ⟨Nat.le_of_ble_eq_true rfl, Nat.le_of_ble_eq_true rfl⟩) 0 3 rfl rfl rfl rfl rfl (Nat.le_of_ble_eq_true rfl) dL_law_146 ⟨by exact hcs, by exact hss⟩ rfl ?_
  refine kw_iload C 1 dL_law_149 rfl ?_
  refine kw_icmp_eq (tgt := 156) C dL_law_151 (by decide) (fun c_1 => ?_) (fun c_1 => absurd e1 c_1)
  refine kw_iload C 1 dL_law_156 rfl ?_
  refine kw_if_ne (tgt := 173) C dL_law_158 (by decide) (fun c_2 => ?_) (fun c_2 => ?_)
  · refine kw_goto (tgt := 1110) C dL_law_173 (by decide) ?_
    refine kw_sub [2, 3, 4, 5, 6] rfl ?_
    exact kk
  · skip
    refine kw_aload_n C 6 dL_law_161 rfl rfl ?_
    refine kw_iconst (v := 0) C dL_law_162 (by decide) ?_
    refine kw_lald C 38 1 rfl rfl (show kix 0 1 0 from ⟨by unfold vp_in; decide, by decide⟩) dL_law_163 ?_
    refine kw_iload C 0 dL_law_164 rfl ?_
    refine kw_i2l C dL_law_166 ?_
    refine kw_lcmp C dL_law_167 ?_
    refine kw_if_eq (tgt := 173) C dL_law_168 (by decide) (fun c_3 => ?_) (fun c_3 => absurd (kcmp0 (e2 c_2)) c_3)
    refine kw_goto (tgt := 1110) C dL_law_173 (by decide) ?_
    refine kw_sub [2, 3, 4, 5, 6] rfl ?_
    exact kk
set_option maxRecDepth 100000 in
set_option maxHeartbeats 4000000 in
theorem lL_wall {l : Launch} {p : Program} {e : Env} {s : State} {m : MethodId} {args : Array Value} {below : List Frame} {meth : Method} {c0 : Code} {D : va_G} {A : Nat → Prop} {Q : State → Prop} {cells slots : Nat} (k : Nat → ClassId) (ah : Nat → Nat) (ar : Nat → Nat → Nat) (ac ax am : Nat → Nat) (a ao b n i : Nat) (xs : Nat → Int32) (c t : CS) (h : HS) (gu : MU) (gv : MV) (f : Nat → Int64) (p0 p1 p2 : Int32) (q0 : xs (i + 1) = p0) (q1 : xs (i + 2) = p1) (q2 : xs (i + 3) = p2) (hl9 : l.stackTraces = false) (C : kC p s m args c0 code "RoomHoursLaw" kT D kcl (kty k) A 8) (hE : kE s) (hZ : kZ A s s.heap) (hN : kN9 s) (hX : va_X b n xs s s.heap) (hbs : b < s.heap.size) (hbA : ¬ A b) (hn : n ≤ 2560) (hi : i + 5 ≤ n) (hcs : cells + 1 ≤ 601024) (hss : slots + 6 ≤ 7293034) (hI : kInv h) (hIm : mInv gu) (e1 : m_thrown (sguM_wall gu gv p0 p1 p2) = kcode (oR_wall c t h p0 p1 p2)) (e2 : kcode (oR_wall c t h p0 p1 p2) = 0 → (kout (oR_wall c t h p0 p1 p2) (rR_wall c t h p0 p1 p2).toInt64 f) 0 = (rM_wall gu gv p0 p1 p2).toInt64) (kk : kW p l e room_1 s m args below meth c0 D kcl A 8 (cells + 1) (slots + 6) Q 1110 [(4, .int (nI i)), (0, .ref b), (1, .ref a), (2, .ref (am 0)), (3, .ref ao)] [] ((wR k ah ar ac ax a c t (shR_wall c t h p0 p1 p2) ++ [(ao, .inl (k 1, 1, .inr (.inl (kout (oR_wall c t h p0 p1 p2) (rR_wall c t h p0 p1 p2).toInt64 f))))]) ++ wM k am (sguM_wall gu gv p0 p1 p2) gv)) : kW p l e room_1 s m args below meth c0 D kcl A 8 cells slots Q 176 [(4, .int (nI i)), (0, .ref b), (1, .ref a), (2, .ref (am 0)), (3, .ref ao)] [] ((wR k ah ar ac ax a c t h ++ [(ao, .inl (k 1, 1, .inr (.inl f)))]) ++ wM k am gu gv) := by
  refine kw_aload_n C 2 dL_law_176 rfl rfl ?_
  refine kw_aload_n C 1 dL_law_177 rfl rfl ?_
  refine kw_iload C 0 dL_law_178 rfl ?_
  refine kw_iconst (v := 1) C dL_law_180 (by decide) ?_
  refine kw_iadd C dL_law_181 ?_
  refine kw_sld C hX hbs hbA (kscr (j := 1) (by omega) hn rfl) dL_law_182 ?_
  refine kw_eq rfl (show ([.int (xs (i + 1)), .ref a] : List Value) = [.int p0, .ref a] from by rw [q0]) rfl ?_
  refine kw_aload_n C 1 dL_law_183 rfl rfl ?_
  refine kw_iload C 0 dL_law_184 rfl ?_
  refine kw_iconst (v := 2) C dL_law_186 (by decide) ?_
  refine kw_iadd C dL_law_187 ?_
  refine kw_sld C hX hbs hbA (kscr (j := 2) (by omega) hn rfl) dL_law_188 ?_
  refine kw_eq rfl (show ([.int (xs (i + 2)), .int p0, .ref a] : List Value) = [.int p1, .int p0, .ref a] from by rw [q1]) rfl ?_
  refine kw_aload_n C 1 dL_law_189 rfl rfl ?_
  refine kw_iload C 0 dL_law_190 rfl ?_
  refine kw_iconst (v := 3) C dL_law_192 (by decide) ?_
  refine kw_iadd C dL_law_193 ?_
  refine kw_sld C hX hbs hbA (kscr (j := 3) (by omega) hn rfl) dL_law_194 ?_
  refine kw_eq rfl (show ([.int (xs (i + 3)), .int p1, .int p0, .ref a] : List Value) = [.int p2, .int p1, .int p0, .ref a] from by rw [q2]) rfl ?_
  refine kw_aload_n C 4 dL_law_195 rfl rfl ?_
  refine kw_callH (w1 := (wR k ah ar ac ax a c t (shR_wall c t h p0 p1 p2) ++ [(ao, .inl (k 1, 1, .inr (.inl (kout (oR_wall c t h p0 p1 p2) (rR_wall c t h p0 p1 p2).toInt64 f))))])) (wr := wM k am gu gv) (st := []) C hE hZ hN (cL_wall l D k ah ar ac ax a ao c t h f p0 p1 p2 hl9 hI) (vx_cwSW 5 C.1.2.2.2.2 (kgH kt_305 kt_306 kt_0 kt_307) rfl rfl rfl kdL_wall ⟨Nat.le_of_ble_eq_true rfl, Nat.le_of_ble_eq_true rfl⟩) rfl rfl (Nat.le_of_ble_eq_true rfl) dL_law_196 ⟨by exact hcs, by exact hss⟩ kad_o ?_
  refine kw_istore (lv' := [(5, .int (kcode (oR_wall c t h p0 p1 p2))), (4, .int (nI i)), (0, .ref b), (1, .ref a), (2, .ref (am 0)), (3, .ref ao)]) C dL_law_199 (by decide) rfl ?_
  refine kw_aload_n C 4 dL_law_201 rfl rfl ?_
  refine kw_aload_n C 2 dL_law_202 rfl rfl ?_
  refine kw_iload C 1 dL_law_203 rfl ?_
  refine kw_iconst (v := 1) C dL_law_205 (by decide) ?_
  refine kw_iadd C dL_law_206 ?_
  refine kw_sld C hX hbs hbA (kscr (j := 1) (by omega) hn rfl) dL_law_207 ?_
  refine kw_eq rfl (show ([.int (xs (i + 1)), .ref (am 0)] : List Value) = [.int p0, .ref (am 0)] from by rw [q0]) rfl ?_
  refine kw_aload_n C 2 dL_law_208 rfl rfl ?_
  refine kw_iload C 1 dL_law_209 rfl ?_
  refine kw_iconst (v := 2) C dL_law_211 (by decide) ?_
  refine kw_iadd C dL_law_212 ?_
  refine kw_sld C hX hbs hbA (kscr (j := 2) (by omega) hn rfl) dL_law_213 ?_
  refine kw_eq rfl (show ([.int (xs (i + 2)), .int p0, .ref (am 0)] : List Value) = [.int p1, .int p0, .ref (am 0)] from by rw [q1]) rfl ?_
  refine kw_aload_n C 2 dL_law_214 rfl rfl ?_
  refine kw_iload C 1 dL_law_215 rfl ?_
  refine kw_iconst (v := 3) C dL_law_217 (by decide) ?_
  refine kw_iadd C dL_law_218 ?_
  refine kw_sld C hX hbs hbA (kscr (j := 3) (by omega) hn rfl) dL_law_219 ?_
  refine kw_eq rfl (show ([.int (xs (i + 3)), .int p1, .int p0, .ref (am 0)] : List Value) = [.int p2, .int p1, .int p0, .ref (am 0)] from by rw [q2]) rfl ?_
  refine kw_callRi (R := room_1) (cells := cells + 1) (slots := slots + 6) (w0 := wM k am gu gv) (w1 := wM k am (sguM_wall gu gv p0 p1 p2) gv) (wr := (wR k ah ar ac ax a c t (shR_wall c t h p0 p1 p2) ++ [(ao, .inl (k 1, 1, .inr (.inl (kout (oR_wall c t h p0 p1 p2) (rR_wall c t h p0 p1 p2).toInt64 f))))])) (st := []) C (cM_wall l D k am gu gv p0 p1 p2 hIm) (cwV 3 C.1.2.2.2.2 (kgV kt_682 kt_683 kt_684 kt_5 kt_685) rfl rfl rfl kdM_wall ⟨Nat.le_of_ble_eq_true rfl, Nat.le_of_ble_eq_true rfl⟩) 0 3 rfl rfl rfl rfl rfl (Nat.le_of_ble_eq_true rfl) dL_law_220 ⟨by exact hcs, by exact hss⟩ kad_m ?_
  refine kw_istore (lv' := [(6, .int (rM_wall gu gv p0 p1 p2)), (5, .int (kcode (oR_wall c t h p0 p1 p2))), (4, .int (nI i)), (0, .ref b), (1, .ref a), (2, .ref (am 0)), (3, .ref ao)]) C dL_law_223 (by decide) rfl ?_
  refine kw_aload_n C 5 dL_law_225 rfl rfl ?_
  refine kw_callRi (R := room_1) (cells := cells + 1) (slots := slots + 6) (w0 := wM k am (sguM_wall gu gv p0 p1 p2) gv) (w1 := wM k am (sguM_wall gu gv p0 p1 p2) gv) (wr := (wR k ah ar ac ax a c t (shR_wall c t h p0 p1 p2) ++ [(ao, .inl (k 1, 1, .inr (.inl (kout (oR_wall c t h p0 p1 p2) (rR_wall c t h p0 p1 p2).toInt64 f))))])) (st := []) C (cM_thrown l D k am (sguM_wall gu gv p0 p1 p2) gv) (cwV 0 C.1.2.2.2.2 (kgV kt_668 kt_669 kt_670 kt_5 kt_671) rfl rfl rfl kdM_thrown ⟨Nat.le_of_ble_eq_true rfl, Nat.le_of_ble_eq_true rfl⟩) 0 3 rfl rfl rfl rfl rfl (Nat.le_of_ble_eq_true rfl) dL_law_226 ⟨by exact hcs, by exact hss⟩ rfl ?_
  refine kw_iload C 1 dL_law_229 rfl ?_
  refine kw_icmp_eq (tgt := 236) C dL_law_231 (by decide) (fun c_1 => ?_) (fun c_1 => absurd e1 c_1)
  refine kw_iload C 1 dL_law_236 rfl ?_
  refine kw_if_ne (tgt := 253) C dL_law_238 (by decide) (fun c_2 => ?_) (fun c_2 => ?_)
  · refine kw_goto (tgt := 1110) C dL_law_253 (by decide) ?_
    refine kw_sub [2, 3, 4, 5, 6] rfl ?_
    exact kk
  · skip
    refine kw_aload_n C 6 dL_law_241 rfl rfl ?_
    refine kw_iconst (v := 0) C dL_law_242 (by decide) ?_
    refine kw_lald C 38 1 rfl rfl (show kix 0 1 0 from ⟨by unfold vp_in; decide, by decide⟩) dL_law_243 ?_
    refine kw_iload C 0 dL_law_244 rfl ?_
    refine kw_i2l C dL_law_246 ?_
    refine kw_lcmp C dL_law_247 ?_
    refine kw_if_eq (tgt := 253) C dL_law_248 (by decide) (fun c_3 => ?_) (fun c_3 => absurd (kcmp0 (e2 c_2)) c_3)
    refine kw_goto (tgt := 1110) C dL_law_253 (by decide) ?_
    refine kw_sub [2, 3, 4, 5, 6] rfl ?_
    exact kk
set_option maxRecDepth 100000 in
set_option maxHeartbeats 4000000 in
theorem lL_leads {l : Launch} {p : Program} {e : Env} {s : State} {m : MethodId} {args : Array Value} {below : List Frame} {meth : Method} {c0 : Code} {D : va_G} {A : Nat → Prop} {Q : State → Prop} {cells slots : Nat} (k : Nat → ClassId) (ah : Nat → Nat) (ar : Nat → Nat → Nat) (ac ax am : Nat → Nat) (a ao b n i : Nat) (xs : Nat → Int32) (c t : CS) (h : HS) (gu : MU) (gv : MV) (f : Nat → Int64) (p0 p1 : Int32) (q0 : xs (i + 1) = p0) (q1 : xs (i + 2) = p1) (hl9 : l.stackTraces = false) (C : kC p s m args c0 code "RoomHoursLaw" kT D kcl (kty k) A 8) (hE : kE s) (hZ : kZ A s s.heap) (hN : kN9 s) (hX : va_X b n xs s s.heap) (hbs : b < s.heap.size) (hbA : ¬ A b) (hn : n ≤ 2560) (hi : i + 5 ≤ n) (hcs : cells + 1 ≤ 601024) (hss : slots + 6 ≤ 7293034) (hI : kInv h) (hIm : mInv gu) (e1 : m_thrown (sguM_leads gu gv p0 p1) = kcode (oR_leads c t h p0 p1)) (e2 : kcode (oR_leads c t h p0 p1) = 0 → (kout (oR_leads c t h p0 p1) (rR_leads c t h p0 p1).toInt64 f) 0 = (rM_leads gu gv p0 p1).toInt64) (kk : kW p l e room_1 s m args below meth c0 D kcl A 8 (cells + 1) (slots + 6) Q 1110 [(4, .int (nI i)), (0, .ref b), (1, .ref a), (2, .ref (am 0)), (3, .ref ao)] [] ((wR k ah ar ac ax a c t (shR_leads c t h p0 p1) ++ [(ao, .inl (k 1, 1, .inr (.inl (kout (oR_leads c t h p0 p1) (rR_leads c t h p0 p1).toInt64 f))))]) ++ wM k am (sguM_leads gu gv p0 p1) gv)) : kW p l e room_1 s m args below meth c0 D kcl A 8 cells slots Q 256 [(4, .int (nI i)), (0, .ref b), (1, .ref a), (2, .ref (am 0)), (3, .ref ao)] [] ((wR k ah ar ac ax a c t h ++ [(ao, .inl (k 1, 1, .inr (.inl f)))]) ++ wM k am gu gv) := by
  refine kw_aload_n C 2 dL_law_256 rfl rfl ?_
  refine kw_aload_n C 1 dL_law_257 rfl rfl ?_
  refine kw_iload C 0 dL_law_258 rfl ?_
  refine kw_iconst (v := 1) C dL_law_260 (by decide) ?_
  refine kw_iadd C dL_law_261 ?_
  refine kw_sld C hX hbs hbA (kscr (j := 1) (by omega) hn rfl) dL_law_262 ?_
  refine kw_eq rfl (show ([.int (xs (i + 1)), .ref a] : List Value) = [.int p0, .ref a] from by rw [q0]) rfl ?_
  refine kw_aload_n C 1 dL_law_263 rfl rfl ?_
  refine kw_iload C 0 dL_law_264 rfl ?_
  refine kw_iconst (v := 2) C dL_law_266 (by decide) ?_
  refine kw_iadd C dL_law_267 ?_
  refine kw_sld C hX hbs hbA (kscr (j := 2) (by omega) hn rfl) dL_law_268 ?_
  refine kw_eq rfl (show ([.int (xs (i + 2)), .int p0, .ref a] : List Value) = [.int p1, .int p0, .ref a] from by rw [q1]) rfl ?_
  refine kw_aload_n C 4 dL_law_269 rfl rfl ?_
  refine kw_callH (w1 := (wR k ah ar ac ax a c t (shR_leads c t h p0 p1) ++ [(ao, .inl (k 1, 1, .inr (.inl (kout (oR_leads c t h p0 p1) (rR_leads c t h p0 p1).toInt64 f))))])) (wr := wM k am gu gv) (st := []) C hE hZ hN (cL_leads l D k ah ar ac ax a ao c t h f p0 p1 hl9 hI) (vx_cwSW 4 C.1.2.2.2.2 (kgH kt_332 kt_333 kt_0 kt_334) rfl rfl rfl kdL_leads ⟨Nat.le_of_ble_eq_true rfl, Nat.le_of_ble_eq_true rfl⟩) rfl rfl (Nat.le_of_ble_eq_true rfl) dL_law_270 ⟨by exact hcs, by exact hss⟩ kad_o ?_
  refine kw_istore (lv' := [(5, .int (kcode (oR_leads c t h p0 p1))), (4, .int (nI i)), (0, .ref b), (1, .ref a), (2, .ref (am 0)), (3, .ref ao)]) C dL_law_273 (by decide) rfl ?_
  refine kw_aload_n C 4 dL_law_275 rfl rfl ?_
  refine kw_aload_n C 2 dL_law_276 rfl rfl ?_
  refine kw_iload C 1 dL_law_277 rfl ?_
  refine kw_iconst (v := 1) C dL_law_279 (by decide) ?_
  refine kw_iadd C dL_law_280 ?_
  refine kw_sld C hX hbs hbA (kscr (j := 1) (by omega) hn rfl) dL_law_281 ?_
  refine kw_eq rfl (show ([.int (xs (i + 1)), .ref (am 0)] : List Value) = [.int p0, .ref (am 0)] from by rw [q0]) rfl ?_
  refine kw_aload_n C 2 dL_law_282 rfl rfl ?_
  refine kw_iload C 1 dL_law_283 rfl ?_
  refine kw_iconst (v := 2) C dL_law_285 (by decide) ?_
  refine kw_iadd C dL_law_286 ?_
  refine kw_sld C hX hbs hbA (kscr (j := 2) (by omega) hn rfl) dL_law_287 ?_
  refine kw_eq rfl (show ([.int (xs (i + 2)), .int p0, .ref (am 0)] : List Value) = [.int p1, .int p0, .ref (am 0)] from by rw [q1]) rfl ?_
  refine kw_callRi (R := room_1) (cells := cells + 1) (slots := slots + 6) (w0 := wM k am gu gv) (w1 := wM k am (sguM_leads gu gv p0 p1) gv) (wr := (wR k ah ar ac ax a c t (shR_leads c t h p0 p1) ++ [(ao, .inl (k 1, 1, .inr (.inl (kout (oR_leads c t h p0 p1) (rR_leads c t h p0 p1).toInt64 f))))])) (st := []) C (cM_leads l D k am gu gv p0 p1 hIm) (cwV 2 C.1.2.2.2.2 (kgV kt_695 kt_696 kt_697 kt_5 kt_698) rfl rfl rfl kdM_leads ⟨Nat.le_of_ble_eq_true rfl, Nat.le_of_ble_eq_true rfl⟩) 0 3 rfl rfl rfl rfl rfl (Nat.le_of_ble_eq_true rfl) dL_law_288 ⟨by exact hcs, by exact hss⟩ kad_m ?_
  refine kw_istore (lv' := [(6, .int (rM_leads gu gv p0 p1)), (5, .int (kcode (oR_leads c t h p0 p1))), (4, .int (nI i)), (0, .ref b), (1, .ref a), (2, .ref (am 0)), (3, .ref ao)]) C dL_law_291 (by decide) rfl ?_
  refine kw_aload_n C 5 dL_law_293 rfl rfl ?_
  refine kw_callRi (R := room_1) (cells := cells + 1) (slots := slots + 6) (w0 := wM k am (sguM_leads gu gv p0 p1) gv) (w1 := wM k am (sguM_leads gu gv p0 p1) gv) (wr := (wR k ah ar ac ax a c t (shR_leads c t h p0 p1) ++ [(ao, .inl (k 1, 1, .inr (.inl (kout (oR_leads c t h p0 p1) (rR_leads c t h p0 p1).toInt64 f))))])) (st := []) C (cM_thrown l D k am (sguM_leads gu gv p0 p1) gv) (cwV 0 C.1.2.2.2.2 (kgV kt_668 kt_669 kt_670 kt_5 kt_671) rfl rfl rfl kdM_thrown ⟨Nat.le_of_ble_eq_true rfl, Nat.le_of_ble_eq_true rfl⟩) 0 3 rfl rfl rfl rfl rfl (Nat.le_of_ble_eq_true rfl) dL_law_294 ⟨by exact hcs, by exact hss⟩ rfl ?_
  refine kw_iload C 1 dL_law_297 rfl ?_
  refine kw_icmp_eq (tgt := 304) C dL_law_299 (by decide) (fun c_1 => ?_) (fun c_1 => absurd e1 c_1)
  refine kw_iload C 1 dL_law_304 rfl ?_
  refine kw_if_ne (tgt := 321) C dL_law_306 (by decide) (fun c_2 => ?_) (fun c_2 => ?_)
  · refine kw_goto (tgt := 1110) C dL_law_321 (by decide) ?_
    refine kw_sub [2, 3, 4, 5, 6] rfl ?_
    exact kk
  · skip
    refine kw_aload_n C 6 dL_law_309 rfl rfl ?_
    refine kw_iconst (v := 0) C dL_law_310 (by decide) ?_
    refine kw_lald C 38 1 rfl rfl (show kix 0 1 0 from ⟨by unfold vp_in; decide, by decide⟩) dL_law_311 ?_
    refine kw_iload C 0 dL_law_312 rfl ?_
    refine kw_i2l C dL_law_314 ?_
    refine kw_lcmp C dL_law_315 ?_
    refine kw_if_eq (tgt := 321) C dL_law_316 (by decide) (fun c_3 => ?_) (fun c_3 => absurd (kcmp0 (e2 c_2)) c_3)
    refine kw_goto (tgt := 1110) C dL_law_321 (by decide) ?_
    refine kw_sub [2, 3, 4, 5, 6] rfl ?_
    exact kk
set_option maxRecDepth 100000 in
set_option maxHeartbeats 4000000 in
theorem lL_window {l : Launch} {p : Program} {e : Env} {s : State} {m : MethodId} {args : Array Value} {below : List Frame} {meth : Method} {c0 : Code} {D : va_G} {A : Nat → Prop} {Q : State → Prop} {cells slots : Nat} (k : Nat → ClassId) (ah : Nat → Nat) (ar : Nat → Nat → Nat) (ac ax am : Nat → Nat) (a ao b n i : Nat) (xs : Nat → Int32) (c t : CS) (h : HS) (gu : MU) (gv : MV) (f : Nat → Int64) (p0 p1 p2 p3 : Int32) (q0 : xs (i + 1) = p0) (q1 : xs (i + 2) = p1) (q2 : xs (i + 3) = p2) (q3 : xs (i + 4) = p3) (hl9 : l.stackTraces = false) (C : kC p s m args c0 code "RoomHoursLaw" kT D kcl (kty k) A 8) (hE : kE s) (hZ : kZ A s s.heap) (hN : kN9 s) (hX : va_X b n xs s s.heap) (hbs : b < s.heap.size) (hbA : ¬ A b) (hn : n ≤ 2560) (hi : i + 5 ≤ n) (hcs : cells + 1 ≤ 601024) (hss : slots + 6 ≤ 7293034) (hI : kInv h) (hIm : mInv gu) (e1 : m_thrown (sguM_window gu gv p0 p1 p2 p3) = kcode (oR_window c t h p0 p1 p2 p3)) (e2 : kcode (oR_window c t h p0 p1 p2 p3) = 0 → (kout (oR_window c t h p0 p1 p2 p3) (rR_window c t h p0 p1 p2 p3).toInt64 f) 0 = (rM_window gu gv p0 p1 p2 p3).toInt64) (kk : kW p l e room_1 s m args below meth c0 D kcl A 8 (cells + 1) (slots + 6) Q 1110 [(4, .int (nI i)), (0, .ref b), (1, .ref a), (2, .ref (am 0)), (3, .ref ao)] [] ((wR k ah ar ac ax a c t (shR_window c t h p0 p1 p2 p3) ++ [(ao, .inl (k 1, 1, .inr (.inl (kout (oR_window c t h p0 p1 p2 p3) (rR_window c t h p0 p1 p2 p3).toInt64 f))))]) ++ wM k am (sguM_window gu gv p0 p1 p2 p3) gv)) : kW p l e room_1 s m args below meth c0 D kcl A 8 cells slots Q 324 [(4, .int (nI i)), (0, .ref b), (1, .ref a), (2, .ref (am 0)), (3, .ref ao)] [] ((wR k ah ar ac ax a c t h ++ [(ao, .inl (k 1, 1, .inr (.inl f)))]) ++ wM k am gu gv) := by
  refine kw_aload_n C 2 dL_law_324 rfl rfl ?_
  refine kw_aload_n C 1 dL_law_325 rfl rfl ?_
  refine kw_iload C 0 dL_law_326 rfl ?_
  refine kw_iconst (v := 1) C dL_law_328 (by decide) ?_
  refine kw_iadd C dL_law_329 ?_
  refine kw_sld C hX hbs hbA (kscr (j := 1) (by omega) hn rfl) dL_law_330 ?_
  refine kw_eq rfl (show ([.int (xs (i + 1)), .ref a] : List Value) = [.int p0, .ref a] from by rw [q0]) rfl ?_
  refine kw_aload_n C 1 dL_law_331 rfl rfl ?_
  refine kw_iload C 0 dL_law_332 rfl ?_
  refine kw_iconst (v := 2) C dL_law_334 (by decide) ?_
  refine kw_iadd C dL_law_335 ?_
  refine kw_sld C hX hbs hbA (kscr (j := 2) (by omega) hn rfl) dL_law_336 ?_
  refine kw_eq rfl (show ([.int (xs (i + 2)), .int p0, .ref a] : List Value) = [.int p1, .int p0, .ref a] from by rw [q1]) rfl ?_
  refine kw_aload_n C 1 dL_law_337 rfl rfl ?_
  refine kw_iload C 0 dL_law_338 rfl ?_
  refine kw_iconst (v := 3) C dL_law_340 (by decide) ?_
  refine kw_iadd C dL_law_341 ?_
  refine kw_sld C hX hbs hbA (kscr (j := 3) (by omega) hn rfl) dL_law_342 ?_
  refine kw_eq rfl (show ([.int (xs (i + 3)), .int p1, .int p0, .ref a] : List Value) = [.int p2, .int p1, .int p0, .ref a] from by rw [q2]) rfl ?_
  refine kw_aload_n C 1 dL_law_343 rfl rfl ?_
  refine kw_iload C 0 dL_law_344 rfl ?_
  refine kw_iconst (v := 4) C dL_law_346 (by decide) ?_
  refine kw_iadd C dL_law_347 ?_
  refine kw_sld C hX hbs hbA (kscr (j := 4) (by omega) hn rfl) dL_law_348 ?_
  refine kw_eq rfl (show ([.int (xs (i + 4)), .int p2, .int p1, .int p0, .ref a] : List Value) = [.int p3, .int p2, .int p1, .int p0, .ref a] from by rw [q3]) rfl ?_
  refine kw_aload_n C 4 dL_law_349 rfl rfl ?_
  refine kw_callH (w1 := (wR k ah ar ac ax a c t (shR_window c t h p0 p1 p2 p3) ++ [(ao, .inl (k 1, 1, .inr (.inl (kout (oR_window c t h p0 p1 p2 p3) (rR_window c t h p0 p1 p2 p3).toInt64 f))))])) (wr := wM k am gu gv) (st := []) C hE hZ hN (cL_window l D k ah ar ac ax a ao c t h f p0 p1 p2 p3 hl9 hI) (vx_cwSW 6 C.1.2.2.2.2 (kgH kt_342 kt_343 kt_0 kt_344) rfl rfl rfl kdL_window ⟨Nat.le_of_ble_eq_true rfl, Nat.le_of_ble_eq_true rfl⟩) rfl rfl (Nat.le_of_ble_eq_true rfl) dL_law_350 ⟨by exact hcs, by exact hss⟩ kad_o ?_
  refine kw_istore (lv' := [(5, .int (kcode (oR_window c t h p0 p1 p2 p3))), (4, .int (nI i)), (0, .ref b), (1, .ref a), (2, .ref (am 0)), (3, .ref ao)]) C dL_law_353 (by decide) rfl ?_
  refine kw_aload_n C 4 dL_law_355 rfl rfl ?_
  refine kw_aload_n C 2 dL_law_356 rfl rfl ?_
  refine kw_iload C 1 dL_law_357 rfl ?_
  refine kw_iconst (v := 1) C dL_law_359 (by decide) ?_
  refine kw_iadd C dL_law_360 ?_
  refine kw_sld C hX hbs hbA (kscr (j := 1) (by omega) hn rfl) dL_law_361 ?_
  refine kw_eq rfl (show ([.int (xs (i + 1)), .ref (am 0)] : List Value) = [.int p0, .ref (am 0)] from by rw [q0]) rfl ?_
  refine kw_aload_n C 2 dL_law_362 rfl rfl ?_
  refine kw_iload C 1 dL_law_363 rfl ?_
  refine kw_iconst (v := 2) C dL_law_365 (by decide) ?_
  refine kw_iadd C dL_law_366 ?_
  refine kw_sld C hX hbs hbA (kscr (j := 2) (by omega) hn rfl) dL_law_367 ?_
  refine kw_eq rfl (show ([.int (xs (i + 2)), .int p0, .ref (am 0)] : List Value) = [.int p1, .int p0, .ref (am 0)] from by rw [q1]) rfl ?_
  refine kw_aload_n C 2 dL_law_368 rfl rfl ?_
  refine kw_iload C 1 dL_law_369 rfl ?_
  refine kw_iconst (v := 3) C dL_law_371 (by decide) ?_
  refine kw_iadd C dL_law_372 ?_
  refine kw_sld C hX hbs hbA (kscr (j := 3) (by omega) hn rfl) dL_law_373 ?_
  refine kw_eq rfl (show ([.int (xs (i + 3)), .int p1, .int p0, .ref (am 0)] : List Value) = [.int p2, .int p1, .int p0, .ref (am 0)] from by rw [q2]) rfl ?_
  refine kw_aload_n C 2 dL_law_374 rfl rfl ?_
  refine kw_iload C 1 dL_law_375 rfl ?_
  refine kw_iconst (v := 4) C dL_law_377 (by decide) ?_
  refine kw_iadd C dL_law_378 ?_
  refine kw_sld C hX hbs hbA (kscr (j := 4) (by omega) hn rfl) dL_law_379 ?_
  refine kw_eq rfl (show ([.int (xs (i + 4)), .int p2, .int p1, .int p0, .ref (am 0)] : List Value) = [.int p3, .int p2, .int p1, .int p0, .ref (am 0)] from by rw [q3]) rfl ?_
  refine kw_callRi (R := room_1) (cells := cells + 1) (slots := slots + 6) (w0 := wM k am gu gv) (w1 := wM k am (sguM_window gu gv p0 p1 p2 p3) gv) (wr := (wR k ah ar ac ax a c t (shR_window c t h p0 p1 p2 p3) ++ [(ao, .inl (k 1, 1, .inr (.inl (kout (oR_window c t h p0 p1 p2 p3) (rR_window c t h p0 p1 p2 p3).toInt64 f))))])) (st := []) C (cM_window l D k am gu gv p0 p1 p2 p3 hIm) (cwV 4 C.1.2.2.2.2 (kgV kt_699 kt_700 kt_701 kt_5 kt_702) rfl rfl rfl kdM_window ⟨Nat.le_of_ble_eq_true rfl, Nat.le_of_ble_eq_true rfl⟩) 0 3 rfl rfl rfl rfl rfl (Nat.le_of_ble_eq_true rfl) dL_law_380 ⟨by exact hcs, by exact hss⟩ kad_m ?_
  refine kw_istore (lv' := [(6, .int (rM_window gu gv p0 p1 p2 p3)), (5, .int (kcode (oR_window c t h p0 p1 p2 p3))), (4, .int (nI i)), (0, .ref b), (1, .ref a), (2, .ref (am 0)), (3, .ref ao)]) C dL_law_383 (by decide) rfl ?_
  refine kw_aload_n C 5 dL_law_385 rfl rfl ?_
  refine kw_callRi (R := room_1) (cells := cells + 1) (slots := slots + 6) (w0 := wM k am (sguM_window gu gv p0 p1 p2 p3) gv) (w1 := wM k am (sguM_window gu gv p0 p1 p2 p3) gv) (wr := (wR k ah ar ac ax a c t (shR_window c t h p0 p1 p2 p3) ++ [(ao, .inl (k 1, 1, .inr (.inl (kout (oR_window c t h p0 p1 p2 p3) (rR_window c t h p0 p1 p2 p3).toInt64 f))))])) (st := []) C (cM_thrown l D k am (sguM_window gu gv p0 p1 p2 p3) gv) (cwV 0 C.1.2.2.2.2 (kgV kt_668 kt_669 kt_670 kt_5 kt_671) rfl rfl rfl kdM_thrown ⟨Nat.le_of_ble_eq_true rfl, Nat.le_of_ble_eq_true rfl⟩) 0 3 rfl rfl rfl rfl rfl (Nat.le_of_ble_eq_true rfl) dL_law_386 ⟨by exact hcs, by exact hss⟩ rfl ?_
  refine kw_iload C 1 dL_law_389 rfl ?_
  refine kw_icmp_eq (tgt := 396) C dL_law_391 (by decide) (fun c_1 => ?_) (fun c_1 => absurd e1 c_1)
  refine kw_iload C 1 dL_law_396 rfl ?_
  refine kw_if_ne (tgt := 413) C dL_law_398 (by decide) (fun c_2 => ?_) (fun c_2 => ?_)
  · refine kw_goto (tgt := 1110) C dL_law_413 (by decide) ?_
    refine kw_sub [2, 3, 4, 5, 6] rfl ?_
    exact kk
  · skip
    refine kw_aload_n C 6 dL_law_401 rfl rfl ?_
    refine kw_iconst (v := 0) C dL_law_402 (by decide) ?_
    refine kw_lald C 38 1 rfl rfl (show kix 0 1 0 from ⟨by unfold vp_in; decide, by decide⟩) dL_law_403 ?_
    refine kw_iload C 0 dL_law_404 rfl ?_
    refine kw_i2l C dL_law_406 ?_
    refine kw_lcmp C dL_law_407 ?_
    refine kw_if_eq (tgt := 413) C dL_law_408 (by decide) (fun c_3 => ?_) (fun c_3 => absurd (kcmp0 (e2 c_2)) c_3)
    refine kw_goto (tgt := 1110) C dL_law_413 (by decide) ?_
    refine kw_sub [2, 3, 4, 5, 6] rfl ?_
    exact kk
set_option maxRecDepth 100000 in
set_option maxHeartbeats 4000000 in
theorem lL_outside {l : Launch} {p : Program} {e : Env} {s : State} {m : MethodId} {args : Array Value} {below : List Frame} {meth : Method} {c0 : Code} {D : va_G} {A : Nat → Prop} {Q : State → Prop} {cells slots : Nat} (k : Nat → ClassId) (ah : Nat → Nat) (ar : Nat → Nat → Nat) (ac ax am : Nat → Nat) (a ao b n i : Nat) (xs : Nat → Int32) (c t : CS) (h : HS) (gu : MU) (gv : MV) (f : Nat → Int64) (p0 p1 : Int32) (q0 : xs (i + 1) = p0) (q1 : xs (i + 2) = p1) (hl9 : l.stackTraces = false) (C : kC p s m args c0 code "RoomHoursLaw" kT D kcl (kty k) A 8) (hE : kE s) (hZ : kZ A s s.heap) (hN : kN9 s) (hX : va_X b n xs s s.heap) (hbs : b < s.heap.size) (hbA : ¬ A b) (hn : n ≤ 2560) (hi : i + 5 ≤ n) (hcs : cells + 1 ≤ 601024) (hss : slots + 6 ≤ 7293034)  (hIm : mInv gu) (e1 : m_thrown (sguM_outside gu gv p0 p1) = kcode (oR_outside c t h p0 p1)) (e2 : kcode (oR_outside c t h p0 p1) = 0 → (kout (oR_outside c t h p0 p1) (rR_outside c t h p0 p1).toInt64 f) 0 = (rM_outside gu gv p0 p1).toInt64) (kk : kW p l e room_1 s m args below meth c0 D kcl A 8 (cells + 1) (slots + 6) Q 1110 [(4, .int (nI i)), (0, .ref b), (1, .ref a), (2, .ref (am 0)), (3, .ref ao)] [] ((wR k ah ar ac ax a c t (shR_outside c t h p0 p1) ++ [(ao, .inl (k 1, 1, .inr (.inl (kout (oR_outside c t h p0 p1) (rR_outside c t h p0 p1).toInt64 f))))]) ++ wM k am (sguM_outside gu gv p0 p1) gv)) : kW p l e room_1 s m args below meth c0 D kcl A 8 cells slots Q 416 [(4, .int (nI i)), (0, .ref b), (1, .ref a), (2, .ref (am 0)), (3, .ref ao)] [] ((wR k ah ar ac ax a c t h ++ [(ao, .inl (k 1, 1, .inr (.inl f)))]) ++ wM k am gu gv) := by
  refine kw_aload_n C 2 dL_law_416 rfl rfl ?_
  refine kw_aload_n C 1 dL_law_417 rfl rfl ?_
  refine kw_iload C 0 dL_law_418 rfl ?_
  refine kw_iconst (v := 1) C dL_law_420 (by decide) ?_
  refine kw_iadd C dL_law_421 ?_
  refine kw_sld C hX hbs hbA (kscr (j := 1) (by omega) hn rfl) dL_law_422 ?_
  refine kw_eq rfl (show ([.int (xs (i + 1)), .ref a] : List Value) = [.int p0, .ref a] from by rw [q0]) rfl ?_
  refine kw_aload_n C 1 dL_law_423 rfl rfl ?_
  refine kw_iload C 0 dL_law_424 rfl ?_
  refine kw_iconst (v := 2) C dL_law_426 (by decide) ?_
  refine kw_iadd C dL_law_427 ?_
  refine kw_sld C hX hbs hbA (kscr (j := 2) (by omega) hn rfl) dL_law_428 ?_
  refine kw_eq rfl (show ([.int (xs (i + 2)), .int p0, .ref a] : List Value) = [.int p1, .int p0, .ref a] from by rw [q1]) rfl ?_
  refine kw_aload_n C 4 dL_law_429 rfl rfl ?_
  refine kw_callH (w1 := (wR k ah ar ac ax a c t (shR_outside c t h p0 p1) ++ [(ao, .inl (k 1, 1, .inr (.inl (kout (oR_outside c t h p0 p1) (rR_outside c t h p0 p1).toInt64 f))))])) (wr := wM k am gu gv) (st := []) C hE hZ hN (cL_outside l D k ah ar ac ax a ao c t h f p0 p1 hl9) (vx_cwSW 4 C.1.2.2.2.2 (kgH kt_359 kt_360 kt_0 kt_361) rfl rfl rfl kdL_outside ⟨Nat.le_of_ble_eq_true rfl, Nat.le_of_ble_eq_true rfl⟩) rfl rfl (Nat.le_of_ble_eq_true rfl) dL_law_430 ⟨by exact hcs, by exact hss⟩ kad_o ?_
  refine kw_istore (lv' := [(5, .int (kcode (oR_outside c t h p0 p1))), (4, .int (nI i)), (0, .ref b), (1, .ref a), (2, .ref (am 0)), (3, .ref ao)]) C dL_law_433 (by decide) rfl ?_
  refine kw_aload_n C 4 dL_law_435 rfl rfl ?_
  refine kw_aload_n C 2 dL_law_436 rfl rfl ?_
  refine kw_iload C 1 dL_law_437 rfl ?_
  refine kw_iconst (v := 1) C dL_law_439 (by decide) ?_
  refine kw_iadd C dL_law_440 ?_
  refine kw_sld C hX hbs hbA (kscr (j := 1) (by omega) hn rfl) dL_law_441 ?_
  refine kw_eq rfl (show ([.int (xs (i + 1)), .ref (am 0)] : List Value) = [.int p0, .ref (am 0)] from by rw [q0]) rfl ?_
  refine kw_aload_n C 2 dL_law_442 rfl rfl ?_
  refine kw_iload C 1 dL_law_443 rfl ?_
  refine kw_iconst (v := 2) C dL_law_445 (by decide) ?_
  refine kw_iadd C dL_law_446 ?_
  refine kw_sld C hX hbs hbA (kscr (j := 2) (by omega) hn rfl) dL_law_447 ?_
  refine kw_eq rfl (show ([.int (xs (i + 2)), .int p0, .ref (am 0)] : List Value) = [.int p1, .int p0, .ref (am 0)] from by rw [q1]) rfl ?_
  refine kw_callRi (R := room_1) (cells := cells + 1) (slots := slots + 6) (w0 := wM k am gu gv) (w1 := wM k am (sguM_outside gu gv p0 p1) gv) (wr := (wR k ah ar ac ax a c t (shR_outside c t h p0 p1) ++ [(ao, .inl (k 1, 1, .inr (.inl (kout (oR_outside c t h p0 p1) (rR_outside c t h p0 p1).toInt64 f))))])) (st := []) C (cM_outside l D k am gu gv p0 p1 hIm) (cwV 2 C.1.2.2.2.2 (kgV kt_703 kt_704 kt_705 kt_5 kt_706) rfl rfl rfl kdM_outside ⟨Nat.le_of_ble_eq_true rfl, Nat.le_of_ble_eq_true rfl⟩) 0 3 rfl rfl rfl rfl rfl (Nat.le_of_ble_eq_true rfl) dL_law_448 ⟨by exact hcs, by exact hss⟩ kad_m ?_
  refine kw_istore (lv' := [(6, .int (rM_outside gu gv p0 p1)), (5, .int (kcode (oR_outside c t h p0 p1))), (4, .int (nI i)), (0, .ref b), (1, .ref a), (2, .ref (am 0)), (3, .ref ao)]) C dL_law_451 (by decide) rfl ?_
  refine kw_aload_n C 5 dL_law_453 rfl rfl ?_
  refine kw_callRi (R := room_1) (cells := cells + 1) (slots := slots + 6) (w0 := wM k am (sguM_outside gu gv p0 p1) gv) (w1 := wM k am (sguM_outside gu gv p0 p1) gv) (wr := (wR k ah ar ac ax a c t (shR_outside c t h p0 p1) ++ [(ao, .inl (k 1, 1, .inr (.inl (kout (oR_outside c t h p0 p1) (rR_outside c t h p0 p1).toInt64 f))))])) (st := []) C (cM_thrown l D k am (sguM_outside gu gv p0 p1) gv) (cwV 0 C.1.2.2.2.2 (kgV kt_668 kt_669 kt_670 kt_5 kt_671) rfl rfl rfl kdM_thrown ⟨Nat.le_of_ble_eq_true rfl, Nat.le_of_ble_eq_true rfl⟩) 0 3 rfl rfl rfl rfl rfl (Nat.le_of_ble_eq_true rfl) dL_law_454 ⟨by exact hcs, by exact hss⟩ rfl ?_
  refine kw_iload C 1 dL_law_457 rfl ?_
  refine kw_icmp_eq (tgt := 464) C dL_law_459 (by decide) (fun c_1 => ?_) (fun c_1 => absurd e1 c_1)
  refine kw_iload C 1 dL_law_464 rfl ?_
  refine kw_if_ne (tgt := 481) C dL_law_466 (by decide) (fun c_2 => ?_) (fun c_2 => ?_)
  · refine kw_goto (tgt := 1110) C dL_law_481 (by decide) ?_
    refine kw_sub [2, 3, 4, 5, 6] rfl ?_
    exact kk
  · skip
    refine kw_aload_n C 6 dL_law_469 rfl rfl ?_
    refine kw_iconst (v := 0) C dL_law_470 (by decide) ?_
    refine kw_lald C 38 1 rfl rfl (show kix 0 1 0 from ⟨by unfold vp_in; decide, by decide⟩) dL_law_471 ?_
    refine kw_iload C 0 dL_law_472 rfl ?_
    refine kw_i2l C dL_law_474 ?_
    refine kw_lcmp C dL_law_475 ?_
    refine kw_if_eq (tgt := 481) C dL_law_476 (by decide) (fun c_3 => ?_) (fun c_3 => absurd (kcmp0 (e2 c_2)) c_3)
    refine kw_goto (tgt := 1110) C dL_law_481 (by decide) ?_
    refine kw_sub [2, 3, 4, 5, 6] rfl ?_
    exact kk
set_option maxRecDepth 100000 in
set_option maxHeartbeats 4000000 in
theorem lL_sun {l : Launch} {p : Program} {e : Env} {s : State} {m : MethodId} {args : Array Value} {below : List Frame} {meth : Method} {c0 : Code} {D : va_G} {A : Nat → Prop} {Q : State → Prop} {cells slots : Nat} (k : Nat → ClassId) (ah : Nat → Nat) (ar : Nat → Nat → Nat) (ac ax am : Nat → Nat) (a ao b n i : Nat) (xs : Nat → Int32) (c t : CS) (h : HS) (gu : MU) (gv : MV) (f : Nat → Int64) (p0 p1 p2 : Int32) (q0 : xs (i + 1) = p0) (q1 : xs (i + 2) = p1) (q2 : xs (i + 3) = p2) (hl9 : l.stackTraces = false) (C : kC p s m args c0 code "RoomHoursLaw" kT D kcl (kty k) A 8) (hE : kE s) (hZ : kZ A s s.heap) (hN : kN9 s) (hX : va_X b n xs s s.heap) (hbs : b < s.heap.size) (hbA : ¬ A b) (hn : n ≤ 2560) (hi : i + 5 ≤ n) (hcs : cells + 1 ≤ 601024) (hss : slots + 6 ≤ 7293034)  (hIm : mInv gu) (e1 : m_thrown (sguM_sun gu gv p0 p1 p2) = kcode (oR_sun c t h p0 p1 p2)) (e2 : kcode (oR_sun c t h p0 p1 p2) = 0 → (kout (oR_sun c t h p0 p1 p2) (rR_sun c t h p0 p1 p2).toInt64 f) 0 = (rM_sun gu gv p0 p1 p2).toInt64) (kk : kW p l e room_1 s m args below meth c0 D kcl A 8 (cells + 1) (slots + 6) Q 1110 [(4, .int (nI i)), (0, .ref b), (1, .ref a), (2, .ref (am 0)), (3, .ref ao)] [] ((wR k ah ar ac ax a c t (shR_sun c t h p0 p1 p2) ++ [(ao, .inl (k 1, 1, .inr (.inl (kout (oR_sun c t h p0 p1 p2) (rR_sun c t h p0 p1 p2).toInt64 f))))]) ++ wM k am (sguM_sun gu gv p0 p1 p2) gv)) : kW p l e room_1 s m args below meth c0 D kcl A 8 cells slots Q 484 [(4, .int (nI i)), (0, .ref b), (1, .ref a), (2, .ref (am 0)), (3, .ref ao)] [] ((wR k ah ar ac ax a c t h ++ [(ao, .inl (k 1, 1, .inr (.inl f)))]) ++ wM k am gu gv) := by
  refine kw_aload_n C 2 dL_law_484 rfl rfl ?_
  refine kw_aload_n C 1 dL_law_485 rfl rfl ?_
  refine kw_iload C 0 dL_law_486 rfl ?_
  refine kw_iconst (v := 1) C dL_law_488 (by decide) ?_
  refine kw_iadd C dL_law_489 ?_
  refine kw_sld C hX hbs hbA (kscr (j := 1) (by omega) hn rfl) dL_law_490 ?_
  refine kw_eq rfl (show ([.int (xs (i + 1)), .ref a] : List Value) = [.int p0, .ref a] from by rw [q0]) rfl ?_
  refine kw_aload_n C 1 dL_law_491 rfl rfl ?_
  refine kw_iload C 0 dL_law_492 rfl ?_
  refine kw_iconst (v := 2) C dL_law_494 (by decide) ?_
  refine kw_iadd C dL_law_495 ?_
  refine kw_sld C hX hbs hbA (kscr (j := 2) (by omega) hn rfl) dL_law_496 ?_
  refine kw_eq rfl (show ([.int (xs (i + 2)), .int p0, .ref a] : List Value) = [.int p1, .int p0, .ref a] from by rw [q1]) rfl ?_
  refine kw_aload_n C 1 dL_law_497 rfl rfl ?_
  refine kw_iload C 0 dL_law_498 rfl ?_
  refine kw_iconst (v := 3) C dL_law_500 (by decide) ?_
  refine kw_iadd C dL_law_501 ?_
  refine kw_sld C hX hbs hbA (kscr (j := 3) (by omega) hn rfl) dL_law_502 ?_
  refine kw_eq rfl (show ([.int (xs (i + 3)), .int p1, .int p0, .ref a] : List Value) = [.int p2, .int p1, .int p0, .ref a] from by rw [q2]) rfl ?_
  refine kw_aload_n C 4 dL_law_503 rfl rfl ?_
  refine kw_callH (w1 := (wR k ah ar ac ax a c t (shR_sun c t h p0 p1 p2) ++ [(ao, .inl (k 1, 1, .inr (.inl (kout (oR_sun c t h p0 p1 p2) (rR_sun c t h p0 p1 p2).toInt64 f))))])) (wr := wM k am gu gv) (st := []) C hE hZ hN (cL_sun l D k ah ar ac ax a ao c t h f p0 p1 p2 hl9) (vx_cwSW 5 C.1.2.2.2.2 (kgH kt_370 kt_371 kt_0 kt_372) rfl rfl rfl kdL_sun ⟨Nat.le_of_ble_eq_true rfl, Nat.le_of_ble_eq_true rfl⟩) rfl rfl (Nat.le_of_ble_eq_true rfl) dL_law_504 ⟨by exact hcs, by exact hss⟩ kad_o ?_
  refine kw_istore (lv' := [(5, .int (kcode (oR_sun c t h p0 p1 p2))), (4, .int (nI i)), (0, .ref b), (1, .ref a), (2, .ref (am 0)), (3, .ref ao)]) C dL_law_507 (by decide) rfl ?_
  refine kw_aload_n C 4 dL_law_509 rfl rfl ?_
  refine kw_aload_n C 2 dL_law_510 rfl rfl ?_
  refine kw_iload C 1 dL_law_511 rfl ?_
  refine kw_iconst (v := 1) C dL_law_513 (by decide) ?_
  refine kw_iadd C dL_law_514 ?_
  refine kw_sld C hX hbs hbA (kscr (j := 1) (by omega) hn rfl) dL_law_515 ?_
  refine kw_eq rfl (show ([.int (xs (i + 1)), .ref (am 0)] : List Value) = [.int p0, .ref (am 0)] from by rw [q0]) rfl ?_
  refine kw_aload_n C 2 dL_law_516 rfl rfl ?_
  refine kw_iload C 1 dL_law_517 rfl ?_
  refine kw_iconst (v := 2) C dL_law_519 (by decide) ?_
  refine kw_iadd C dL_law_520 ?_
  refine kw_sld C hX hbs hbA (kscr (j := 2) (by omega) hn rfl) dL_law_521 ?_
  refine kw_eq rfl (show ([.int (xs (i + 2)), .int p0, .ref (am 0)] : List Value) = [.int p1, .int p0, .ref (am 0)] from by rw [q1]) rfl ?_
  refine kw_aload_n C 2 dL_law_522 rfl rfl ?_
  refine kw_iload C 1 dL_law_523 rfl ?_
  refine kw_iconst (v := 3) C dL_law_525 (by decide) ?_
  refine kw_iadd C dL_law_526 ?_
  refine kw_sld C hX hbs hbA (kscr (j := 3) (by omega) hn rfl) dL_law_527 ?_
  refine kw_eq rfl (show ([.int (xs (i + 3)), .int p1, .int p0, .ref (am 0)] : List Value) = [.int p2, .int p1, .int p0, .ref (am 0)] from by rw [q2]) rfl ?_
  refine kw_callRi (R := room_1) (cells := cells + 1) (slots := slots + 6) (w0 := wM k am gu gv) (w1 := wM k am (sguM_sun gu gv p0 p1 p2) gv) (wr := (wR k ah ar ac ax a c t (shR_sun c t h p0 p1 p2) ++ [(ao, .inl (k 1, 1, .inr (.inl (kout (oR_sun c t h p0 p1 p2) (rR_sun c t h p0 p1 p2).toInt64 f))))])) (st := []) C (cM_sun l D k am gu gv p0 p1 p2 hIm) (cwV 3 C.1.2.2.2.2 (kgV kt_707 kt_708 kt_709 kt_5 kt_710) rfl rfl rfl kdM_sun ⟨Nat.le_of_ble_eq_true rfl, Nat.le_of_ble_eq_true rfl⟩) 0 3 rfl rfl rfl rfl rfl (Nat.le_of_ble_eq_true rfl) dL_law_528 ⟨by exact hcs, by exact hss⟩ kad_m ?_
  refine kw_istore (lv' := [(6, .int (rM_sun gu gv p0 p1 p2)), (5, .int (kcode (oR_sun c t h p0 p1 p2))), (4, .int (nI i)), (0, .ref b), (1, .ref a), (2, .ref (am 0)), (3, .ref ao)]) C dL_law_531 (by decide) rfl ?_
  refine kw_aload_n C 5 dL_law_533 rfl rfl ?_
  refine kw_callRi (R := room_1) (cells := cells + 1) (slots := slots + 6) (w0 := wM k am (sguM_sun gu gv p0 p1 p2) gv) (w1 := wM k am (sguM_sun gu gv p0 p1 p2) gv) (wr := (wR k ah ar ac ax a c t (shR_sun c t h p0 p1 p2) ++ [(ao, .inl (k 1, 1, .inr (.inl (kout (oR_sun c t h p0 p1 p2) (rR_sun c t h p0 p1 p2).toInt64 f))))])) (st := []) C (cM_thrown l D k am (sguM_sun gu gv p0 p1 p2) gv) (cwV 0 C.1.2.2.2.2 (kgV kt_668 kt_669 kt_670 kt_5 kt_671) rfl rfl rfl kdM_thrown ⟨Nat.le_of_ble_eq_true rfl, Nat.le_of_ble_eq_true rfl⟩) 0 3 rfl rfl rfl rfl rfl (Nat.le_of_ble_eq_true rfl) dL_law_534 ⟨by exact hcs, by exact hss⟩ rfl ?_
  refine kw_iload C 1 dL_law_537 rfl ?_
  refine kw_icmp_eq (tgt := 544) C dL_law_539 (by decide) (fun c_1 => ?_) (fun c_1 => absurd e1 c_1)
  refine kw_iload C 1 dL_law_544 rfl ?_
  refine kw_if_ne (tgt := 561) C dL_law_546 (by decide) (fun c_2 => ?_) (fun c_2 => ?_)
  · refine kw_goto (tgt := 1110) C dL_law_561 (by decide) ?_
    refine kw_sub [2, 3, 4, 5, 6] rfl ?_
    exact kk
  · skip
    refine kw_aload_n C 6 dL_law_549 rfl rfl ?_
    refine kw_iconst (v := 0) C dL_law_550 (by decide) ?_
    refine kw_lald C 38 1 rfl rfl (show kix 0 1 0 from ⟨by unfold vp_in; decide, by decide⟩) dL_law_551 ?_
    refine kw_iload C 0 dL_law_552 rfl ?_
    refine kw_i2l C dL_law_554 ?_
    refine kw_lcmp C dL_law_555 ?_
    refine kw_if_eq (tgt := 561) C dL_law_556 (by decide) (fun c_3 => ?_) (fun c_3 => absurd (kcmp0 (e2 c_2)) c_3)
    refine kw_goto (tgt := 1110) C dL_law_561 (by decide) ?_
    refine kw_sub [2, 3, 4, 5, 6] rfl ?_
    exact kk
set_option maxRecDepth 100000 in
set_option maxHeartbeats 4000000 in
theorem lL_plan {l : Launch} {p : Program} {e : Env} {s : State} {m : MethodId} {args : Array Value} {below : List Frame} {meth : Method} {c0 : Code} {D : va_G} {A : Nat → Prop} {Q : State → Prop} {cells slots : Nat} (k : Nat → ClassId) (ah : Nat → Nat) (ar : Nat → Nat → Nat) (ac ax am : Nat → Nat) (a ao b n i : Nat) (xs : Nat → Int32) (c t : CS) (h : HS) (gu : MU) (gv : MV) (f : Nat → Int64) (p0 p1 p2 p3 : Int32) (q0 : xs (i + 1) = p0) (q1 : xs (i + 2) = p1) (q2 : xs (i + 3) = p2) (q3 : xs (i + 4) = p3) (hl9 : l.stackTraces = false) (C : kC p s m args c0 code "RoomHoursLaw" kT D kcl (kty k) A 8) (hE : kE s) (hZ : kZ A s s.heap) (hN : kN9 s) (hX : va_X b n xs s s.heap) (hbs : b < s.heap.size) (hbA : ¬ A b) (hn : n ≤ 2560) (hi : i + 5 ≤ n) (hcs : cells + 1 ≤ 601024) (hss : slots + 6 ≤ 7293034) (hI : kInv h) (hIm : mInv gu) (e1 : m_thrown (sguM_plan gu gv p0 p1 p2 p3) = kcode (oR_plan c t h p0 p1 p2 p3)) (e2 : kcode (oR_plan c t h p0 p1 p2 p3) = 0 → (kout (oR_plan c t h p0 p1 p2 p3) (rR_plan c t h p0 p1 p2 p3).toInt64 f) 0 = (rM_plan gu gv p0 p1 p2 p3).toInt64) (kk : kW p l e room_1 s m args below meth c0 D kcl A 8 (cells + 1) (slots + 6) Q 1110 [(4, .int (nI i)), (0, .ref b), (1, .ref a), (2, .ref (am 0)), (3, .ref ao)] [] ((wR k ah ar ac ax a c t (shR_plan c t h p0 p1 p2 p3) ++ [(ao, .inl (k 1, 1, .inr (.inl (kout (oR_plan c t h p0 p1 p2 p3) (rR_plan c t h p0 p1 p2 p3).toInt64 f))))]) ++ wM k am (sguM_plan gu gv p0 p1 p2 p3) gv)) : kW p l e room_1 s m args below meth c0 D kcl A 8 cells slots Q 564 [(4, .int (nI i)), (0, .ref b), (1, .ref a), (2, .ref (am 0)), (3, .ref ao)] [] ((wR k ah ar ac ax a c t h ++ [(ao, .inl (k 1, 1, .inr (.inl f)))]) ++ wM k am gu gv) := by
  refine kw_aload_n C 2 dL_law_564 rfl rfl ?_
  refine kw_aload_n C 1 dL_law_565 rfl rfl ?_
  refine kw_iload C 0 dL_law_566 rfl ?_
  refine kw_iconst (v := 1) C dL_law_568 (by decide) ?_
  refine kw_iadd C dL_law_569 ?_
  refine kw_sld C hX hbs hbA (kscr (j := 1) (by omega) hn rfl) dL_law_570 ?_
  refine kw_eq rfl (show ([.int (xs (i + 1)), .ref a] : List Value) = [.int p0, .ref a] from by rw [q0]) rfl ?_
  refine kw_aload_n C 1 dL_law_571 rfl rfl ?_
  refine kw_iload C 0 dL_law_572 rfl ?_
  refine kw_iconst (v := 2) C dL_law_574 (by decide) ?_
  refine kw_iadd C dL_law_575 ?_
  refine kw_sld C hX hbs hbA (kscr (j := 2) (by omega) hn rfl) dL_law_576 ?_
  refine kw_eq rfl (show ([.int (xs (i + 2)), .int p0, .ref a] : List Value) = [.int p1, .int p0, .ref a] from by rw [q1]) rfl ?_
  refine kw_aload_n C 1 dL_law_577 rfl rfl ?_
  refine kw_iload C 0 dL_law_578 rfl ?_
  refine kw_iconst (v := 3) C dL_law_580 (by decide) ?_
  refine kw_iadd C dL_law_581 ?_
  refine kw_sld C hX hbs hbA (kscr (j := 3) (by omega) hn rfl) dL_law_582 ?_
  refine kw_eq rfl (show ([.int (xs (i + 3)), .int p1, .int p0, .ref a] : List Value) = [.int p2, .int p1, .int p0, .ref a] from by rw [q2]) rfl ?_
  refine kw_aload_n C 1 dL_law_583 rfl rfl ?_
  refine kw_iload C 0 dL_law_584 rfl ?_
  refine kw_iconst (v := 4) C dL_law_586 (by decide) ?_
  refine kw_iadd C dL_law_587 ?_
  refine kw_sld C hX hbs hbA (kscr (j := 4) (by omega) hn rfl) dL_law_588 ?_
  refine kw_eq rfl (show ([.int (xs (i + 4)), .int p2, .int p1, .int p0, .ref a] : List Value) = [.int p3, .int p2, .int p1, .int p0, .ref a] from by rw [q3]) rfl ?_
  refine kw_aload_n C 4 dL_law_589 rfl rfl ?_
  refine kw_callH (w1 := (wR k ah ar ac ax a c t (shR_plan c t h p0 p1 p2 p3) ++ [(ao, .inl (k 1, 1, .inr (.inl (kout (oR_plan c t h p0 p1 p2 p3) (rR_plan c t h p0 p1 p2 p3).toInt64 f))))])) (wr := wM k am gu gv) (st := []) C hE hZ hN (cL_plan l D k ah ar ac ax a ao c t h f p0 p1 p2 p3 hl9 hI) (vx_cwSW 6 C.1.2.2.2.2 (kgH kt_378 kt_379 kt_0 kt_380) rfl rfl rfl kdL_plan ⟨Nat.le_of_ble_eq_true rfl, Nat.le_of_ble_eq_true rfl⟩) rfl rfl (Nat.le_of_ble_eq_true rfl) dL_law_590 ⟨by exact hcs, by exact hss⟩ kad_o ?_
  refine kw_istore (lv' := [(5, .int (kcode (oR_plan c t h p0 p1 p2 p3))), (4, .int (nI i)), (0, .ref b), (1, .ref a), (2, .ref (am 0)), (3, .ref ao)]) C dL_law_593 (by decide) rfl ?_
  refine kw_aload_n C 4 dL_law_595 rfl rfl ?_
  refine kw_aload_n C 2 dL_law_596 rfl rfl ?_
  refine kw_iload C 1 dL_law_597 rfl ?_
  refine kw_iconst (v := 1) C dL_law_599 (by decide) ?_
  refine kw_iadd C dL_law_600 ?_
  refine kw_sld C hX hbs hbA (kscr (j := 1) (by omega) hn rfl) dL_law_601 ?_
  refine kw_eq rfl (show ([.int (xs (i + 1)), .ref (am 0)] : List Value) = [.int p0, .ref (am 0)] from by rw [q0]) rfl ?_
  refine kw_aload_n C 2 dL_law_602 rfl rfl ?_
  refine kw_iload C 1 dL_law_603 rfl ?_
  refine kw_iconst (v := 2) C dL_law_605 (by decide) ?_
  refine kw_iadd C dL_law_606 ?_
  refine kw_sld C hX hbs hbA (kscr (j := 2) (by omega) hn rfl) dL_law_607 ?_
  refine kw_eq rfl (show ([.int (xs (i + 2)), .int p0, .ref (am 0)] : List Value) = [.int p1, .int p0, .ref (am 0)] from by rw [q1]) rfl ?_
  refine kw_aload_n C 2 dL_law_608 rfl rfl ?_
  refine kw_iload C 1 dL_law_609 rfl ?_
  refine kw_iconst (v := 3) C dL_law_611 (by decide) ?_
  refine kw_iadd C dL_law_612 ?_
  refine kw_sld C hX hbs hbA (kscr (j := 3) (by omega) hn rfl) dL_law_613 ?_
  refine kw_eq rfl (show ([.int (xs (i + 3)), .int p1, .int p0, .ref (am 0)] : List Value) = [.int p2, .int p1, .int p0, .ref (am 0)] from by rw [q2]) rfl ?_
  refine kw_aload_n C 2 dL_law_614 rfl rfl ?_
  refine kw_iload C 1 dL_law_615 rfl ?_
  refine kw_iconst (v := 4) C dL_law_617 (by decide) ?_
  refine kw_iadd C dL_law_618 ?_
  refine kw_sld C hX hbs hbA (kscr (j := 4) (by omega) hn rfl) dL_law_619 ?_
  refine kw_eq rfl (show ([.int (xs (i + 4)), .int p2, .int p1, .int p0, .ref (am 0)] : List Value) = [.int p3, .int p2, .int p1, .int p0, .ref (am 0)] from by rw [q3]) rfl ?_
  refine kw_callRi (R := room_1) (cells := cells + 1) (slots := slots + 6) (w0 := wM k am gu gv) (w1 := wM k am (sguM_plan gu gv p0 p1 p2 p3) gv) (wr := (wR k ah ar ac ax a c t (shR_plan c t h p0 p1 p2 p3) ++ [(ao, .inl (k 1, 1, .inr (.inl (kout (oR_plan c t h p0 p1 p2 p3) (rR_plan c t h p0 p1 p2 p3).toInt64 f))))])) (st := []) C (cM_plan l D k am gu gv p0 p1 p2 p3 hIm) (cwV 4 C.1.2.2.2.2 (kgV kt_711 kt_712 kt_713 kt_5 kt_714) rfl rfl rfl kdM_plan ⟨Nat.le_of_ble_eq_true rfl, Nat.le_of_ble_eq_true rfl⟩) 0 3 rfl rfl rfl rfl rfl (Nat.le_of_ble_eq_true rfl) dL_law_620 ⟨by exact hcs, by exact hss⟩ kad_m ?_
  refine kw_istore (lv' := [(6, .int (rM_plan gu gv p0 p1 p2 p3)), (5, .int (kcode (oR_plan c t h p0 p1 p2 p3))), (4, .int (nI i)), (0, .ref b), (1, .ref a), (2, .ref (am 0)), (3, .ref ao)]) C dL_law_623 (by decide) rfl ?_
  refine kw_aload_n C 5 dL_law_625 rfl rfl ?_
  refine kw_callRi (R := room_1) (cells := cells + 1) (slots := slots + 6) (w0 := wM k am (sguM_plan gu gv p0 p1 p2 p3) gv) (w1 := wM k am (sguM_plan gu gv p0 p1 p2 p3) gv) (wr := (wR k ah ar ac ax a c t (shR_plan c t h p0 p1 p2 p3) ++ [(ao, .inl (k 1, 1, .inr (.inl (kout (oR_plan c t h p0 p1 p2 p3) (rR_plan c t h p0 p1 p2 p3).toInt64 f))))])) (st := []) C (cM_thrown l D k am (sguM_plan gu gv p0 p1 p2 p3) gv) (cwV 0 C.1.2.2.2.2 (kgV kt_668 kt_669 kt_670 kt_5 kt_671) rfl rfl rfl kdM_thrown ⟨Nat.le_of_ble_eq_true rfl, Nat.le_of_ble_eq_true rfl⟩) 0 3 rfl rfl rfl rfl rfl (Nat.le_of_ble_eq_true rfl) dL_law_626 ⟨by exact hcs, by exact hss⟩ rfl ?_
  refine kw_iload C 1 dL_law_629 rfl ?_
  refine kw_icmp_eq (tgt := 636) C dL_law_631 (by decide) (fun c_1 => ?_) (fun c_1 => absurd e1 c_1)
  refine kw_iload C 1 dL_law_636 rfl ?_
  refine kw_if_ne (tgt := 653) C dL_law_638 (by decide) (fun c_2 => ?_) (fun c_2 => ?_)
  · refine kw_goto (tgt := 1110) C dL_law_653 (by decide) ?_
    refine kw_sub [2, 3, 4, 5, 6] rfl ?_
    exact kk
  · skip
    refine kw_aload_n C 6 dL_law_641 rfl rfl ?_
    refine kw_iconst (v := 0) C dL_law_642 (by decide) ?_
    refine kw_lald C 38 1 rfl rfl (show kix 0 1 0 from ⟨by unfold vp_in; decide, by decide⟩) dL_law_643 ?_
    refine kw_iload C 0 dL_law_644 rfl ?_
    refine kw_i2l C dL_law_646 ?_
    refine kw_lcmp C dL_law_647 ?_
    refine kw_if_eq (tgt := 653) C dL_law_648 (by decide) (fun c_3 => ?_) (fun c_3 => absurd (kcmp0 (e2 c_2)) c_3)
    refine kw_goto (tgt := 1110) C dL_law_653 (by decide) ?_
    refine kw_sub [2, 3, 4, 5, 6] rfl ?_
    exact kk
set_option maxRecDepth 100000 in
set_option maxHeartbeats 4000000 in
theorem lL_most {l : Launch} {p : Program} {e : Env} {s : State} {m : MethodId} {args : Array Value} {below : List Frame} {meth : Method} {c0 : Code} {D : va_G} {A : Nat → Prop} {Q : State → Prop} {cells slots : Nat} (k : Nat → ClassId) (ah : Nat → Nat) (ar : Nat → Nat → Nat) (ac ax am : Nat → Nat) (a ao b n i : Nat) (xs : Nat → Int32) (c t : CS) (h : HS) (gu : MU) (gv : MV) (f : Nat → Int64) (p0 p1 p2 : Int32) (q0 : xs (i + 1) = p0) (q1 : xs (i + 2) = p1) (q2 : xs (i + 3) = p2) (hl9 : l.stackTraces = false) (C : kC p s m args c0 code "RoomHoursLaw" kT D kcl (kty k) A 8) (hE : kE s) (hZ : kZ A s s.heap) (hN : kN9 s) (hX : va_X b n xs s s.heap) (hbs : b < s.heap.size) (hbA : ¬ A b) (hn : n ≤ 2560) (hi : i + 5 ≤ n) (hcs : cells + 1 ≤ 601024) (hss : slots + 6 ≤ 7293034) (hI : kInv h) (hIm : mInv gu) (e1 : m_thrown (sguM_most gu gv p0 p1 p2) = kcode (oR_most c t h p0 p1 p2)) (e2 : kcode (oR_most c t h p0 p1 p2) = 0 → (kout (oR_most c t h p0 p1 p2) (rR_most c t h p0 p1 p2).toInt64 f) 0 = (rM_most gu gv p0 p1 p2).toInt64) (kk : kW p l e room_1 s m args below meth c0 D kcl A 8 (cells + 1) (slots + 6) Q 1110 [(4, .int (nI i)), (0, .ref b), (1, .ref a), (2, .ref (am 0)), (3, .ref ao)] [] ((wR k ah ar ac ax a c t (shR_most c t h p0 p1 p2) ++ [(ao, .inl (k 1, 1, .inr (.inl (kout (oR_most c t h p0 p1 p2) (rR_most c t h p0 p1 p2).toInt64 f))))]) ++ wM k am (sguM_most gu gv p0 p1 p2) gv)) : kW p l e room_1 s m args below meth c0 D kcl A 8 cells slots Q 656 [(4, .int (nI i)), (0, .ref b), (1, .ref a), (2, .ref (am 0)), (3, .ref ao)] [] ((wR k ah ar ac ax a c t h ++ [(ao, .inl (k 1, 1, .inr (.inl f)))]) ++ wM k am gu gv) := by
  refine kw_aload_n C 2 dL_law_656 rfl rfl ?_
  refine kw_aload_n C 1 dL_law_657 rfl rfl ?_
  refine kw_iload C 0 dL_law_658 rfl ?_
  refine kw_iconst (v := 1) C dL_law_660 (by decide) ?_
  refine kw_iadd C dL_law_661 ?_
  refine kw_sld C hX hbs hbA (kscr (j := 1) (by omega) hn rfl) dL_law_662 ?_
  refine kw_eq rfl (show ([.int (xs (i + 1)), .ref a] : List Value) = [.int p0, .ref a] from by rw [q0]) rfl ?_
  refine kw_aload_n C 1 dL_law_663 rfl rfl ?_
  refine kw_iload C 0 dL_law_664 rfl ?_
  refine kw_iconst (v := 2) C dL_law_666 (by decide) ?_
  refine kw_iadd C dL_law_667 ?_
  refine kw_sld C hX hbs hbA (kscr (j := 2) (by omega) hn rfl) dL_law_668 ?_
  refine kw_eq rfl (show ([.int (xs (i + 2)), .int p0, .ref a] : List Value) = [.int p1, .int p0, .ref a] from by rw [q1]) rfl ?_
  refine kw_aload_n C 1 dL_law_669 rfl rfl ?_
  refine kw_iload C 0 dL_law_670 rfl ?_
  refine kw_iconst (v := 3) C dL_law_672 (by decide) ?_
  refine kw_iadd C dL_law_673 ?_
  refine kw_sld C hX hbs hbA (kscr (j := 3) (by omega) hn rfl) dL_law_674 ?_
  refine kw_eq rfl (show ([.int (xs (i + 3)), .int p1, .int p0, .ref a] : List Value) = [.int p2, .int p1, .int p0, .ref a] from by rw [q2]) rfl ?_
  refine kw_aload_n C 4 dL_law_675 rfl rfl ?_
  refine kw_callH (w1 := (wR k ah ar ac ax a c t (shR_most c t h p0 p1 p2) ++ [(ao, .inl (k 1, 1, .inr (.inl (kout (oR_most c t h p0 p1 p2) (rR_most c t h p0 p1 p2).toInt64 f))))])) (wr := wM k am gu gv) (st := []) C hE hZ hN (cL_most l D k ah ar ac ax a ao c t h f p0 p1 p2 hl9 hI) (vx_cwSW 5 C.1.2.2.2.2 (kgH kt_391 kt_392 kt_0 kt_393) rfl rfl rfl kdL_most ⟨Nat.le_of_ble_eq_true rfl, Nat.le_of_ble_eq_true rfl⟩) rfl rfl (Nat.le_of_ble_eq_true rfl) dL_law_676 ⟨by exact hcs, by exact hss⟩ kad_o ?_
  refine kw_istore (lv' := [(5, .int (kcode (oR_most c t h p0 p1 p2))), (4, .int (nI i)), (0, .ref b), (1, .ref a), (2, .ref (am 0)), (3, .ref ao)]) C dL_law_679 (by decide) rfl ?_
  refine kw_aload_n C 4 dL_law_681 rfl rfl ?_
  refine kw_aload_n C 2 dL_law_682 rfl rfl ?_
  refine kw_iload C 1 dL_law_683 rfl ?_
  refine kw_iconst (v := 1) C dL_law_685 (by decide) ?_
  refine kw_iadd C dL_law_686 ?_
  refine kw_sld C hX hbs hbA (kscr (j := 1) (by omega) hn rfl) dL_law_687 ?_
  refine kw_eq rfl (show ([.int (xs (i + 1)), .ref (am 0)] : List Value) = [.int p0, .ref (am 0)] from by rw [q0]) rfl ?_
  refine kw_aload_n C 2 dL_law_688 rfl rfl ?_
  refine kw_iload C 1 dL_law_689 rfl ?_
  refine kw_iconst (v := 2) C dL_law_691 (by decide) ?_
  refine kw_iadd C dL_law_692 ?_
  refine kw_sld C hX hbs hbA (kscr (j := 2) (by omega) hn rfl) dL_law_693 ?_
  refine kw_eq rfl (show ([.int (xs (i + 2)), .int p0, .ref (am 0)] : List Value) = [.int p1, .int p0, .ref (am 0)] from by rw [q1]) rfl ?_
  refine kw_aload_n C 2 dL_law_694 rfl rfl ?_
  refine kw_iload C 1 dL_law_695 rfl ?_
  refine kw_iconst (v := 3) C dL_law_697 (by decide) ?_
  refine kw_iadd C dL_law_698 ?_
  refine kw_sld C hX hbs hbA (kscr (j := 3) (by omega) hn rfl) dL_law_699 ?_
  refine kw_eq rfl (show ([.int (xs (i + 3)), .int p1, .int p0, .ref (am 0)] : List Value) = [.int p2, .int p1, .int p0, .ref (am 0)] from by rw [q2]) rfl ?_
  refine kw_callRi (R := room_1) (cells := cells + 1) (slots := slots + 6) (w0 := wM k am gu gv) (w1 := wM k am (sguM_most gu gv p0 p1 p2) gv) (wr := (wR k ah ar ac ax a c t (shR_most c t h p0 p1 p2) ++ [(ao, .inl (k 1, 1, .inr (.inl (kout (oR_most c t h p0 p1 p2) (rR_most c t h p0 p1 p2).toInt64 f))))])) (st := []) C (cM_most l D k am gu gv p0 p1 p2 hIm) (cwV 3 C.1.2.2.2.2 (kgV kt_715 kt_716 kt_717 kt_5 kt_718) rfl rfl rfl kdM_most ⟨Nat.le_of_ble_eq_true rfl, Nat.le_of_ble_eq_true rfl⟩) 0 3 rfl rfl rfl rfl rfl (Nat.le_of_ble_eq_true rfl) dL_law_700 ⟨by exact hcs, by exact hss⟩ kad_m ?_
  refine kw_istore (lv' := [(6, .int (rM_most gu gv p0 p1 p2)), (5, .int (kcode (oR_most c t h p0 p1 p2))), (4, .int (nI i)), (0, .ref b), (1, .ref a), (2, .ref (am 0)), (3, .ref ao)]) C dL_law_703 (by decide) rfl ?_
  refine kw_aload_n C 5 dL_law_705 rfl rfl ?_
  refine kw_callRi (R := room_1) (cells := cells + 1) (slots := slots + 6) (w0 := wM k am (sguM_most gu gv p0 p1 p2) gv) (w1 := wM k am (sguM_most gu gv p0 p1 p2) gv) (wr := (wR k ah ar ac ax a c t (shR_most c t h p0 p1 p2) ++ [(ao, .inl (k 1, 1, .inr (.inl (kout (oR_most c t h p0 p1 p2) (rR_most c t h p0 p1 p2).toInt64 f))))])) (st := []) C (cM_thrown l D k am (sguM_most gu gv p0 p1 p2) gv) (cwV 0 C.1.2.2.2.2 (kgV kt_668 kt_669 kt_670 kt_5 kt_671) rfl rfl rfl kdM_thrown ⟨Nat.le_of_ble_eq_true rfl, Nat.le_of_ble_eq_true rfl⟩) 0 3 rfl rfl rfl rfl rfl (Nat.le_of_ble_eq_true rfl) dL_law_706 ⟨by exact hcs, by exact hss⟩ rfl ?_
  refine kw_iload C 1 dL_law_709 rfl ?_
  refine kw_icmp_eq (tgt := 716) C dL_law_711 (by decide) (fun c_1 => ?_) (fun c_1 => absurd e1 c_1)
  refine kw_iload C 1 dL_law_716 rfl ?_
  refine kw_if_ne (tgt := 733) C dL_law_718 (by decide) (fun c_2 => ?_) (fun c_2 => ?_)
  · refine kw_goto (tgt := 1110) C dL_law_733 (by decide) ?_
    refine kw_sub [2, 3, 4, 5, 6] rfl ?_
    exact kk
  · skip
    refine kw_aload_n C 6 dL_law_721 rfl rfl ?_
    refine kw_iconst (v := 0) C dL_law_722 (by decide) ?_
    refine kw_lald C 38 1 rfl rfl (show kix 0 1 0 from ⟨by unfold vp_in; decide, by decide⟩) dL_law_723 ?_
    refine kw_iload C 0 dL_law_724 rfl ?_
    refine kw_i2l C dL_law_726 ?_
    refine kw_lcmp C dL_law_727 ?_
    refine kw_if_eq (tgt := 733) C dL_law_728 (by decide) (fun c_3 => ?_) (fun c_3 => absurd (kcmp0 (e2 c_2)) c_3)
    refine kw_goto (tgt := 1110) C dL_law_733 (by decide) ?_
    refine kw_sub [2, 3, 4, 5, 6] rfl ?_
    exact kk
set_option maxRecDepth 100000 in
set_option maxHeartbeats 4000000 in
theorem lL_ease {l : Launch} {p : Program} {e : Env} {s : State} {m : MethodId} {args : Array Value} {below : List Frame} {meth : Method} {c0 : Code} {D : va_G} {A : Nat → Prop} {Q : State → Prop} {cells slots : Nat} (k : Nat → ClassId) (ah : Nat → Nat) (ar : Nat → Nat → Nat) (ac ax am : Nat → Nat) (a ao b n i : Nat) (xs : Nat → Int32) (c t : CS) (h : HS) (gu : MU) (gv : MV) (f : Nat → Int64) (p0 p1 : Int32) (q0 : xs (i + 1) = p0) (q1 : xs (i + 2) = p1) (hl9 : l.stackTraces = false) (C : kC p s m args c0 code "RoomHoursLaw" kT D kcl (kty k) A 8) (hE : kE s) (hZ : kZ A s s.heap) (hN : kN9 s) (hX : va_X b n xs s s.heap) (hbs : b < s.heap.size) (hbA : ¬ A b) (hn : n ≤ 2560) (hi : i + 5 ≤ n) (hcs : cells + 1 ≤ 601024) (hss : slots + 6 ≤ 7293034)   (e1 : m_thrown (sguM_ease gu gv p0 p1) = kcode (oR_ease c t h p0 p1)) (kk : kW p l e room_1 s m args below meth c0 D kcl A 8 (cells + 1) (slots + 6) Q 1110 [(4, .int (nI i)), (0, .ref b), (1, .ref a), (2, .ref (am 0)), (3, .ref ao)] [] ((wR k ah ar ac ax a c t (shR_ease c t h p0 p1) ++ [(ao, .inl (k 1, 1, .inr (.inl f)))]) ++ wM k am (sguM_ease gu gv p0 p1) gv)) : kW p l e room_1 s m args below meth c0 D kcl A 8 cells slots Q 736 [(4, .int (nI i)), (0, .ref b), (1, .ref a), (2, .ref (am 0)), (3, .ref ao)] [] ((wR k ah ar ac ax a c t h ++ [(ao, .inl (k 1, 1, .inr (.inl f)))]) ++ wM k am gu gv) := by
  refine kw_aload_n C 2 dL_law_736 rfl rfl ?_
  refine kw_aload_n C 1 dL_law_737 rfl rfl ?_
  refine kw_iload C 0 dL_law_738 rfl ?_
  refine kw_iconst (v := 1) C dL_law_740 (by decide) ?_
  refine kw_iadd C dL_law_741 ?_
  refine kw_sld C hX hbs hbA (kscr (j := 1) (by omega) hn rfl) dL_law_742 ?_
  refine kw_eq rfl (show ([.int (xs (i + 1)), .ref a] : List Value) = [.int p0, .ref a] from by rw [q0]) rfl ?_
  refine kw_aload_n C 1 dL_law_743 rfl rfl ?_
  refine kw_iload C 0 dL_law_744 rfl ?_
  refine kw_iconst (v := 2) C dL_law_746 (by decide) ?_
  refine kw_iadd C dL_law_747 ?_
  refine kw_sld C hX hbs hbA (kscr (j := 2) (by omega) hn rfl) dL_law_748 ?_
  refine kw_eq rfl (show ([.int (xs (i + 2)), .int p0, .ref a] : List Value) = [.int p1, .int p0, .ref a] from by rw [q1]) rfl ?_
  refine kw_callH (w1 := (wR k ah ar ac ax a c t (shR_ease c t h p0 p1) ++ [(ao, .inl (k 1, 1, .inr (.inl f)))])) (wr := wM k am gu gv) (st := []) C hE hZ hN (cL_ease l D k ah ar ac ax a ao c t h f p0 p1 hl9) (vx_cwSW 3 C.1.2.2.2.2 (kgH kt_400 kt_401 kt_0 kt_402) rfl rfl rfl kdL_ease ⟨Nat.le_of_ble_eq_true rfl, Nat.le_of_ble_eq_true rfl⟩) rfl rfl (Nat.le_of_ble_eq_true rfl) dL_law_749 ⟨by exact hcs, by exact hss⟩ kad_o ?_
  refine kw_istore (lv' := [(5, .int (kcode (oR_ease c t h p0 p1))), (4, .int (nI i)), (0, .ref b), (1, .ref a), (2, .ref (am 0)), (3, .ref ao)]) C dL_law_752 (by decide) rfl ?_
  refine kw_aload_n C 4 dL_law_754 rfl rfl ?_
  refine kw_aload_n C 2 dL_law_755 rfl rfl ?_
  refine kw_iload C 1 dL_law_756 rfl ?_
  refine kw_iconst (v := 1) C dL_law_758 (by decide) ?_
  refine kw_iadd C dL_law_759 ?_
  refine kw_sld C hX hbs hbA (kscr (j := 1) (by omega) hn rfl) dL_law_760 ?_
  refine kw_eq rfl (show ([.int (xs (i + 1)), .ref (am 0)] : List Value) = [.int p0, .ref (am 0)] from by rw [q0]) rfl ?_
  refine kw_aload_n C 2 dL_law_761 rfl rfl ?_
  refine kw_iload C 1 dL_law_762 rfl ?_
  refine kw_iconst (v := 2) C dL_law_764 (by decide) ?_
  refine kw_iadd C dL_law_765 ?_
  refine kw_sld C hX hbs hbA (kscr (j := 2) (by omega) hn rfl) dL_law_766 ?_
  refine kw_eq rfl (show ([.int (xs (i + 2)), .int p0, .ref (am 0)] : List Value) = [.int p1, .int p0, .ref (am 0)] from by rw [q1]) rfl ?_
  refine kw_callRv (R := room_1) (cells := cells + 1) (slots := slots + 6) (w0 := wM k am gu gv) (w1 := wM k am (sguM_ease gu gv p0 p1) gv) (wr := (wR k ah ar ac ax a c t (shR_ease c t h p0 p1) ++ [(ao, .inl (k 1, 1, .inr (.inl f)))])) (st := []) C (cM_ease l D k am gu gv p0 p1 ) (cwV 2 C.1.2.2.2.2 (kgV kt_720 kt_721 kt_722 kt_5 kt_723) rfl rfl rfl kdM_ease ⟨Nat.le_of_ble_eq_true rfl, Nat.le_of_ble_eq_true rfl⟩) 0 3 rfl rfl rfl rfl rfl (Nat.le_of_ble_eq_true rfl) dL_law_767 ⟨by exact hcs, by exact hss⟩ kad_m ?_
  refine kw_aload_n C 4 dL_law_770 rfl rfl ?_
  refine kw_callRi (R := room_1) (cells := cells + 1) (slots := slots + 6) (w0 := wM k am (sguM_ease gu gv p0 p1) gv) (w1 := wM k am (sguM_ease gu gv p0 p1) gv) (wr := (wR k ah ar ac ax a c t (shR_ease c t h p0 p1) ++ [(ao, .inl (k 1, 1, .inr (.inl f)))])) (st := []) C (cM_thrown l D k am (sguM_ease gu gv p0 p1) gv) (cwV 0 C.1.2.2.2.2 (kgV kt_668 kt_669 kt_670 kt_5 kt_671) rfl rfl rfl kdM_thrown ⟨Nat.le_of_ble_eq_true rfl, Nat.le_of_ble_eq_true rfl⟩) 0 3 rfl rfl rfl rfl rfl (Nat.le_of_ble_eq_true rfl) dL_law_771 ⟨by exact hcs, by exact hss⟩ rfl ?_
  refine kw_iload C 0 dL_law_774 rfl ?_
  refine kw_icmp_eq (tgt := 781) C dL_law_776 (by decide) (fun c_1 => ?_) (fun c_1 => absurd e1 c_1)
  refine kw_goto (tgt := 1110) C dL_law_781 (by decide) ?_
  refine kw_sub [1, 2, 3, 4, 5] rfl ?_
  exact kk
set_option maxRecDepth 100000 in
set_option maxHeartbeats 4000000 in
theorem lL_run {l : Launch} {p : Program} {e : Env} {s : State} {m : MethodId} {args : Array Value} {below : List Frame} {meth : Method} {c0 : Code} {D : va_G} {A : Nat → Prop} {Q : State → Prop} {cells slots : Nat} (k : Nat → ClassId) (ah : Nat → Nat) (ar : Nat → Nat → Nat) (ac ax am : Nat → Nat) (a ao b n i : Nat) (xs : Nat → Int32) (c t : CS) (h : HS) (gu : MU) (gv : MV) (f : Nat → Int64) (p0 : Int32) (q0 : xs (i + 1) = p0) (hl9 : l.stackTraces = false) (C : kC p s m args c0 code "RoomHoursLaw" kT D kcl (kty k) A 8) (hE : kE s) (hZ : kZ A s s.heap) (hN : kN9 s) (hX : va_X b n xs s s.heap) (hbs : b < s.heap.size) (hbA : ¬ A b) (hn : n ≤ 2560) (hi : i + 5 ≤ n) (hcs : cells + 1 ≤ 601024) (hss : slots + 6 ≤ 7293034) (hI : kInv h) (o : Nat) (ho : c_over c = nI o) (ho5 : o ≤ 100000) (hIm : mInv gu) (om : Nat) (hom : m_now gv = nI om) (hom5 : om ≤ 100000) (e1 : m_thrown (sguM_run gu gv p0) = kcode (oR_run c t h p0)) (e2 : kcode (oR_run c t h p0) = 0 → (kout (oR_run c t h p0) (rR_run c t h p0).toInt64 f) 0 = (rM_run gu gv p0).toInt64) (kk : kW p l e room_1 s m args below meth c0 D kcl A 8 (cells + 1) (slots + 6) Q 1110 [(4, .int (nI i)), (0, .ref b), (1, .ref a), (2, .ref (am 0)), (3, .ref ao)] [] ((wR k ah ar ac ax a (scR_run c t h p0) t h ++ [(ao, .inl (k 1, 1, .inr (.inl (kout (oR_run c t h p0) (rR_run c t h p0).toInt64 f))))]) ++ wM k am (sguM_run gu gv p0) (sgvM_run gu gv p0))) : kW p l e room_1 s m args below meth c0 D kcl A 8 cells slots Q 784 [(4, .int (nI i)), (0, .ref b), (1, .ref a), (2, .ref (am 0)), (3, .ref ao)] [] ((wR k ah ar ac ax a c t h ++ [(ao, .inl (k 1, 1, .inr (.inl f)))]) ++ wM k am gu gv) := by
  refine kw_aload_n C 2 dL_law_784 rfl rfl ?_
  refine kw_aload_n C 1 dL_law_785 rfl rfl ?_
  refine kw_iload C 0 dL_law_786 rfl ?_
  refine kw_iconst (v := 1) C dL_law_788 (by decide) ?_
  refine kw_iadd C dL_law_789 ?_
  refine kw_sld C hX hbs hbA (kscr (j := 1) (by omega) hn rfl) dL_law_790 ?_
  refine kw_eq rfl (show ([.int (xs (i + 1)), .ref a] : List Value) = [.int p0, .ref a] from by rw [q0]) rfl ?_
  refine kw_aload_n C 4 dL_law_791 rfl rfl ?_
  refine kw_callH (w1 := (wR k ah ar ac ax a (scR_run c t h p0) t h ++ [(ao, .inl (k 1, 1, .inr (.inl (kout (oR_run c t h p0) (rR_run c t h p0).toInt64 f))))])) (wr := wM k am gu gv) (st := []) C hE hZ hN (cL_run l D k ah ar ac ax a ao c t h f p0 hl9 hI o ho ho5) (vx_cwSW 3 C.1.2.2.2.2 (kgH kt_408 kt_409 kt_0 kt_410) rfl rfl rfl kdL_run ⟨Nat.le_of_ble_eq_true rfl, Nat.le_of_ble_eq_true rfl⟩) rfl rfl (Nat.le_of_ble_eq_true rfl) dL_law_792 ⟨by exact hcs, by exact hss⟩ kad_o ?_
  refine kw_istore (lv' := [(5, .int (kcode (oR_run c t h p0))), (4, .int (nI i)), (0, .ref b), (1, .ref a), (2, .ref (am 0)), (3, .ref ao)]) C dL_law_795 (by decide) rfl ?_
  refine kw_aload_n C 4 dL_law_797 rfl rfl ?_
  refine kw_aload_n C 2 dL_law_798 rfl rfl ?_
  refine kw_iload C 1 dL_law_799 rfl ?_
  refine kw_iconst (v := 1) C dL_law_801 (by decide) ?_
  refine kw_iadd C dL_law_802 ?_
  refine kw_sld C hX hbs hbA (kscr (j := 1) (by omega) hn rfl) dL_law_803 ?_
  refine kw_eq rfl (show ([.int (xs (i + 1)), .ref (am 0)] : List Value) = [.int p0, .ref (am 0)] from by rw [q0]) rfl ?_
  refine kw_callRi (R := room_1) (cells := cells + 1) (slots := slots + 6) (w0 := wM k am gu gv) (w1 := wM k am (sguM_run gu gv p0) (sgvM_run gu gv p0)) (wr := (wR k ah ar ac ax a (scR_run c t h p0) t h ++ [(ao, .inl (k 1, 1, .inr (.inl (kout (oR_run c t h p0) (rR_run c t h p0).toInt64 f))))])) (st := []) C (cM_run l D k am gu gv p0 hIm om hom hom5) (cwV 1 C.1.2.2.2.2 (kgV kt_724 kt_725 kt_726 kt_5 kt_727) rfl rfl rfl kdM_run ⟨Nat.le_of_ble_eq_true rfl, Nat.le_of_ble_eq_true rfl⟩) 0 3 rfl rfl rfl rfl rfl (Nat.le_of_ble_eq_true rfl) dL_law_804 ⟨by exact hcs, by exact hss⟩ kad_m ?_
  refine kw_istore (lv' := [(6, .int (rM_run gu gv p0)), (5, .int (kcode (oR_run c t h p0))), (4, .int (nI i)), (0, .ref b), (1, .ref a), (2, .ref (am 0)), (3, .ref ao)]) C dL_law_807 (by decide) rfl ?_
  refine kw_aload_n C 5 dL_law_809 rfl rfl ?_
  refine kw_callRi (R := room_1) (cells := cells + 1) (slots := slots + 6) (w0 := wM k am (sguM_run gu gv p0) (sgvM_run gu gv p0)) (w1 := wM k am (sguM_run gu gv p0) (sgvM_run gu gv p0)) (wr := (wR k ah ar ac ax a (scR_run c t h p0) t h ++ [(ao, .inl (k 1, 1, .inr (.inl (kout (oR_run c t h p0) (rR_run c t h p0).toInt64 f))))])) (st := []) C (cM_thrown l D k am (sguM_run gu gv p0) (sgvM_run gu gv p0)) (cwV 0 C.1.2.2.2.2 (kgV kt_668 kt_669 kt_670 kt_5 kt_671) rfl rfl rfl kdM_thrown ⟨Nat.le_of_ble_eq_true rfl, Nat.le_of_ble_eq_true rfl⟩) 0 3 rfl rfl rfl rfl rfl (Nat.le_of_ble_eq_true rfl) dL_law_810 ⟨by exact hcs, by exact hss⟩ rfl ?_
  refine kw_iload C 1 dL_law_813 rfl ?_
  refine kw_icmp_eq (tgt := 820) C dL_law_815 (by decide) (fun c_1 => ?_) (fun c_1 => absurd e1 c_1)
  refine kw_iload C 1 dL_law_820 rfl ?_
  refine kw_if_ne (tgt := 837) C dL_law_822 (by decide) (fun c_2 => ?_) (fun c_2 => ?_)
  · refine kw_goto (tgt := 1110) C dL_law_837 (by decide) ?_
    refine kw_sub [2, 3, 4, 5, 6] rfl ?_
    exact kk
  · skip
    refine kw_aload_n C 6 dL_law_825 rfl rfl ?_
    refine kw_iconst (v := 0) C dL_law_826 (by decide) ?_
    refine kw_lald C 38 1 rfl rfl (show kix 0 1 0 from ⟨by unfold vp_in; decide, by decide⟩) dL_law_827 ?_
    refine kw_iload C 0 dL_law_828 rfl ?_
    refine kw_i2l C dL_law_830 ?_
    refine kw_lcmp C dL_law_831 ?_
    refine kw_if_eq (tgt := 837) C dL_law_832 (by decide) (fun c_3 => ?_) (fun c_3 => absurd (kcmp0 (e2 c_2)) c_3)
    refine kw_goto (tgt := 1110) C dL_law_837 (by decide) ?_
    refine kw_sub [2, 3, 4, 5, 6] rfl ?_
    exact kk
set_option maxRecDepth 100000 in
set_option maxHeartbeats 4000000 in
theorem lL_told {l : Launch} {p : Program} {e : Env} {s : State} {m : MethodId} {args : Array Value} {below : List Frame} {meth : Method} {c0 : Code} {D : va_G} {A : Nat → Prop} {Q : State → Prop} {cells slots : Nat} (k : Nat → ClassId) (ah : Nat → Nat) (ar : Nat → Nat → Nat) (ac ax am : Nat → Nat) (a ao b n i : Nat) (xs : Nat → Int32) (c t : CS) (h : HS) (gu : MU) (gv : MV) (f : Nat → Int64) (p0 p1 : Int32) (q0 : xs (i + 1) = p0) (q1 : xs (i + 2) = p1) (hl9 : l.stackTraces = false) (C : kC p s m args c0 code "RoomHoursLaw" kT D kcl (kty k) A 8) (hE : kE s) (hZ : kZ A s s.heap) (hN : kN9 s) (hX : va_X b n xs s s.heap) (hbs : b < s.heap.size) (hbA : ¬ A b) (hn : n ≤ 2560) (hi : i + 5 ≤ n) (hcs : cells + 1 ≤ 601024) (hss : slots + 6 ≤ 7293034) (hI : kInv h) (hIm : mInv gu) (e1 : m_thrown (sguM_told gu gv p0 p1) = kcode (oR_told c t h p0 p1)) (e2 : kcode (oR_told c t h p0 p1) = 0 → (kout (oR_told c t h p0 p1) (rR_told c t h p0 p1) f) 0 = (rM_told gu gv p0 p1)) (kk : kW p l e room_1 s m args below meth c0 D kcl A 8 (cells + 1) (slots + 6) Q 1110 [(4, .int (nI i)), (0, .ref b), (1, .ref a), (2, .ref (am 0)), (3, .ref ao)] [] ((wR k ah ar ac ax a c t h ++ [(ao, .inl (k 1, 1, .inr (.inl (kout (oR_told c t h p0 p1) (rR_told c t h p0 p1) f))))]) ++ wM k am (sguM_told gu gv p0 p1) gv)) : kW p l e room_1 s m args below meth c0 D kcl A 8 cells slots Q 840 [(4, .int (nI i)), (0, .ref b), (1, .ref a), (2, .ref (am 0)), (3, .ref ao)] [] ((wR k ah ar ac ax a c t h ++ [(ao, .inl (k 1, 1, .inr (.inl f)))]) ++ wM k am gu gv) := by
  refine kw_aload_n C 2 dL_law_840 rfl rfl ?_
  refine kw_aload_n C 1 dL_law_841 rfl rfl ?_
  refine kw_iload C 0 dL_law_842 rfl ?_
  refine kw_iconst (v := 1) C dL_law_844 (by decide) ?_
  refine kw_iadd C dL_law_845 ?_
  refine kw_sld C hX hbs hbA (kscr (j := 1) (by omega) hn rfl) dL_law_846 ?_
  refine kw_eq rfl (show ([.int (xs (i + 1)), .ref a] : List Value) = [.int p0, .ref a] from by rw [q0]) rfl ?_
  refine kw_aload_n C 1 dL_law_847 rfl rfl ?_
  refine kw_iload C 0 dL_law_848 rfl ?_
  refine kw_iconst (v := 2) C dL_law_850 (by decide) ?_
  refine kw_iadd C dL_law_851 ?_
  refine kw_sld C hX hbs hbA (kscr (j := 2) (by omega) hn rfl) dL_law_852 ?_
  refine kw_eq rfl (show ([.int (xs (i + 2)), .int p0, .ref a] : List Value) = [.int p1, .int p0, .ref a] from by rw [q1]) rfl ?_
  refine kw_aload_n C 4 dL_law_853 rfl rfl ?_
  refine kw_callH (w1 := (wR k ah ar ac ax a c t h ++ [(ao, .inl (k 1, 1, .inr (.inl (kout (oR_told c t h p0 p1) (rR_told c t h p0 p1) f))))])) (wr := wM k am gu gv) (st := []) C hE hZ hN (cL_told l D k ah ar ac ax a ao c t h f p0 p1 hl9 hI) (vx_cwSW 4 C.1.2.2.2.2 (kgH kt_485 kt_486 kt_0 kt_487) rfl rfl rfl kdL_told ⟨Nat.le_of_ble_eq_true rfl, Nat.le_of_ble_eq_true rfl⟩) rfl rfl (Nat.le_of_ble_eq_true rfl) dL_law_854 ⟨by exact hcs, by exact hss⟩ kad_o ?_
  refine kw_istore (lv' := [(5, .int (kcode (oR_told c t h p0 p1))), (4, .int (nI i)), (0, .ref b), (1, .ref a), (2, .ref (am 0)), (3, .ref ao)]) C dL_law_857 (by decide) rfl ?_
  refine kw_aload_n C 4 dL_law_859 rfl rfl ?_
  refine kw_aload_n C 2 dL_law_860 rfl rfl ?_
  refine kw_iload C 1 dL_law_861 rfl ?_
  refine kw_iconst (v := 1) C dL_law_863 (by decide) ?_
  refine kw_iadd C dL_law_864 ?_
  refine kw_sld C hX hbs hbA (kscr (j := 1) (by omega) hn rfl) dL_law_865 ?_
  refine kw_eq rfl (show ([.int (xs (i + 1)), .ref (am 0)] : List Value) = [.int p0, .ref (am 0)] from by rw [q0]) rfl ?_
  refine kw_aload_n C 2 dL_law_866 rfl rfl ?_
  refine kw_iload C 1 dL_law_867 rfl ?_
  refine kw_iconst (v := 2) C dL_law_869 (by decide) ?_
  refine kw_iadd C dL_law_870 ?_
  refine kw_sld C hX hbs hbA (kscr (j := 2) (by omega) hn rfl) dL_law_871 ?_
  refine kw_eq rfl (show ([.int (xs (i + 2)), .int p0, .ref (am 0)] : List Value) = [.int p1, .int p0, .ref (am 0)] from by rw [q1]) rfl ?_
  refine kw_callRl (R := room_1) (cells := cells + 1) (slots := slots + 6) (w0 := wM k am gu gv) (w1 := wM k am (sguM_told gu gv p0 p1) gv) (wr := (wR k ah ar ac ax a c t h ++ [(ao, .inl (k 1, 1, .inr (.inl (kout (oR_told c t h p0 p1) (rR_told c t h p0 p1) f))))])) (st := []) C (cM_told l D k am gu gv p0 p1 hIm) (cwV 2 C.1.2.2.2.2 (kgV kt_744 kt_745 kt_746 kt_5 kt_747) rfl rfl rfl kdM_told ⟨Nat.le_of_ble_eq_true rfl, Nat.le_of_ble_eq_true rfl⟩) 0 3 rfl rfl rfl rfl rfl (Nat.le_of_ble_eq_true rfl) dL_law_872 ⟨by exact hcs, by exact hss⟩ kad_m ?_
  refine kw_lstore (lv' := [(6, .long (rM_told gu gv p0 p1)), (5, .int (kcode (oR_told c t h p0 p1))), (4, .int (nI i)), (0, .ref b), (1, .ref a), (2, .ref (am 0)), (3, .ref ao)]) C dL_law_875 (by decide) rfl ?_
  refine kw_aload_n C 5 dL_law_877 rfl rfl ?_
  refine kw_callRi (R := room_1) (cells := cells + 1) (slots := slots + 6) (w0 := wM k am (sguM_told gu gv p0 p1) gv) (w1 := wM k am (sguM_told gu gv p0 p1) gv) (wr := (wR k ah ar ac ax a c t h ++ [(ao, .inl (k 1, 1, .inr (.inl (kout (oR_told c t h p0 p1) (rR_told c t h p0 p1) f))))])) (st := []) C (cM_thrown l D k am (sguM_told gu gv p0 p1) gv) (cwV 0 C.1.2.2.2.2 (kgV kt_668 kt_669 kt_670 kt_5 kt_671) rfl rfl rfl kdM_thrown ⟨Nat.le_of_ble_eq_true rfl, Nat.le_of_ble_eq_true rfl⟩) 0 3 rfl rfl rfl rfl rfl (Nat.le_of_ble_eq_true rfl) dL_law_878 ⟨by exact hcs, by exact hss⟩ rfl ?_
  refine kw_iload C 1 dL_law_881 rfl ?_
  refine kw_icmp_eq (tgt := 888) C dL_law_883 (by decide) (fun c_1 => ?_) (fun c_1 => absurd e1 c_1)
  refine kw_iload C 1 dL_law_888 rfl ?_
  refine kw_if_ne (tgt := 904) C dL_law_890 (by decide) (fun c_2 => ?_) (fun c_2 => ?_)
  · refine kw_goto (tgt := 1110) C dL_law_904 (by decide) ?_
    refine kw_sub [2, 3, 4, 5, 6] rfl ?_
    exact kk
  · skip
    refine kw_aload_n C 6 dL_law_893 rfl rfl ?_
    refine kw_iconst (v := 0) C dL_law_894 (by decide) ?_
    refine kw_lald C 38 1 rfl rfl (show kix 0 1 0 from ⟨by unfold vp_in; decide, by decide⟩) dL_law_895 ?_
    refine kw_lload C 0 dL_law_896 rfl ?_
    refine kw_lcmp C dL_law_898 ?_
    refine kw_if_eq (tgt := 904) C dL_law_899 (by decide) (fun c_3 => ?_) (fun c_3 => absurd (kcmp0 (e2 c_2)) c_3)
    refine kw_goto (tgt := 1110) C dL_law_904 (by decide) ?_
    refine kw_sub [2, 3, 4, 5, 6] rfl ?_
    exact kk
set_option maxRecDepth 100000 in
set_option maxHeartbeats 4000000 in
theorem lL_balance {l : Launch} {p : Program} {e : Env} {s : State} {m : MethodId} {args : Array Value} {below : List Frame} {meth : Method} {c0 : Code} {D : va_G} {A : Nat → Prop} {Q : State → Prop} {cells slots : Nat} (k : Nat → ClassId) (ah : Nat → Nat) (ar : Nat → Nat → Nat) (ac ax am : Nat → Nat) (a ao b n i : Nat) (xs : Nat → Int32) (c t : CS) (h : HS) (gu : MU) (gv : MV) (f : Nat → Int64) (p0 : Int32) (q0 : xs (i + 1) = p0) (hl9 : l.stackTraces = false) (C : kC p s m args c0 code "RoomHoursLaw" kT D kcl (kty k) A 8) (hE : kE s) (hZ : kZ A s s.heap) (hN : kN9 s) (hX : va_X b n xs s s.heap) (hbs : b < s.heap.size) (hbA : ¬ A b) (hn : n ≤ 2560) (hi : i + 5 ≤ n) (hcs : cells + 1 ≤ 601024) (hss : slots + 6 ≤ 7293034) (hI : kInv h) (hIm : mInv gu) (e1 : m_thrown (sguM_balance gu gv p0) = kcode (oR_balance c t h p0)) (e2 : kcode (oR_balance c t h p0) = 0 → (kout (oR_balance c t h p0) (rR_balance c t h p0) f) 0 = (rM_balance gu gv p0)) (kk : kW p l e room_1 s m args below meth c0 D kcl A 8 (cells + 1) (slots + 6) Q 1110 [(4, .int (nI i)), (0, .ref b), (1, .ref a), (2, .ref (am 0)), (3, .ref ao)] [] ((wR k ah ar ac ax a c t h ++ [(ao, .inl (k 1, 1, .inr (.inl (kout (oR_balance c t h p0) (rR_balance c t h p0) f))))]) ++ wM k am (sguM_balance gu gv p0) gv)) : kW p l e room_1 s m args below meth c0 D kcl A 8 cells slots Q 907 [(4, .int (nI i)), (0, .ref b), (1, .ref a), (2, .ref (am 0)), (3, .ref ao)] [] ((wR k ah ar ac ax a c t h ++ [(ao, .inl (k 1, 1, .inr (.inl f)))]) ++ wM k am gu gv) := by
  refine kw_aload_n C 2 dL_law_907 rfl rfl ?_
  refine kw_aload_n C 1 dL_law_908 rfl rfl ?_
  refine kw_iload C 0 dL_law_909 rfl ?_
  refine kw_iconst (v := 1) C dL_law_911 (by decide) ?_
  refine kw_iadd C dL_law_912 ?_
  refine kw_sld C hX hbs hbA (kscr (j := 1) (by omega) hn rfl) dL_law_913 ?_
  refine kw_eq rfl (show ([.int (xs (i + 1)), .ref a] : List Value) = [.int p0, .ref a] from by rw [q0]) rfl ?_
  refine kw_aload_n C 4 dL_law_914 rfl rfl ?_
  refine kw_callH (w1 := (wR k ah ar ac ax a c t h ++ [(ao, .inl (k 1, 1, .inr (.inl (kout (oR_balance c t h p0) (rR_balance c t h p0) f))))])) (wr := wM k am gu gv) (st := []) C hE hZ hN (cL_balance l D k ah ar ac ax a ao c t h f p0 hl9 hI) (vx_cwSW 3 C.1.2.2.2.2 (kgH kt_494 kt_495 kt_0 kt_496) rfl rfl rfl kdL_balance ⟨Nat.le_of_ble_eq_true rfl, Nat.le_of_ble_eq_true rfl⟩) rfl rfl (Nat.le_of_ble_eq_true rfl) dL_law_915 ⟨by exact hcs, by exact hss⟩ kad_o ?_
  refine kw_istore (lv' := [(5, .int (kcode (oR_balance c t h p0))), (4, .int (nI i)), (0, .ref b), (1, .ref a), (2, .ref (am 0)), (3, .ref ao)]) C dL_law_918 (by decide) rfl ?_
  refine kw_aload_n C 4 dL_law_920 rfl rfl ?_
  refine kw_aload_n C 2 dL_law_921 rfl rfl ?_
  refine kw_iload C 1 dL_law_922 rfl ?_
  refine kw_iconst (v := 1) C dL_law_924 (by decide) ?_
  refine kw_iadd C dL_law_925 ?_
  refine kw_sld C hX hbs hbA (kscr (j := 1) (by omega) hn rfl) dL_law_926 ?_
  refine kw_eq rfl (show ([.int (xs (i + 1)), .ref (am 0)] : List Value) = [.int p0, .ref (am 0)] from by rw [q0]) rfl ?_
  refine kw_callRl (R := room_1) (cells := cells + 1) (slots := slots + 6) (w0 := wM k am gu gv) (w1 := wM k am (sguM_balance gu gv p0) gv) (wr := (wR k ah ar ac ax a c t h ++ [(ao, .inl (k 1, 1, .inr (.inl (kout (oR_balance c t h p0) (rR_balance c t h p0) f))))])) (st := []) C (cM_balance l D k am gu gv p0 hIm) (cwV 1 C.1.2.2.2.2 (kgV kt_748 kt_749 kt_750 kt_5 kt_751) rfl rfl rfl kdM_balance ⟨Nat.le_of_ble_eq_true rfl, Nat.le_of_ble_eq_true rfl⟩) 0 3 rfl rfl rfl rfl rfl (Nat.le_of_ble_eq_true rfl) dL_law_927 ⟨by exact hcs, by exact hss⟩ kad_m ?_
  refine kw_lstore (lv' := [(6, .long (rM_balance gu gv p0)), (5, .int (kcode (oR_balance c t h p0))), (4, .int (nI i)), (0, .ref b), (1, .ref a), (2, .ref (am 0)), (3, .ref ao)]) C dL_law_930 (by decide) rfl ?_
  refine kw_aload_n C 5 dL_law_932 rfl rfl ?_
  refine kw_callRi (R := room_1) (cells := cells + 1) (slots := slots + 6) (w0 := wM k am (sguM_balance gu gv p0) gv) (w1 := wM k am (sguM_balance gu gv p0) gv) (wr := (wR k ah ar ac ax a c t h ++ [(ao, .inl (k 1, 1, .inr (.inl (kout (oR_balance c t h p0) (rR_balance c t h p0) f))))])) (st := []) C (cM_thrown l D k am (sguM_balance gu gv p0) gv) (cwV 0 C.1.2.2.2.2 (kgV kt_668 kt_669 kt_670 kt_5 kt_671) rfl rfl rfl kdM_thrown ⟨Nat.le_of_ble_eq_true rfl, Nat.le_of_ble_eq_true rfl⟩) 0 3 rfl rfl rfl rfl rfl (Nat.le_of_ble_eq_true rfl) dL_law_933 ⟨by exact hcs, by exact hss⟩ rfl ?_
  refine kw_iload C 1 dL_law_936 rfl ?_
  refine kw_icmp_eq (tgt := 943) C dL_law_938 (by decide) (fun c_1 => ?_) (fun c_1 => absurd e1 c_1)
  refine kw_iload C 1 dL_law_943 rfl ?_
  refine kw_if_ne (tgt := 959) C dL_law_945 (by decide) (fun c_2 => ?_) (fun c_2 => ?_)
  · refine kw_goto (tgt := 1110) C dL_law_959 (by decide) ?_
    refine kw_sub [2, 3, 4, 5, 6] rfl ?_
    exact kk
  · skip
    refine kw_aload_n C 6 dL_law_948 rfl rfl ?_
    refine kw_iconst (v := 0) C dL_law_949 (by decide) ?_
    refine kw_lald C 38 1 rfl rfl (show kix 0 1 0 from ⟨by unfold vp_in; decide, by decide⟩) dL_law_950 ?_
    refine kw_lload C 0 dL_law_951 rfl ?_
    refine kw_lcmp C dL_law_953 ?_
    refine kw_if_eq (tgt := 959) C dL_law_954 (by decide) (fun c_3 => ?_) (fun c_3 => absurd (kcmp0 (e2 c_2)) c_3)
    refine kw_goto (tgt := 1110) C dL_law_959 (by decide) ?_
    refine kw_sub [2, 3, 4, 5, 6] rfl ?_
    exact kk
set_option maxRecDepth 100000 in
set_option maxHeartbeats 4000000 in
theorem lL_early {l : Launch} {p : Program} {e : Env} {s : State} {m : MethodId} {args : Array Value} {below : List Frame} {meth : Method} {c0 : Code} {D : va_G} {A : Nat → Prop} {Q : State → Prop} {cells slots : Nat} (k : Nat → ClassId) (ah : Nat → Nat) (ar : Nat → Nat → Nat) (ac ax am : Nat → Nat) (a ao b n i : Nat) (xs : Nat → Int32) (c t : CS) (h : HS) (gu : MU) (gv : MV) (f : Nat → Int64) (p0 p1 p2 : Int32) (q0 : xs (i + 1) = p0) (q1 : xs (i + 2) = p1) (q2 : xs (i + 3) = p2) (hl9 : l.stackTraces = false) (C : kC p s m args c0 code "RoomHoursLaw" kT D kcl (kty k) A 8) (hE : kE s) (hZ : kZ A s s.heap) (hN : kN9 s) (hX : va_X b n xs s s.heap) (hbs : b < s.heap.size) (hbA : ¬ A b) (hn : n ≤ 2560) (hi : i + 5 ≤ n) (hcs : cells + 1 ≤ 601024) (hss : slots + 6 ≤ 7293034) (hI : kInv h) (hb : rC_nextBeginning c h p1 = nI ((c_over c).toNatClampNeg + ((rC_nextBeginning c h p1).toNatClampNeg - (c_over c).toNatClampNeg))) (ho : c_over c = nI (c_over c).toNatClampNeg) (ho5 : (c_over c).toNatClampNeg ≤ 100000) (hK : ((rC_nextBeginning c h p1).toNatClampNeg - (c_over c).toNatClampNeg) ≤ 96) (hIm : mInv gu) (hom : m_now gv = nI (m_now gv).toNatClampNeg) (hom5 : (m_now gv).toNatClampNeg ≤ 100000) (e1 : m_thrown (sguM_early gu gv p0 p1 p2) = kcode (oR_early c t h p0 p1 p2)) (e2 : kcode (oR_early c t h p0 p1 p2) = 0 → (kout (oR_early c t h p0 p1 p2) (rR_early c t h p0 p1 p2).toInt64 f) 0 = (rM_early gu gv p0 p1 p2).toInt64) (kk : kW p l e room_1 s m args below meth c0 D kcl A 8 (cells + 1) (slots + 6) Q 1110 [(4, .int (nI i)), (0, .ref b), (1, .ref a), (2, .ref (am 0)), (3, .ref ao)] [] ((wR k ah ar ac ax a c (stR_early c t h p0 p1 p2) h ++ [(ao, .inl (k 1, 1, .inr (.inl (kout (oR_early c t h p0 p1 p2) (rR_early c t h p0 p1 p2).toInt64 f))))]) ++ wM k am (sguM_early gu gv p0 p1 p2) (sgvM_early gu gv p0 p1 p2))) : kW p l e room_1 s m args below meth c0 D kcl A 8 cells slots Q 962 [(4, .int (nI i)), (0, .ref b), (1, .ref a), (2, .ref (am 0)), (3, .ref ao)] [] ((wR k ah ar ac ax a c t h ++ [(ao, .inl (k 1, 1, .inr (.inl f)))]) ++ wM k am gu gv) := by
  refine kw_aload_n C 2 dL_law_962 rfl rfl ?_
  refine kw_aload_n C 1 dL_law_963 rfl rfl ?_
  refine kw_iload C 0 dL_law_964 rfl ?_
  refine kw_iconst (v := 1) C dL_law_966 (by decide) ?_
  refine kw_iadd C dL_law_967 ?_
  refine kw_sld C hX hbs hbA (kscr (j := 1) (by omega) hn rfl) dL_law_968 ?_
  refine kw_eq rfl (show ([.int (xs (i + 1)), .ref a] : List Value) = [.int p0, .ref a] from by rw [q0]) rfl ?_
  refine kw_aload_n C 1 dL_law_969 rfl rfl ?_
  refine kw_iload C 0 dL_law_970 rfl ?_
  refine kw_iconst (v := 2) C dL_law_972 (by decide) ?_
  refine kw_iadd C dL_law_973 ?_
  refine kw_sld C hX hbs hbA (kscr (j := 2) (by omega) hn rfl) dL_law_974 ?_
  refine kw_eq rfl (show ([.int (xs (i + 2)), .int p0, .ref a] : List Value) = [.int p1, .int p0, .ref a] from by rw [q1]) rfl ?_
  refine kw_aload_n C 1 dL_law_975 rfl rfl ?_
  refine kw_iload C 0 dL_law_976 rfl ?_
  refine kw_iconst (v := 3) C dL_law_978 (by decide) ?_
  refine kw_iadd C dL_law_979 ?_
  refine kw_sld C hX hbs hbA (kscr (j := 3) (by omega) hn rfl) dL_law_980 ?_
  refine kw_eq rfl (show ([.int (xs (i + 3)), .int p1, .int p0, .ref a] : List Value) = [.int p2, .int p1, .int p0, .ref a] from by rw [q2]) rfl ?_
  refine kw_aload_n C 4 dL_law_981 rfl rfl ?_
  refine kw_callH (w1 := (wR k ah ar ac ax a c (stR_early c t h p0 p1 p2) h ++ [(ao, .inl (k 1, 1, .inr (.inl (kout (oR_early c t h p0 p1 p2) (rR_early c t h p0 p1 p2).toInt64 f))))])) (wr := wM k am gu gv) (st := []) C hE hZ hN (cL_early l D k ah ar ac ax a ao c t h f p0 p1 p2 hl9 hI hb ho ho5 hK) (vx_cwSW 5 C.1.2.2.2.2 (kgH kt_506 kt_507 kt_0 kt_508) rfl rfl rfl kdL_early ⟨Nat.le_of_ble_eq_true rfl, Nat.le_of_ble_eq_true rfl⟩) rfl rfl (Nat.le_of_ble_eq_true rfl) dL_law_982 ⟨by exact hcs, by exact hss⟩ kad_o ?_
  refine kw_istore (lv' := [(5, .int (kcode (oR_early c t h p0 p1 p2))), (4, .int (nI i)), (0, .ref b), (1, .ref a), (2, .ref (am 0)), (3, .ref ao)]) C dL_law_985 (by decide) rfl ?_
  refine kw_aload_n C 4 dL_law_987 rfl rfl ?_
  refine kw_aload_n C 2 dL_law_988 rfl rfl ?_
  refine kw_iload C 1 dL_law_989 rfl ?_
  refine kw_iconst (v := 1) C dL_law_991 (by decide) ?_
  refine kw_iadd C dL_law_992 ?_
  refine kw_sld C hX hbs hbA (kscr (j := 1) (by omega) hn rfl) dL_law_993 ?_
  refine kw_eq rfl (show ([.int (xs (i + 1)), .ref (am 0)] : List Value) = [.int p0, .ref (am 0)] from by rw [q0]) rfl ?_
  refine kw_aload_n C 2 dL_law_994 rfl rfl ?_
  refine kw_iload C 1 dL_law_995 rfl ?_
  refine kw_iconst (v := 2) C dL_law_997 (by decide) ?_
  refine kw_iadd C dL_law_998 ?_
  refine kw_sld C hX hbs hbA (kscr (j := 2) (by omega) hn rfl) dL_law_999 ?_
  refine kw_eq rfl (show ([.int (xs (i + 2)), .int p0, .ref (am 0)] : List Value) = [.int p1, .int p0, .ref (am 0)] from by rw [q1]) rfl ?_
  refine kw_aload_n C 2 dL_law_1000 rfl rfl ?_
  refine kw_iload C 1 dL_law_1001 rfl ?_
  refine kw_iconst (v := 3) C dL_law_1003 (by decide) ?_
  refine kw_iadd C dL_law_1004 ?_
  refine kw_sld C hX hbs hbA (kscr (j := 3) (by omega) hn rfl) dL_law_1005 ?_
  refine kw_eq rfl (show ([.int (xs (i + 3)), .int p1, .int p0, .ref (am 0)] : List Value) = [.int p2, .int p1, .int p0, .ref (am 0)] from by rw [q2]) rfl ?_
  refine kw_callRi (R := room_1) (cells := cells + 1) (slots := slots + 6) (w0 := wM k am gu gv) (w1 := wM k am (sguM_early gu gv p0 p1 p2) (sgvM_early gu gv p0 p1 p2)) (wr := (wR k ah ar ac ax a c (stR_early c t h p0 p1 p2) h ++ [(ao, .inl (k 1, 1, .inr (.inl (kout (oR_early c t h p0 p1 p2) (rR_early c t h p0 p1 p2).toInt64 f))))])) (st := []) C (cM_early l D k am gu gv p0 p1 p2 hIm hom hom5) (cwV 3 C.1.2.2.2.2 (kgV kt_752 kt_753 kt_754 kt_5 kt_755) rfl rfl rfl kdM_early ⟨Nat.le_of_ble_eq_true rfl, Nat.le_of_ble_eq_true rfl⟩) 0 3 rfl rfl rfl rfl rfl (Nat.le_of_ble_eq_true rfl) dL_law_1006 ⟨by exact hcs, by exact hss⟩ kad_m ?_
  refine kw_istore (lv' := [(6, .int (rM_early gu gv p0 p1 p2)), (5, .int (kcode (oR_early c t h p0 p1 p2))), (4, .int (nI i)), (0, .ref b), (1, .ref a), (2, .ref (am 0)), (3, .ref ao)]) C dL_law_1009 (by decide) rfl ?_
  refine kw_aload_n C 5 dL_law_1011 rfl rfl ?_
  refine kw_callRi (R := room_1) (cells := cells + 1) (slots := slots + 6) (w0 := wM k am (sguM_early gu gv p0 p1 p2) (sgvM_early gu gv p0 p1 p2)) (w1 := wM k am (sguM_early gu gv p0 p1 p2) (sgvM_early gu gv p0 p1 p2)) (wr := (wR k ah ar ac ax a c (stR_early c t h p0 p1 p2) h ++ [(ao, .inl (k 1, 1, .inr (.inl (kout (oR_early c t h p0 p1 p2) (rR_early c t h p0 p1 p2).toInt64 f))))])) (st := []) C (cM_thrown l D k am (sguM_early gu gv p0 p1 p2) (sgvM_early gu gv p0 p1 p2)) (cwV 0 C.1.2.2.2.2 (kgV kt_668 kt_669 kt_670 kt_5 kt_671) rfl rfl rfl kdM_thrown ⟨Nat.le_of_ble_eq_true rfl, Nat.le_of_ble_eq_true rfl⟩) 0 3 rfl rfl rfl rfl rfl (Nat.le_of_ble_eq_true rfl) dL_law_1012 ⟨by exact hcs, by exact hss⟩ rfl ?_
  refine kw_iload C 1 dL_law_1015 rfl ?_
  refine kw_icmp_eq (tgt := 1022) C dL_law_1017 (by decide) (fun c_1 => ?_) (fun c_1 => absurd e1 c_1)
  refine kw_iload C 1 dL_law_1022 rfl ?_
  refine kw_if_ne (tgt := 1039) C dL_law_1024 (by decide) (fun c_2 => ?_) (fun c_2 => ?_)
  · refine kw_goto (tgt := 1110) C dL_law_1039 (by decide) ?_
    refine kw_sub [2, 3, 4, 5, 6] rfl ?_
    exact kk
  · skip
    refine kw_aload_n C 6 dL_law_1027 rfl rfl ?_
    refine kw_iconst (v := 0) C dL_law_1028 (by decide) ?_
    refine kw_lald C 38 1 rfl rfl (show kix 0 1 0 from ⟨by unfold vp_in; decide, by decide⟩) dL_law_1029 ?_
    refine kw_iload C 0 dL_law_1030 rfl ?_
    refine kw_i2l C dL_law_1032 ?_
    refine kw_lcmp C dL_law_1033 ?_
    refine kw_if_eq (tgt := 1039) C dL_law_1034 (by decide) (fun c_3 => ?_) (fun c_3 => absurd (kcmp0 (e2 c_2)) c_3)
    refine kw_goto (tgt := 1110) C dL_law_1039 (by decide) ?_
    refine kw_sub [2, 3, 4, 5, 6] rfl ?_
    exact kk
set_option maxRecDepth 100000 in
set_option maxHeartbeats 4000000 in
theorem lL_strong {l : Launch} {p : Program} {e : Env} {s : State} {m : MethodId} {args : Array Value} {below : List Frame} {meth : Method} {c0 : Code} {D : va_G} {A : Nat → Prop} {Q : State → Prop} {cells slots : Nat} (k : Nat → ClassId) (ah : Nat → Nat) (ar : Nat → Nat → Nat) (ac ax am : Nat → Nat) (a ao b n i : Nat) (xs : Nat → Int32) (c t : CS) (h : HS) (gu : MU) (gv : MV) (f : Nat → Int64) (p0 p1 : Int32) (q0 : xs (i + 1) = p0) (q1 : xs (i + 2) = p1) (hl9 : l.stackTraces = false) (C : kC p s m args c0 code "RoomHoursLaw" kT D kcl (kty k) A 8) (hE : kE s) (hZ : kZ A s s.heap) (hN : kN9 s) (hX : va_X b n xs s s.heap) (hbs : b < s.heap.size) (hbA : ¬ A b) (hn : n ≤ 2560) (hi : i + 5 ≤ n) (hcs : cells + 1 ≤ 601024) (hss : slots + 6 ≤ 7293034) (hI : kInv h) (o : Nat) (ho : c_over c = nI o) (ho5 : o ≤ 100000) (hIm : mInv gu) (hom : m_now gv = nI (m_now gv).toNatClampNeg) (hom5 : (m_now gv).toNatClampNeg ≤ 100000) (e1 : m_thrown (sguM_strong gu gv p0 p1) = kcode (oR_strong c t h p0 p1)) (e2 : kcode (oR_strong c t h p0 p1) = 0 → (kout (oR_strong c t h p0 p1) (rR_strong c t h p0 p1).toInt64 f) 0 = (rM_strong gu gv p0 p1).toInt64) (kk : kW p l e room_1 s m args below meth c0 D kcl A 8 (cells + 1) (slots + 6) Q 1110 [(4, .int (nI i)), (0, .ref b), (1, .ref a), (2, .ref (am 0)), (3, .ref ao)] [] ((wR k ah ar ac ax a c (stR_strong c t h p0 p1) h ++ [(ao, .inl (k 1, 1, .inr (.inl (kout (oR_strong c t h p0 p1) (rR_strong c t h p0 p1).toInt64 f))))]) ++ wM k am (sguM_strong gu gv p0 p1) (sgvM_strong gu gv p0 p1))) : kW p l e room_1 s m args below meth c0 D kcl A 8 cells slots Q 1042 [(4, .int (nI i)), (0, .ref b), (1, .ref a), (2, .ref (am 0)), (3, .ref ao)] [] ((wR k ah ar ac ax a c t h ++ [(ao, .inl (k 1, 1, .inr (.inl f)))]) ++ wM k am gu gv) := by
  refine kw_aload_n C 2 dL_law_1042 rfl rfl ?_
  refine kw_aload_n C 1 dL_law_1043 rfl rfl ?_
  refine kw_iload C 0 dL_law_1044 rfl ?_
  refine kw_iconst (v := 1) C dL_law_1046 (by decide) ?_
  refine kw_iadd C dL_law_1047 ?_
  refine kw_sld C hX hbs hbA (kscr (j := 1) (by omega) hn rfl) dL_law_1048 ?_
  refine kw_eq rfl (show ([.int (xs (i + 1)), .ref a] : List Value) = [.int p0, .ref a] from by rw [q0]) rfl ?_
  refine kw_aload_n C 1 dL_law_1049 rfl rfl ?_
  refine kw_iload C 0 dL_law_1050 rfl ?_
  refine kw_iconst (v := 2) C dL_law_1052 (by decide) ?_
  refine kw_iadd C dL_law_1053 ?_
  refine kw_sld C hX hbs hbA (kscr (j := 2) (by omega) hn rfl) dL_law_1054 ?_
  refine kw_eq rfl (show ([.int (xs (i + 2)), .int p0, .ref a] : List Value) = [.int p1, .int p0, .ref a] from by rw [q1]) rfl ?_
  refine kw_aload_n C 4 dL_law_1055 rfl rfl ?_
  refine kw_callH (w1 := (wR k ah ar ac ax a c (stR_strong c t h p0 p1) h ++ [(ao, .inl (k 1, 1, .inr (.inl (kout (oR_strong c t h p0 p1) (rR_strong c t h p0 p1).toInt64 f))))])) (wr := wM k am gu gv) (st := []) C hE hZ hN (cL_strong l D k ah ar ac ax a ao c t h f p0 p1 hl9 hI o ho ho5) (vx_cwSW 4 C.1.2.2.2.2 (kgH kt_532 kt_533 kt_0 kt_534) rfl rfl rfl kdL_strong ⟨Nat.le_of_ble_eq_true rfl, Nat.le_of_ble_eq_true rfl⟩) rfl rfl (Nat.le_of_ble_eq_true rfl) dL_law_1056 ⟨by exact hcs, by exact hss⟩ kad_o ?_
  refine kw_istore (lv' := [(5, .int (kcode (oR_strong c t h p0 p1))), (4, .int (nI i)), (0, .ref b), (1, .ref a), (2, .ref (am 0)), (3, .ref ao)]) C dL_law_1059 (by decide) rfl ?_
  refine kw_aload_n C 4 dL_law_1061 rfl rfl ?_
  refine kw_aload_n C 2 dL_law_1062 rfl rfl ?_
  refine kw_iload C 1 dL_law_1063 rfl ?_
  refine kw_iconst (v := 1) C dL_law_1065 (by decide) ?_
  refine kw_iadd C dL_law_1066 ?_
  refine kw_sld C hX hbs hbA (kscr (j := 1) (by omega) hn rfl) dL_law_1067 ?_
  refine kw_eq rfl (show ([.int (xs (i + 1)), .ref (am 0)] : List Value) = [.int p0, .ref (am 0)] from by rw [q0]) rfl ?_
  refine kw_aload_n C 2 dL_law_1068 rfl rfl ?_
  refine kw_iload C 1 dL_law_1069 rfl ?_
  refine kw_iconst (v := 2) C dL_law_1071 (by decide) ?_
  refine kw_iadd C dL_law_1072 ?_
  refine kw_sld C hX hbs hbA (kscr (j := 2) (by omega) hn rfl) dL_law_1073 ?_
  refine kw_eq rfl (show ([.int (xs (i + 2)), .int p0, .ref (am 0)] : List Value) = [.int p1, .int p0, .ref (am 0)] from by rw [q1]) rfl ?_
  refine kw_callRi (R := room_1) (cells := cells + 1) (slots := slots + 6) (w0 := wM k am gu gv) (w1 := wM k am (sguM_strong gu gv p0 p1) (sgvM_strong gu gv p0 p1)) (wr := (wR k ah ar ac ax a c (stR_strong c t h p0 p1) h ++ [(ao, .inl (k 1, 1, .inr (.inl (kout (oR_strong c t h p0 p1) (rR_strong c t h p0 p1).toInt64 f))))])) (st := []) C (cM_strong l D k am gu gv p0 p1 hIm hom hom5) (cwV 2 C.1.2.2.2.2 (kgV kt_764 kt_765 kt_766 kt_5 kt_767) rfl rfl rfl kdM_strong ⟨Nat.le_of_ble_eq_true rfl, Nat.le_of_ble_eq_true rfl⟩) 0 3 rfl rfl rfl rfl rfl (Nat.le_of_ble_eq_true rfl) dL_law_1074 ⟨by exact hcs, by exact hss⟩ kad_m ?_
  refine kw_istore (lv' := [(6, .int (rM_strong gu gv p0 p1)), (5, .int (kcode (oR_strong c t h p0 p1))), (4, .int (nI i)), (0, .ref b), (1, .ref a), (2, .ref (am 0)), (3, .ref ao)]) C dL_law_1077 (by decide) rfl ?_
  refine kw_aload_n C 5 dL_law_1079 rfl rfl ?_
  refine kw_callRi (R := room_1) (cells := cells + 1) (slots := slots + 6) (w0 := wM k am (sguM_strong gu gv p0 p1) (sgvM_strong gu gv p0 p1)) (w1 := wM k am (sguM_strong gu gv p0 p1) (sgvM_strong gu gv p0 p1)) (wr := (wR k ah ar ac ax a c (stR_strong c t h p0 p1) h ++ [(ao, .inl (k 1, 1, .inr (.inl (kout (oR_strong c t h p0 p1) (rR_strong c t h p0 p1).toInt64 f))))])) (st := []) C (cM_thrown l D k am (sguM_strong gu gv p0 p1) (sgvM_strong gu gv p0 p1)) (cwV 0 C.1.2.2.2.2 (kgV kt_668 kt_669 kt_670 kt_5 kt_671) rfl rfl rfl kdM_thrown ⟨Nat.le_of_ble_eq_true rfl, Nat.le_of_ble_eq_true rfl⟩) 0 3 rfl rfl rfl rfl rfl (Nat.le_of_ble_eq_true rfl) dL_law_1080 ⟨by exact hcs, by exact hss⟩ rfl ?_
  refine kw_iload C 1 dL_law_1083 rfl ?_
  refine kw_icmp_eq (tgt := 1090) C dL_law_1085 (by decide) (fun c_1 => ?_) (fun c_1 => absurd e1 c_1)
  refine kw_iload C 1 dL_law_1090 rfl ?_
  refine kw_if_ne (tgt := 1107) C dL_law_1092 (by decide) (fun c_2 => ?_) (fun c_2 => ?_)
  · refine kw_goto (tgt := 1110) C dL_law_1107 (by decide) ?_
    refine kw_sub [2, 3, 4, 5, 6] rfl ?_
    exact kk
  · skip
    refine kw_aload_n C 6 dL_law_1095 rfl rfl ?_
    refine kw_iconst (v := 0) C dL_law_1096 (by decide) ?_
    refine kw_lald C 38 1 rfl rfl (show kix 0 1 0 from ⟨by unfold vp_in; decide, by decide⟩) dL_law_1097 ?_
    refine kw_iload C 0 dL_law_1098 rfl ?_
    refine kw_i2l C dL_law_1100 ?_
    refine kw_lcmp C dL_law_1101 ?_
    refine kw_if_eq (tgt := 1107) C dL_law_1102 (by decide) (fun c_3 => ?_) (fun c_3 => absurd (kcmp0 (e2 c_2)) c_3)
    refine kw_goto (tgt := 1110) C dL_law_1107 (by decide) ?_
    refine kw_sub [2, 3, 4, 5, 6] rfl ?_
    exact kk
