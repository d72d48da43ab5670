noncomputable def bM_balance_33 (z : Int64) (gu : MU) (gv : MV) (what : Int32) (i : Nat) : Int64 := if what = 0 then z + ((m_heat gv) i) else (if what = 2 then z + ((m_gave gv) i) else z + ((m_taken gv) i))
noncomputable def fM_balance_33 (gu : MU) (gv : MV) (what : Int32) (n : Nat) : Int64 := Nat.rec (motive := fun _ => Int64) 0 (fun i z => bM_balance_33 z gu gv what i) n
set_option maxRecDepth 100000 in
set_option maxHeartbeats 4000000 in
theorem lM_balance_33 {l : Launch} {p : Program} {e : Env} {s : State} {m : MethodId} {args : Array Value} {below : List Frame} {meth : Method} {c0 : Code} {D : va_G} {A : Nat → Prop} {Q : State → Prop} (k : Nat → ClassId) (am : Nat → Nat) (gu : MU) (gv : MV) (what : Int32) (hI : mInv gu) (hw : what = 0 ∨ what = 2 ∨ what = 3) (C : kC p s m args c0 bM_balance "RoomHoursModel" kT D kcl (kty k) A 5) (kk : kW p l e ({ frames := 1, cells := 0, slots := 0, locals := 22 }) s m args below meth c0 D kcl A 5 0 0 Q 101 [(4, .int (nI (mnR gu))), (0, .ref (am 0)), (1, .int what), (2, .long (fM_balance_33 gu gv what (mnR gu)))] [] (wM k am gu gv)) : ∀ (n i : Nat), i ≤ mnR gu → mnR gu < i + n → kW p l e ({ frames := 1, cells := 0, slots := 0, locals := 22 }) s m args below meth c0 D kcl A 5 0 0 Q 33 [(4, .int (nI i)), (0, .ref (am 0)), (1, .int what), (2, .long (fM_balance_33 gu gv what i))] [] (wM k am gu gv) := by
  intro n
  induction n with
  | zero => exact fun i h1 h2 => absurd h2 (by omega)
  | succ n ih =>
    intro i hi hin
    have hb8 := hI.1.2
    refine kw_iload C 0 dM_balance_33 rfl ?_
    refine kw_aload_n C 1 dM_balance_35 rfl rfl ?_
    refine kw_get (v := .int (m_rooms gu)) C 0 rfl rfl ku_M 1 (by decide) kt_557 rfl dM_balance_36 ?_
    refine kw_icmp_ge (tgt := 101) C dM_balance_39 (by decide) (fun c_1 => ?_) (fun c_1 => ?_)
    · skip
      have e9 : i = mnR gu := klp1 hI.1.1 (by omega) hi c_1
      subst e9
      refine kw_sub [0, 1, 2, 3] rfl ?_
      exact kk
    · skip
      have hlt : i < mnR gu := klp2 hI.1.1 (by omega) c_1
      refine kw_iload_n C 2 dM_balance_42 rfl rfl ?_
      refine kw_if_eq (tgt := 56) C dM_balance_43 (by decide) (fun c_2 => ?_) (fun c_2 => ?_)
      · skip
        refine kw_lload_n C 3 dM_balance_56 rfl rfl ?_
        refine kw_iload_n C 2 dM_balance_57 rfl rfl ?_
        refine kw_if_ne (tgt := 71) C dM_balance_58 (by decide) (fun c_3 => ?_) (fun c_3 => ?_)
        · skip
          exact absurd c_2 c_3
        · skip
          refine kw_aload_n C 1 dM_balance_61 rfl rfl ?_
          refine kw_get (v := .ref (am 2)) C 0 rfl rfl ku_M 3 (by decide) kt_559 rfl dM_balance_62 ?_
          refine kw_iload C 0 dM_balance_65 rfl ?_
          refine kw_lald C 2 1 rfl rfl (kix_nI (by omega) (by decide)) dM_balance_67 ?_
          refine kw_goto (tgt := 93) C dM_balance_68 (by decide) ?_
          refine kw_ladd C dM_balance_93 ?_
          refine kw_lstore_n (lv' := [(2, .long ((fM_balance_33 gu gv what i) + ((m_heat gv) i))), (4, .int (nI i)), (0, .ref (am 0)), (1, .int what)]) C dM_balance_94 rfl (by decide) rfl ?_
          refine kw_iinc (v := nI (i + 1)) (lv' := [(4, .int (nI (i + 1))), (2, .long ((fM_balance_33 gu gv what i) + ((m_heat gv) i))), (0, .ref (am 0)), (1, .int what)]) C 1 dM_balance_95 rfl (nI_1 i) (by decide) rfl ?_
          refine kw_goto (tgt := 33) C dM_balance_98 (by decide) ?_
          refine kw_sub [0, 2, 3, 1] rfl ?_
          refine kw_eq (show ([(4, .int (nI (i + 1))), (0, .ref (am 0)), (1, .int what), (2, .long ((fM_balance_33 gu gv what i) + ((m_heat gv) i)))] : List (Nat × Value)) = [(4, .int (nI (i + 1))), (0, .ref (am 0)), (1, .int what), (2, .long (fM_balance_33 gu gv what (i + 1)))] from by show ([(4, .int (nI (i + 1))), (0, .ref (am 0)), (1, .int what), (2, .long ((fM_balance_33 gu gv what i) + ((m_heat gv) i)))] : List (Nat × Value)) = [(4, .int (nI (i + 1))), (0, .ref (am 0)), (1, .int what), (2, .long (bM_balance_33 (fM_balance_33 gu gv what i) gu gv what i))]; unfold bM_balance_33; first | rw [if_pos c_2] | simp only [if_pos c_2]) rfl rfl ?_
          exact ih (i + 1) (by omega) (by omega)
      · skip
        refine kw_iload_n C 2 dM_balance_46 rfl rfl ?_
        refine kw_iconst (v := 2) C dM_balance_47 (by decide) ?_
        refine kw_icmp_eq (tgt := 56) C dM_balance_48 (by decide) (fun c_4 => ?_) (fun c_4 => ?_)
        · skip
          refine kw_lload_n C 3 dM_balance_56 rfl rfl ?_
          refine kw_iload_n C 2 dM_balance_57 rfl rfl ?_
          refine kw_if_ne (tgt := 71) C dM_balance_58 (by decide) (fun c_5 => ?_) (fun c_5 => ?_)
          · skip
            refine kw_iload_n C 2 dM_balance_71 rfl rfl ?_
            refine kw_iconst (v := 2) C dM_balance_72 (by decide) ?_
            refine kw_icmp_ne (tgt := 86) C dM_balance_73 (by decide) (fun c_6 => ?_) (fun c_6 => ?_)
            · skip
              exact absurd c_4 c_6
            · skip
              refine kw_aload_n C 1 dM_balance_76 rfl rfl ?_
              refine kw_get (v := .ref (am 4)) C 0 rfl rfl ku_M 5 (by decide) kt_561 rfl dM_balance_77 ?_
              refine kw_iload C 0 dM_balance_80 rfl ?_
              refine kw_lald C 4 1 rfl rfl (kix_nI (by omega) (by decide)) dM_balance_82 ?_
              refine kw_goto (tgt := 93) C dM_balance_83 (by decide) ?_
              refine kw_ladd C dM_balance_93 ?_
              refine kw_lstore_n (lv' := [(2, .long ((fM_balance_33 gu gv what i) + ((m_gave gv) i))), (4, .int (nI i)), (0, .ref (am 0)), (1, .int what)]) C dM_balance_94 rfl (by decide) rfl ?_
              refine kw_iinc (v := nI (i + 1)) (lv' := [(4, .int (nI (i + 1))), (2, .long ((fM_balance_33 gu gv what i) + ((m_gave gv) i))), (0, .ref (am 0)), (1, .int what)]) C 1 dM_balance_95 rfl (nI_1 i) (by decide) rfl ?_
              refine kw_goto (tgt := 33) C dM_balance_98 (by decide) ?_
              refine kw_sub [0, 2, 3, 1] rfl ?_
              refine kw_eq (show ([(4, .int (nI (i + 1))), (0, .ref (am 0)), (1, .int what), (2, .long ((fM_balance_33 gu gv what i) + ((m_gave gv) i)))] : List (Nat × Value)) = [(4, .int (nI (i + 1))), (0, .ref (am 0)), (1, .int what), (2, .long (fM_balance_33 gu gv what (i + 1)))] from by show ([(4, .int (nI (i + 1))), (0, .ref (am 0)), (1, .int what), (2, .long ((fM_balance_33 gu gv what i) + ((m_gave gv) i)))] : List (Nat × Value)) = [(4, .int (nI (i + 1))), (0, .ref (am 0)), (1, .int what), (2, .long (bM_balance_33 (fM_balance_33 gu gv what i) gu gv what i))]; unfold bM_balance_33; first | rw [if_neg c_2, if_pos c_4] | simp only [if_neg c_2, if_pos c_4]) rfl rfl ?_
              exact ih (i + 1) (by omega) (by omega)
          · skip
            exact absurd c_5 c_2
        · skip
          refine kw_iload_n C 2 dM_balance_51 rfl rfl ?_
          refine kw_iconst (v := 3) C dM_balance_52 (by decide) ?_
          refine kw_icmp_ne (tgt := 101) C dM_balance_53 (by decide) (fun c_7 => ?_) (fun c_7 => ?_)
          · skip
            exact (hw.elim c_2 (fun h9 => h9.elim c_4 c_7)).elim
          · skip
            refine kw_lload_n C 3 dM_balance_56 rfl rfl ?_
            refine kw_iload_n C 2 dM_balance_57 rfl rfl ?_
            refine kw_if_ne (tgt := 71) C dM_balance_58 (by decide) (fun c_8 => ?_) (fun c_8 => ?_)
            · skip
              refine kw_iload_n C 2 dM_balance_71 rfl rfl ?_
              refine kw_iconst (v := 2) C dM_balance_72 (by decide) ?_
              refine kw_icmp_ne (tgt := 86) C dM_balance_73 (by decide) (fun c_9 => ?_) (fun c_9 => ?_)
              · skip
                refine kw_aload_n C 1 dM_balance_86 rfl rfl ?_
                refine kw_get (v := .ref (am 5)) C 0 rfl rfl ku_M 6 (by decide) kt_562 rfl dM_balance_87 ?_
                refine kw_iload C 0 dM_balance_90 rfl ?_
                refine kw_lald C 5 1 rfl rfl (kix_nI (by omega) (by decide)) dM_balance_92 ?_
                refine kw_ladd C dM_balance_93 ?_
                refine kw_lstore_n (lv' := [(2, .long ((fM_balance_33 gu gv what i) + ((m_taken gv) i))), (4, .int (nI i)), (0, .ref (am 0)), (1, .int what)]) C dM_balance_94 rfl (by decide) rfl ?_
                refine kw_iinc (v := nI (i + 1)) (lv' := [(4, .int (nI (i + 1))), (2, .long ((fM_balance_33 gu gv what i) + ((m_taken gv) i))), (0, .ref (am 0)), (1, .int what)]) C 1 dM_balance_95 rfl (nI_1 i) (by decide) rfl ?_
                refine kw_goto (tgt := 33) C dM_balance_98 (by decide) ?_
                refine kw_sub [0, 2, 3, 1] rfl ?_
                refine kw_eq (show ([(4, .int (nI (i + 1))), (0, .ref (am 0)), (1, .int what), (2, .long ((fM_balance_33 gu gv what i) + ((m_taken gv) i)))] : List (Nat × Value)) = [(4, .int (nI (i + 1))), (0, .ref (am 0)), (1, .int what), (2, .long (fM_balance_33 gu gv what (i + 1)))] from by show ([(4, .int (nI (i + 1))), (0, .ref (am 0)), (1, .int what), (2, .long ((fM_balance_33 gu gv what i) + ((m_taken gv) i)))] : List (Nat × Value)) = [(4, .int (nI (i + 1))), (0, .ref (am 0)), (1, .int what), (2, .long (bM_balance_33 (fM_balance_33 gu gv what i) gu gv what i))]; unfold bM_balance_33; first | rw [if_neg c_2, if_neg c_4, if_pos c_7] | simp only [if_neg c_2, if_neg c_4, if_pos c_7]) rfl rfl ?_
                exact ih (i + 1) (by omega) (by omega)
              · skip
                exact absurd c_9 c_4
            · skip
              exact absurd c_8 c_2
noncomputable def rM_balance (gu : MU) (gv : MV) (what : Int32) : Int64 := if (rM_in what 0 6) = 0 then 0 else (if what = 0 then (if what = 1 then (m_began (0, (m_rooms gu), (m_store gu), (m_mostHeating gu), (m_mostCooling gu), (m_began gu), (m_walls gu), (m_wallRoom gu), (m_wallOther gu), (m_leads gu), (m_windows gu), (m_windowRoom gu), (m_windowSide gu), (m_windowArea gu), (m_windowLimit gu), (m_outside gu), (m_sun gu), (m_persons gu), (m_set gu), (m_cool gu), (m_low gu), (m_high gu))) else (if what = 4 then (m_bySun gv) else (if what = 5 then (m_byPersons gv) else (if what = 6 then (m_out gv) else (fM_balance_33 (0, (m_rooms gu), (m_store gu), (m_mostHeating gu), (m_mostCooling gu), (m_began gu), (m_walls gu), (m_wallRoom gu), (m_wallOther gu), (m_leads gu), (m_windows gu), (m_windowRoom gu), (m_windowSide gu), (m_windowArea gu), (m_windowLimit gu), (m_outside gu), (m_sun gu), (m_persons gu), (m_set gu), (m_cool gu), (m_low gu), (m_high gu)) gv what (mnR (0, (m_rooms gu), (m_store gu), (m_mostHeating gu), (m_mostCooling gu), (m_began gu), (m_walls gu), (m_wallRoom gu), (m_wallOther gu), (m_leads gu), (m_windows gu), (m_windowRoom gu), (m_windowSide gu), (m_windowArea gu), (m_windowLimit gu), (m_outside gu), (m_sun gu), (m_persons gu), (m_set gu), (m_cool gu), (m_low gu), (m_high gu)))))))) else (if what = 2 then (if what = 1 then (m_began (0, (m_rooms gu), (m_store gu), (m_mostHeating gu), (m_mostCooling gu), (m_began gu), (m_walls gu), (m_wallRoom gu), (m_wallOther gu), (m_leads gu), (m_windows gu), (m_windowRoom gu), (m_windowSide gu), (m_windowArea gu), (m_windowLimit gu), (m_outside gu), (m_sun gu), (m_persons gu), (m_set gu), (m_cool gu), (m_low gu), (m_high gu))) else (if what = 4 then (m_bySun gv) else (if what = 5 then (m_byPersons gv) else (if what = 6 then (m_out gv) else (fM_balance_33 (0, (m_rooms gu), (m_store gu), (m_mostHeating gu), (m_mostCooling gu), (m_began gu), (m_walls gu), (m_wallRoom gu), (m_wallOther gu), (m_leads gu), (m_windows gu), (m_windowRoom gu), (m_windowSide gu), (m_windowArea gu), (m_windowLimit gu), (m_outside gu), (m_sun gu), (m_persons gu), (m_set gu), (m_cool gu), (m_low gu), (m_high gu)) gv what (mnR (0, (m_rooms gu), (m_store gu), (m_mostHeating gu), (m_mostCooling gu), (m_began gu), (m_walls gu), (m_wallRoom gu), (m_wallOther gu), (m_leads gu), (m_windows gu), (m_windowRoom gu), (m_windowSide gu), (m_windowArea gu), (m_windowLimit gu), (m_outside gu), (m_sun gu), (m_persons gu), (m_set gu), (m_cool gu), (m_low gu), (m_high gu)))))))) else (if what = 3 then (if what = 1 then (m_began (0, (m_rooms gu), (m_store gu), (m_mostHeating gu), (m_mostCooling gu), (m_began gu), (m_walls gu), (m_wallRoom gu), (m_wallOther gu), (m_leads gu), (m_windows gu), (m_windowRoom gu), (m_windowSide gu), (m_windowArea gu), (m_windowLimit gu), (m_outside gu), (m_sun gu), (m_persons gu), (m_set gu), (m_cool gu), (m_low gu), (m_high gu))) else (if what = 4 then (m_bySun gv) else (if what = 5 then (m_byPersons gv) else (if what = 6 then (m_out gv) else (fM_balance_33 (0, (m_rooms gu), (m_store gu), (m_mostHeating gu), (m_mostCooling gu), (m_began gu), (m_walls gu), (m_wallRoom gu), (m_wallOther gu), (m_leads gu), (m_windows gu), (m_windowRoom gu), (m_windowSide gu), (m_windowArea gu), (m_windowLimit gu), (m_outside gu), (m_sun gu), (m_persons gu), (m_set gu), (m_cool gu), (m_low gu), (m_high gu)) gv what (mnR (0, (m_rooms gu), (m_store gu), (m_mostHeating gu), (m_mostCooling gu), (m_began gu), (m_walls gu), (m_wallRoom gu), (m_wallOther gu), (m_leads gu), (m_windows gu), (m_windowRoom gu), (m_windowSide gu), (m_windowArea gu), (m_windowLimit gu), (m_outside gu), (m_sun gu), (m_persons gu), (m_set gu), (m_cool gu), (m_low gu), (m_high gu)))))))) else (if (m_rooms gu) ≤ 0 then (if what = 1 then (m_began gu) else (if what = 4 then (m_bySun gv) else (if what = 5 then (m_byPersons gv) else (if what = 6 then (m_out gv) else 0)))) else (if what = 1 then (m_began gu) else (if what = 4 then (m_bySun gv) else (if what = 5 then (m_byPersons gv) else (if what = 6 then (m_out gv) else 0))))))))
noncomputable def sguM_balance (gu : MU) (gv : MV) (what : Int32) : MU := if (rM_in what 0 6) = 0 then (1, (m_rooms gu), (m_store gu), (m_mostHeating gu), (m_mostCooling gu), (m_began gu), (m_walls gu), (m_wallRoom gu), (m_wallOther gu), (m_leads gu), (m_windows gu), (m_windowRoom gu), (m_windowSide gu), (m_windowArea gu), (m_windowLimit gu), (m_outside gu), (m_sun gu), (m_persons gu), (m_set gu), (m_cool gu), (m_low gu), (m_high gu)) else (if what = 0 then (if what = 1 then (0, (m_rooms gu), (m_store gu), (m_mostHeating gu), (m_mostCooling gu), (m_began gu), (m_walls gu), (m_wallRoom gu), (m_wallOther gu), (m_leads gu), (m_windows gu), (m_windowRoom gu), (m_windowSide gu), (m_windowArea gu), (m_windowLimit gu), (m_outside gu), (m_sun gu), (m_persons gu), (m_set gu), (m_cool gu), (m_low gu), (m_high gu)) else (if what = 4 then (0, (m_rooms gu), (m_store gu), (m_mostHeating gu), (m_mostCooling gu), (m_began gu), (m_walls gu), (m_wallRoom gu), (m_wallOther gu), (m_leads gu), (m_windows gu), (m_windowRoom gu), (m_windowSide gu), (m_windowArea gu), (m_windowLimit gu), (m_outside gu), (m_sun gu), (m_persons gu), (m_set gu), (m_cool gu), (m_low gu), (m_high gu)) else (if what = 5 then (0, (m_rooms gu), (m_store gu), (m_mostHeating gu), (m_mostCooling gu), (m_began gu), (m_walls gu), (m_wallRoom gu), (m_wallOther gu), (m_leads gu), (m_windows gu), (m_windowRoom gu), (m_windowSide gu), (m_windowArea gu), (m_windowLimit gu), (m_outside gu), (m_sun gu), (m_persons gu), (m_set gu), (m_cool gu), (m_low gu), (m_high gu)) else (if what = 6 then (0, (m_rooms gu), (m_store gu), (m_mostHeating gu), (m_mostCooling gu), (m_began gu), (m_walls gu), (m_wallRoom gu), (m_wallOther gu), (m_leads gu), (m_windows gu), (m_windowRoom gu), (m_windowSide gu), (m_windowArea gu), (m_windowLimit gu), (m_outside gu), (m_sun gu), (m_persons gu), (m_set gu), (m_cool gu), (m_low gu), (m_high gu)) else (0, (m_rooms gu), (m_store gu), (m_mostHeating gu), (m_mostCooling gu), (m_began gu), (m_walls gu), (m_wallRoom gu), (m_wallOther gu), (m_leads gu), (m_windows gu), (m_windowRoom gu), (m_windowSide gu), (m_windowArea gu), (m_windowLimit gu), (m_outside gu), (m_sun gu), (m_persons gu), (m_set gu), (m_cool gu), (m_low gu), (m_high gu)))))) else (if what = 2 then (if what = 1 then (0, (m_rooms gu), (m_store gu), (m_mostHeating gu), (m_mostCooling gu), (m_began gu), (m_walls gu), (m_wallRoom gu), (m_wallOther gu), (m_leads gu), (m_windows gu), (m_windowRoom gu), (m_windowSide gu), (m_windowArea gu), (m_windowLimit gu), (m_outside gu), (m_sun gu), (m_persons gu), (m_set gu), (m_cool gu), (m_low gu), (m_high gu)) else (if what = 4 then (0, (m_rooms gu), (m_store gu), (m_mostHeating gu), (m_mostCooling gu), (m_began gu), (m_walls gu), (m_wallRoom gu), (m_wallOther gu), (m_leads gu), (m_windows gu), (m_windowRoom gu), (m_windowSide gu), (m_windowArea gu), (m_windowLimit gu), (m_outside gu), (m_sun gu), (m_persons gu), (m_set gu), (m_cool gu), (m_low gu), (m_high gu)) else (if what = 5 then (0, (m_rooms gu), (m_store gu), (m_mostHeating gu), (m_mostCooling gu), (m_began gu), (m_walls gu), (m_wallRoom gu), (m_wallOther gu), (m_leads gu), (m_windows gu), (m_windowRoom gu), (m_windowSide gu), (m_windowArea gu), (m_windowLimit gu), (m_outside gu), (m_sun gu), (m_persons gu), (m_set gu), (m_cool gu), (m_low gu), (m_high gu)) else (if what = 6 then (0, (m_rooms gu), (m_store gu), (m_mostHeating gu), (m_mostCooling gu), (m_began gu), (m_walls gu), (m_wallRoom gu), (m_wallOther gu), (m_leads gu), (m_windows gu), (m_windowRoom gu), (m_windowSide gu), (m_windowArea gu), (m_windowLimit gu), (m_outside gu), (m_sun gu), (m_persons gu), (m_set gu), (m_cool gu), (m_low gu), (m_high gu)) else (0, (m_rooms gu), (m_store gu), (m_mostHeating gu), (m_mostCooling gu), (m_began gu), (m_walls gu), (m_wallRoom gu), (m_wallOther gu), (m_leads gu), (m_windows gu), (m_windowRoom gu), (m_windowSide gu), (m_windowArea gu), (m_windowLimit gu), (m_outside gu), (m_sun gu), (m_persons gu), (m_set gu), (m_cool gu), (m_low gu), (m_high gu)))))) else (if what = 3 then (if what = 1 then (0, (m_rooms gu), (m_store gu), (m_mostHeating gu), (m_mostCooling gu), (m_began gu), (m_walls gu), (m_wallRoom gu), (m_wallOther gu), (m_leads gu), (m_windows gu), (m_windowRoom gu), (m_windowSide gu), (m_windowArea gu), (m_windowLimit gu), (m_outside gu), (m_sun gu), (m_persons gu), (m_set gu), (m_cool gu), (m_low gu), (m_high gu)) else (if what = 4 then (0, (m_rooms gu), (m_store gu), (m_mostHeating gu), (m_mostCooling gu), (m_began gu), (m_walls gu), (m_wallRoom gu), (m_wallOther gu), (m_leads gu), (m_windows gu), (m_windowRoom gu), (m_windowSide gu), (m_windowArea gu), (m_windowLimit gu), (m_outside gu), (m_sun gu), (m_persons gu), (m_set gu), (m_cool gu), (m_low gu), (m_high gu)) else (if what = 5 then (0, (m_rooms gu), (m_store gu), (m_mostHeating gu), (m_mostCooling gu), (m_began gu), (m_walls gu), (m_wallRoom gu), (m_wallOther gu), (m_leads gu), (m_windows gu), (m_windowRoom gu), (m_windowSide gu), (m_windowArea gu), (m_windowLimit gu), (m_outside gu), (m_sun gu), (m_persons gu), (m_set gu), (m_cool gu), (m_low gu), (m_high gu)) else (if what = 6 then (0, (m_rooms gu), (m_store gu), (m_mostHeating gu), (m_mostCooling gu), (m_began gu), (m_walls gu), (m_wallRoom gu), (m_wallOther gu), (m_leads gu), (m_windows gu), (m_windowRoom gu), (m_windowSide gu), (m_windowArea gu), (m_windowLimit gu), (m_outside gu), (m_sun gu), (m_persons gu), (m_set gu), (m_cool gu), (m_low gu), (m_high gu)) else (0, (m_rooms gu), (m_store gu), (m_mostHeating gu), (m_mostCooling gu), (m_began gu), (m_walls gu), (m_wallRoom gu), (m_wallOther gu), (m_leads gu), (m_windows gu), (m_windowRoom gu), (m_windowSide gu), (m_windowArea gu), (m_windowLimit gu), (m_outside gu), (m_sun gu), (m_persons gu), (m_set gu), (m_cool gu), (m_low gu), (m_high gu)))))) else (if (m_rooms gu) ≤ 0 then (if what = 1 then (0, (m_rooms gu), (m_store gu), (m_mostHeating gu), (m_mostCooling gu), (m_began gu), (m_walls gu), (m_wallRoom gu), (m_wallOther gu), (m_leads gu), (m_windows gu), (m_windowRoom gu), (m_windowSide gu), (m_windowArea gu), (m_windowLimit gu), (m_outside gu), (m_sun gu), (m_persons gu), (m_set gu), (m_cool gu), (m_low gu), (m_high gu)) else (if what = 4 then (0, (m_rooms gu), (m_store gu), (m_mostHeating gu), (m_mostCooling gu), (m_began gu), (m_walls gu), (m_wallRoom gu), (m_wallOther gu), (m_leads gu), (m_windows gu), (m_windowRoom gu), (m_windowSide gu), (m_windowArea gu), (m_windowLimit gu), (m_outside gu), (m_sun gu), (m_persons gu), (m_set gu), (m_cool gu), (m_low gu), (m_high gu)) else (if what = 5 then (0, (m_rooms gu), (m_store gu), (m_mostHeating gu), (m_mostCooling gu), (m_began gu), (m_walls gu), (m_wallRoom gu), (m_wallOther gu), (m_leads gu), (m_windows gu), (m_windowRoom gu), (m_windowSide gu), (m_windowArea gu), (m_windowLimit gu), (m_outside gu), (m_sun gu), (m_persons gu), (m_set gu), (m_cool gu), (m_low gu), (m_high gu)) else (if what = 6 then (0, (m_rooms gu), (m_store gu), (m_mostHeating gu), (m_mostCooling gu), (m_began gu), (m_walls gu), (m_wallRoom gu), (m_wallOther gu), (m_leads gu), (m_windows gu), (m_windowRoom gu), (m_windowSide gu), (m_windowArea gu), (m_windowLimit gu), (m_outside gu), (m_sun gu), (m_persons gu), (m_set gu), (m_cool gu), (m_low gu), (m_high gu)) else (0, (m_rooms gu), (m_store gu), (m_mostHeating gu), (m_mostCooling gu), (m_began gu), (m_walls gu), (m_wallRoom gu), (m_wallOther gu), (m_leads gu), (m_windows gu), (m_windowRoom gu), (m_windowSide gu), (m_windowArea gu), (m_windowLimit gu), (m_outside gu), (m_sun gu), (m_persons gu), (m_set gu), (m_cool gu), (m_low gu), (m_high gu)))))) else (if what = 1 then (0, (m_rooms gu), (m_store gu), (m_mostHeating gu), (m_mostCooling gu), (m_began gu), (m_walls gu), (m_wallRoom gu), (m_wallOther gu), (m_leads gu), (m_windows gu), (m_windowRoom gu), (m_windowSide gu), (m_windowArea gu), (m_windowLimit gu), (m_outside gu), (m_sun gu), (m_persons gu), (m_set gu), (m_cool gu), (m_low gu), (m_high gu)) else (if what = 4 then (0, (m_rooms gu), (m_store gu), (m_mostHeating gu), (m_mostCooling gu), (m_began gu), (m_walls gu), (m_wallRoom gu), (m_wallOther gu), (m_leads gu), (m_windows gu), (m_windowRoom gu), (m_windowSide gu), (m_windowArea gu), (m_windowLimit gu), (m_outside gu), (m_sun gu), (m_persons gu), (m_set gu), (m_cool gu), (m_low gu), (m_high gu)) else (if what = 5 then (0, (m_rooms gu), (m_store gu), (m_mostHeating gu), (m_mostCooling gu), (m_began gu), (m_walls gu), (m_wallRoom gu), (m_wallOther gu), (m_leads gu), (m_windows gu), (m_windowRoom gu), (m_windowSide gu), (m_windowArea gu), (m_windowLimit gu), (m_outside gu), (m_sun gu), (m_persons gu), (m_set gu), (m_cool gu), (m_low gu), (m_high gu)) else (if what = 6 then (0, (m_rooms gu), (m_store gu), (m_mostHeating gu), (m_mostCooling gu), (m_began gu), (m_walls gu), (m_wallRoom gu), (m_wallOther gu), (m_leads gu), (m_windows gu), (m_windowRoom gu), (m_windowSide gu), (m_windowArea gu), (m_windowLimit gu), (m_outside gu), (m_sun gu), (m_persons gu), (m_set gu), (m_cool gu), (m_low gu), (m_high gu)) else (0, (m_rooms gu), (m_store gu), (m_mostHeating gu), (m_mostCooling gu), (m_began gu), (m_walls gu), (m_wallRoom gu), (m_wallOther gu), (m_leads gu), (m_windows gu), (m_windowRoom gu), (m_windowSide gu), (m_windowArea gu), (m_windowLimit gu), (m_outside gu), (m_sun gu), (m_persons gu), (m_set gu), (m_cool gu), (m_low gu), (m_high gu))))))))))
set_option maxRecDepth 100000 in
set_option maxHeartbeats 4000000 in
theorem cM_balance (l : Launch) (D : va_G) (k : Nat → ClassId) (am : Nat → Nat) (gu : MU) (gv : MV) (what : Int32) (hI : mInv gu) : kMl l yM_balance (kwm yM_balance bM_balance 5 (some .long)) ({ frames := 1, cells := 0, slots := 0, locals := 22 }) D kcl (kty k) (wM k am gu gv) (wM k am (sguM_balance gu gv what) gv) [.ref (am 0), .int what] (rM_balance gu gv what) := by
  refine k_entry_l (lv0 := [(0, .ref (am 0)), (1, .int what)]) rfl (by decide +kernel) (Nat.le_of_ble_eq_true rfl) rfl ?_
  intro p e s m args below meth c0 C hr hlocks
  have hb8 := hI.1.2
  refine kw_aload_n C 0 dM_balance_0 rfl rfl ?_
  refine kw_iload_n C 1 dM_balance_1 rfl rfl ?_
  refine kw_iconst (v := 0) C dM_balance_2 (by decide) ?_
  refine kw_bipush (v := 6) C dM_balance_3 (by decide) ?_
  refine kw_callSi (st := [.ref (am 0)]) C (cM_in l D k what 0 6) (va_cwS 3 C.1.2.2.2.2 (kgO kt_676 kt_677 kt_5 kt_678) rfl rfl rfl kdM_in ⟨Nat.le_of_ble_eq_true rfl, Nat.le_of_ble_eq_true rfl⟩) [] rfl rfl rfl rfl (Nat.le_of_ble_eq_true rfl) dM_balance_5 ⟨Nat.zero_le _, Nat.zero_le _⟩ rfl (wM k am gu gv) rfl ?_
  refine kw_if_eq (tgt := 15) C dM_balance_8 (by decide) (fun c_1 => ?_) (fun c_1 => ?_)
  · skip
    refine kw_iconst (v := 1) C dM_balance_15 (by decide) ?_
    refine kw_put C 0 rfl rfl ku_M tM_ok nM 0 (by decide) kt_556 rfl (ty := .int) (by decide +kernel) rfl rfl (Nat.le_of_ble_eq_true rfl) dM_balance_16 (wM_gu k am 1 (m_rooms gu) (m_store gu) (m_mostHeating gu) (m_mostCooling gu) (m_began gu) (m_walls gu) (m_wallRoom gu) (m_wallOther gu) (m_leads gu) (m_windows gu) (m_windowRoom gu) (m_windowSide gu) (m_windowArea gu) (m_windowLimit gu) (m_outside gu) (m_sun gu) (m_persons gu) (m_set gu) (m_cool gu) (m_low gu) (m_high gu) gv) rfl ?_
    refine kw_aload_n C 0 dM_balance_19 rfl rfl ?_
    refine kw_get (v := .int 1) C 0 rfl rfl ku_M 0 (by decide) kt_556 rfl dM_balance_20 ?_
    refine kw_if_le (tgt := 28) C dM_balance_23 (by decide) (fun c_2 => ?_) (fun c_2 => ?_)
    · skip
      exact absurd c_2 (by decide)
    · skip
      refine kw_lconst (v := 0) C dM_balance_26 (by decide) ?_
      refine kw_eq rfl rfl (mk_wM_gu.trans (congrArg (fun z90 => wM k am z90 gv) (show (1, (m_rooms gu), (m_store gu), (m_mostHeating gu), (m_mostCooling gu), (m_began gu), (m_walls gu), (m_wallRoom gu), (m_wallOther gu), (m_leads gu), (m_windows gu), (m_windowRoom gu), (m_windowSide gu), (m_windowArea gu), (m_windowLimit gu), (m_outside gu), (m_sun gu), (m_persons gu), (m_set gu), (m_cool gu), (m_low gu), (m_high gu)) = sguM_balance gu gv what from by unfold sguM_balance; rw [if_pos c_1]))) ?_
      exact kw_lret C hr hlocks (by unfold rM_balance; rw [if_pos c_1]) dM_balance_27
  · skip
    refine kw_iconst (v := 0) C dM_balance_11 (by decide) ?_
    refine kw_goto (tgt := 16) C dM_balance_12 (by decide) ?_
    refine kw_put C 0 rfl rfl ku_M tM_ok nM 0 (by decide) kt_556 rfl (ty := .int) (by decide +kernel) rfl rfl (Nat.le_of_ble_eq_true rfl) dM_balance_16 (wM_gu k am 0 (m_rooms gu) (m_store gu) (m_mostHeating gu) (m_mostCooling gu) (m_began gu) (m_walls gu) (m_wallRoom gu) (m_wallOther gu) (m_leads gu) (m_windows gu) (m_windowRoom gu) (m_windowSide gu) (m_windowArea gu) (m_windowLimit gu) (m_outside gu) (m_sun gu) (m_persons gu) (m_set gu) (m_cool gu) (m_low gu) (m_high gu) gv) rfl ?_
    refine kw_aload_n C 0 dM_balance_19 rfl rfl ?_
    refine kw_get (v := .int 0) C 0 rfl rfl ku_M 0 (by decide) kt_556 rfl dM_balance_20 ?_
    refine kw_if_le (tgt := 28) C dM_balance_23 (by decide) (fun c_3 => ?_) (fun c_3 => ?_)
    · skip
      refine kw_by (what = 0) (fun c_4 => ?_) (fun c_4 => ?_)
      · skip
        refine kw_lconst (v := 0) C dM_balance_28 (by decide) ?_
        refine kw_lstore_n (lv' := [(2, .long 0), (0, .ref (am 0)), (1, .int what)]) C dM_balance_29 rfl (by decide) rfl ?_
        refine kw_iconst (v := 0) C dM_balance_30 (by decide) ?_
        refine kw_istore (lv' := [(4, .int 0), (2, .long 0), (0, .ref (am 0)), (1, .int what)]) C dM_balance_31 (by decide) rfl ?_
        refine kw_eq rfl rfl mk_wM_gu ?_
        refine kw_sub [0, 2, 3, 1] rfl ?_
        refine lM_balance_33 k am (0, (m_rooms gu), (m_store gu), (m_mostHeating gu), (m_mostCooling gu), (m_began gu), (m_walls gu), (m_wallRoom gu), (m_wallOther gu), (m_leads gu), (m_windows gu), (m_windowRoom gu), (m_windowSide gu), (m_windowArea gu), (m_windowLimit gu), (m_outside gu), (m_sun gu), (m_persons gu), (m_set gu), (m_cool gu), (m_low gu), (m_high gu)) gv what (mInv_t hI) (Or.inl c_4) C ?_ (mnR (0, (m_rooms gu), (m_store gu), (m_mostHeating gu), (m_mostCooling gu), (m_began gu), (m_walls gu), (m_wallRoom gu), (m_wallOther gu), (m_leads gu), (m_windows gu), (m_windowRoom gu), (m_windowSide gu), (m_windowArea gu), (m_windowLimit gu), (m_outside gu), (m_sun gu), (m_persons gu), (m_set gu), (m_cool gu), (m_low gu), (m_high gu)) + 1) 0 (Nat.zero_le _) (by omega)
        refine kw_iload_n C 2 dM_balance_101 rfl rfl ?_
        refine kw_iconst (v := 1) C dM_balance_102 (by decide) ?_
        refine kw_icmp_ne (tgt := 113) C dM_balance_103 (by decide) (fun c_5 => ?_) (fun c_5 => ?_)
        · skip
          refine kw_iload_n C 2 dM_balance_113 rfl rfl ?_
          refine kw_iconst (v := 4) C dM_balance_114 (by decide) ?_
          refine kw_icmp_ne (tgt := 125) C dM_balance_115 (by decide) (fun c_6 => ?_) (fun c_6 => ?_)
          · skip
            refine kw_iload_n C 2 dM_balance_125 rfl rfl ?_
            refine kw_iconst (v := 5) C dM_balance_126 (by decide) ?_
            refine kw_icmp_ne (tgt := 137) C dM_balance_127 (by decide) (fun c_7 => ?_) (fun c_7 => ?_)
            · skip
              refine kw_iload_n C 2 dM_balance_137 rfl rfl ?_
              refine kw_bipush (v := 6) C dM_balance_138 (by decide) ?_
              refine kw_icmp_ne (tgt := 150) C dM_balance_140 (by decide) (fun c_8 => ?_) (fun c_8 => ?_)
              · skip
                refine kw_lload_n C 3 dM_balance_150 rfl rfl ?_
                refine kw_eq rfl rfl ((congrArg (fun z90 => wM k am z90 gv) (show (0, (m_rooms gu), (m_store gu), (m_mostHeating gu), (m_mostCooling gu), (m_began gu), (m_walls gu), (m_wallRoom gu), (m_wallOther gu), (m_leads gu), (m_windows gu), (m_windowRoom gu), (m_windowSide gu), (m_windowArea gu), (m_windowLimit gu), (m_outside gu), (m_sun gu), (m_persons gu), (m_set gu), (m_cool gu), (m_low gu), (m_high gu)) = sguM_balance gu gv what from by unfold sguM_balance; rw [if_neg c_1, if_pos c_4, if_neg c_5, if_neg c_6, if_neg c_7, if_neg c_8]))) ?_
                exact kw_lret C hr hlocks (by unfold rM_balance; rw [if_neg c_1, if_pos c_4, if_neg c_5, if_neg c_6, if_neg c_7, if_neg c_8]) dM_balance_151
              · skip
                refine kw_aload_n C 1 dM_balance_143 rfl rfl ?_
                refine kw_get (v := .long (m_out gv)) C 0 rfl rfl ku_M 30 (by decide) kt_586 rfl dM_balance_144 ?_
                refine kw_goto (tgt := 151) C dM_balance_147 (by decide) ?_
                refine kw_eq rfl rfl ((congrArg (fun z90 => wM k am z90 gv) (show (0, (m_rooms gu), (m_store gu), (m_mostHeating gu), (m_mostCooling gu), (m_began gu), (m_walls gu), (m_wallRoom gu), (m_wallOther gu), (m_leads gu), (m_windows gu), (m_windowRoom gu), (m_windowSide gu), (m_windowArea gu), (m_windowLimit gu), (m_outside gu), (m_sun gu), (m_persons gu), (m_set gu), (m_cool gu), (m_low gu), (m_high gu)) = sguM_balance gu gv what from by unfold sguM_balance; rw [if_neg c_1, if_pos c_4, if_neg c_5, if_neg c_6, if_neg c_7, if_pos c_8]))) ?_
                exact kw_lret C hr hlocks (by unfold rM_balance; rw [if_neg c_1, if_pos c_4, if_neg c_5, if_neg c_6, if_neg c_7, if_pos c_8]) dM_balance_151
            · skip
              refine kw_aload_n C 1 dM_balance_130 rfl rfl ?_
              refine kw_get (v := .long (m_byPersons gv)) C 0 rfl rfl ku_M 29 (by decide) kt_585 rfl dM_balance_131 ?_
              refine kw_goto (tgt := 151) C dM_balance_134 (by decide) ?_
              refine kw_eq rfl rfl ((congrArg (fun z90 => wM k am z90 gv) (show (0, (m_rooms gu), (m_store gu), (m_mostHeating gu), (m_mostCooling gu), (m_began gu), (m_walls gu), (m_wallRoom gu), (m_wallOther gu), (m_leads gu), (m_windows gu), (m_windowRoom gu), (m_windowSide gu), (m_windowArea gu), (m_windowLimit gu), (m_outside gu), (m_sun gu), (m_persons gu), (m_set gu), (m_cool gu), (m_low gu), (m_high gu)) = sguM_balance gu gv what from by unfold sguM_balance; rw [if_neg c_1, if_pos c_4, if_neg c_5, if_neg c_6, if_pos c_7]))) ?_
              exact kw_lret C hr hlocks (by unfold rM_balance; rw [if_neg c_1, if_pos c_4, if_neg c_5, if_neg c_6, if_pos c_7]) dM_balance_151
          · skip
            refine kw_aload_n C 1 dM_balance_118 rfl rfl ?_
            refine kw_get (v := .long (m_bySun gv)) C 0 rfl rfl ku_M 28 (by decide) kt_584 rfl dM_balance_119 ?_
            refine kw_goto (tgt := 151) C dM_balance_122 (by decide) ?_
            refine kw_eq rfl rfl ((congrArg (fun z90 => wM k am z90 gv) (show (0, (m_rooms gu), (m_store gu), (m_mostHeating gu), (m_mostCooling gu), (m_began gu), (m_walls gu), (m_wallRoom gu), (m_wallOther gu), (m_leads gu), (m_windows gu), (m_windowRoom gu), (m_windowSide gu), (m_windowArea gu), (m_windowLimit gu), (m_outside gu), (m_sun gu), (m_persons gu), (m_set gu), (m_cool gu), (m_low gu), (m_high gu)) = sguM_balance gu gv what from by unfold sguM_balance; rw [if_neg c_1, if_pos c_4, if_neg c_5, if_pos c_6]))) ?_
            exact kw_lret C hr hlocks (by unfold rM_balance; rw [if_neg c_1, if_pos c_4, if_neg c_5, if_pos c_6]) dM_balance_151
        · skip
          refine kw_aload_n C 1 dM_balance_106 rfl rfl ?_
          refine kw_get (v := .long (m_began (0, (m_rooms gu), (m_store gu), (m_mostHeating gu), (m_mostCooling gu), (m_began gu), (m_walls gu), (m_wallRoom gu), (m_wallOther gu), (m_leads gu), (m_windows gu), (m_windowRoom gu), (m_windowSide gu), (m_windowArea gu), (m_windowLimit gu), (m_outside gu), (m_sun gu), (m_persons gu), (m_set gu), (m_cool gu), (m_low gu), (m_high gu)))) C 0 rfl rfl ku_M 10 (by decide) kt_566 rfl dM_balance_107 ?_
          refine kw_goto (tgt := 151) C dM_balance_110 (by decide) ?_
          refine kw_eq rfl rfl ((congrArg (fun z90 => wM k am z90 gv) (show (0, (m_rooms gu), (m_store gu), (m_mostHeating gu), (m_mostCooling gu), (m_began gu), (m_walls gu), (m_wallRoom gu), (m_wallOther gu), (m_leads gu), (m_windows gu), (m_windowRoom gu), (m_windowSide gu), (m_windowArea gu), (m_windowLimit gu), (m_outside gu), (m_sun gu), (m_persons gu), (m_set gu), (m_cool gu), (m_low gu), (m_high gu)) = sguM_balance gu gv what from by unfold sguM_balance; rw [if_neg c_1, if_pos c_4, if_pos c_5]))) ?_
          exact kw_lret C hr hlocks (by unfold rM_balance; rw [if_neg c_1, if_pos c_4, if_pos c_5]) dM_balance_151
      · skip
        refine kw_lconst (v := 0) C dM_balance_28 (by decide) ?_
        refine kw_by (what = 2) (fun c_9 => ?_) (fun c_9 => ?_)
        · skip
          refine kw_lstore_n (lv' := [(2, .long 0), (0, .ref (am 0)), (1, .int what)]) C dM_balance_29 rfl (by decide) rfl ?_
          refine kw_iconst (v := 0) C dM_balance_30 (by decide) ?_
          refine kw_istore (lv' := [(4, .int 0), (2, .long 0), (0, .ref (am 0)), (1, .int what)]) C dM_balance_31 (by decide) rfl ?_
          refine kw_eq rfl rfl mk_wM_gu ?_
          refine kw_sub [0, 2, 3, 1] rfl ?_
          refine lM_balance_33 k am (0, (m_rooms gu), (m_store gu), (m_mostHeating gu), (m_mostCooling gu), (m_began gu), (m_walls gu), (m_wallRoom gu), (m_wallOther gu), (m_leads gu), (m_windows gu), (m_windowRoom gu), (m_windowSide gu), (m_windowArea gu), (m_windowLimit gu), (m_outside gu), (m_sun gu), (m_persons gu), (m_set gu), (m_cool gu), (m_low gu), (m_high gu)) gv what (mInv_t hI) (Or.inr (Or.inl c_9)) C ?_ (mnR (0, (m_rooms gu), (m_store gu), (m_mostHeating gu), (m_mostCooling gu), (m_began gu), (m_walls gu), (m_wallRoom gu), (m_wallOther gu), (m_leads gu), (m_windows gu), (m_windowRoom gu), (m_windowSide gu), (m_windowArea gu), (m_windowLimit gu), (m_outside gu), (m_sun gu), (m_persons gu), (m_set gu), (m_cool gu), (m_low gu), (m_high gu)) + 1) 0 (Nat.zero_le _) (by omega)
          refine kw_iload_n C 2 dM_balance_101 rfl rfl ?_
          refine kw_iconst (v := 1) C dM_balance_102 (by decide) ?_
          refine kw_icmp_ne (tgt := 113) C dM_balance_103 (by decide) (fun c_10 => ?_) (fun c_10 => ?_)
          · skip
            refine kw_iload_n C 2 dM_balance_113 rfl rfl ?_
            refine kw_iconst (v := 4) C dM_balance_114 (by decide) ?_
            refine kw_icmp_ne (tgt := 125) C dM_balance_115 (by decide) (fun c_11 => ?_) (fun c_11 => ?_)
            · skip
              refine kw_iload_n C 2 dM_balance_125 rfl rfl ?_
              refine kw_iconst (v := 5) C dM_balance_126 (by decide) ?_
              refine kw_icmp_ne (tgt := 137) C dM_balance_127 (by decide) (fun c_12 => ?_) (fun c_12 => ?_)
              · skip
                refine kw_iload_n C 2 dM_balance_137 rfl rfl ?_
                refine kw_bipush (v := 6) C dM_balance_138 (by decide) ?_
                refine kw_icmp_ne (tgt := 150) C dM_balance_140 (by decide) (fun c_13 => ?_) (fun c_13 => ?_)
                · skip
                  refine kw_lload_n C 3 dM_balance_150 rfl rfl ?_
                  refine kw_eq rfl rfl ((congrArg (fun z90 => wM k am z90 gv) (show (0, (m_rooms gu), (m_store gu), (m_mostHeating gu), (m_mostCooling gu), (m_began gu), (m_walls gu), (m_wallRoom gu), (m_wallOther gu), (m_leads gu), (m_windows gu), (m_windowRoom gu), (m_windowSide gu), (m_windowArea gu), (m_windowLimit gu), (m_outside gu), (m_sun gu), (m_persons gu), (m_set gu), (m_cool gu), (m_low gu), (m_high gu)) = sguM_balance gu gv what from by unfold sguM_balance; rw [if_neg c_1, if_neg c_4, if_pos c_9, if_neg c_10, if_neg c_11, if_neg c_12, if_neg c_13]))) ?_
                  exact kw_lret C hr hlocks (by unfold rM_balance; rw [if_neg c_1, if_neg c_4, if_pos c_9, if_neg c_10, if_neg c_11, if_neg c_12, if_neg c_13]) dM_balance_151
                · skip
                  refine kw_aload_n C 1 dM_balance_143 rfl rfl ?_
                  refine kw_get (v := .long (m_out gv)) C 0 rfl rfl ku_M 30 (by decide) kt_586 rfl dM_balance_144 ?_
                  refine kw_goto (tgt := 151) C dM_balance_147 (by decide) ?_
                  refine kw_eq rfl rfl ((congrArg (fun z90 => wM k am z90 gv) (show (0, (m_rooms gu), (m_store gu), (m_mostHeating gu), (m_mostCooling gu), (m_began gu), (m_walls gu), (m_wallRoom gu), (m_wallOther gu), (m_leads gu), (m_windows gu), (m_windowRoom gu), (m_windowSide gu), (m_windowArea gu), (m_windowLimit gu), (m_outside gu), (m_sun gu), (m_persons gu), (m_set gu), (m_cool gu), (m_low gu), (m_high gu)) = sguM_balance gu gv what from by unfold sguM_balance; rw [if_neg c_1, if_neg c_4, if_pos c_9, if_neg c_10, if_neg c_11, if_neg c_12, if_pos c_13]))) ?_
                  exact kw_lret C hr hlocks (by unfold rM_balance; rw [if_neg c_1, if_neg c_4, if_pos c_9, if_neg c_10, if_neg c_11, if_neg c_12, if_pos c_13]) dM_balance_151
              · skip
                refine kw_aload_n C 1 dM_balance_130 rfl rfl ?_
                refine kw_get (v := .long (m_byPersons gv)) C 0 rfl rfl ku_M 29 (by decide) kt_585 rfl dM_balance_131 ?_
                refine kw_goto (tgt := 151) C dM_balance_134 (by decide) ?_
                refine kw_eq rfl rfl ((congrArg (fun z90 => wM k am z90 gv) (show (0, (m_rooms gu), (m_store gu), (m_mostHeating gu), (m_mostCooling gu), (m_began gu), (m_walls gu), (m_wallRoom gu), (m_wallOther gu), (m_leads gu), (m_windows gu), (m_windowRoom gu), (m_windowSide gu), (m_windowArea gu), (m_windowLimit gu), (m_outside gu), (m_sun gu), (m_persons gu), (m_set gu), (m_cool gu), (m_low gu), (m_high gu)) = sguM_balance gu gv what from by unfold sguM_balance; rw [if_neg c_1, if_neg c_4, if_pos c_9, if_neg c_10, if_neg c_11, if_pos c_12]))) ?_
                exact kw_lret C hr hlocks (by unfold rM_balance; rw [if_neg c_1, if_neg c_4, if_pos c_9, if_neg c_10, if_neg c_11, if_pos c_12]) dM_balance_151
            · skip
              refine kw_aload_n C 1 dM_balance_118 rfl rfl ?_
              refine kw_get (v := .long (m_bySun gv)) C 0 rfl rfl ku_M 28 (by decide) kt_584 rfl dM_balance_119 ?_
              refine kw_goto (tgt := 151) C dM_balance_122 (by decide) ?_
              refine kw_eq rfl rfl ((congrArg (fun z90 => wM k am z90 gv) (show (0, (m_rooms gu), (m_store gu), (m_mostHeating gu), (m_mostCooling gu), (m_began gu), (m_walls gu), (m_wallRoom gu), (m_wallOther gu), (m_leads gu), (m_windows gu), (m_windowRoom gu), (m_windowSide gu), (m_windowArea gu), (m_windowLimit gu), (m_outside gu), (m_sun gu), (m_persons gu), (m_set gu), (m_cool gu), (m_low gu), (m_high gu)) = sguM_balance gu gv what from by unfold sguM_balance; rw [if_neg c_1, if_neg c_4, if_pos c_9, if_neg c_10, if_pos c_11]))) ?_
              exact kw_lret C hr hlocks (by unfold rM_balance; rw [if_neg c_1, if_neg c_4, if_pos c_9, if_neg c_10, if_pos c_11]) dM_balance_151
          · skip
            refine kw_aload_n C 1 dM_balance_106 rfl rfl ?_
            refine kw_get (v := .long (m_began (0, (m_rooms gu), (m_store gu), (m_mostHeating gu), (m_mostCooling gu), (m_began gu), (m_walls gu), (m_wallRoom gu), (m_wallOther gu), (m_leads gu), (m_windows gu), (m_windowRoom gu), (m_windowSide gu), (m_windowArea gu), (m_windowLimit gu), (m_outside gu), (m_sun gu), (m_persons gu), (m_set gu), (m_cool gu), (m_low gu), (m_high gu)))) C 0 rfl rfl ku_M 10 (by decide) kt_566 rfl dM_balance_107 ?_
            refine kw_goto (tgt := 151) C dM_balance_110 (by decide) ?_
            refine kw_eq rfl rfl ((congrArg (fun z90 => wM k am z90 gv) (show (0, (m_rooms gu), (m_store gu), (m_mostHeating gu), (m_mostCooling gu), (m_began gu), (m_walls gu), (m_wallRoom gu), (m_wallOther gu), (m_leads gu), (m_windows gu), (m_windowRoom gu), (m_windowSide gu), (m_windowArea gu), (m_windowLimit gu), (m_outside gu), (m_sun gu), (m_persons gu), (m_set gu), (m_cool gu), (m_low gu), (m_high gu)) = sguM_balance gu gv what from by unfold sguM_balance; rw [if_neg c_1, if_neg c_4, if_pos c_9, if_pos c_10]))) ?_
            exact kw_lret C hr hlocks (by unfold rM_balance; rw [if_neg c_1, if_neg c_4, if_pos c_9, if_pos c_10]) dM_balance_151
        · skip
          refine kw_lstore_n (lv' := [(2, .long 0), (0, .ref (am 0)), (1, .int what)]) C dM_balance_29 rfl (by decide) rfl ?_
          refine kw_by (what = 3) (fun c_14 => ?_) (fun c_14 => ?_)
          · skip
            refine kw_iconst (v := 0) C dM_balance_30 (by decide) ?_
            refine kw_istore (lv' := [(4, .int 0), (2, .long 0), (0, .ref (am 0)), (1, .int what)]) C dM_balance_31 (by decide) rfl ?_
            refine kw_eq rfl rfl mk_wM_gu ?_
            refine kw_sub [0, 2, 3, 1] rfl ?_
            refine lM_balance_33 k am (0, (m_rooms gu), (m_store gu), (m_mostHeating gu), (m_mostCooling gu), (m_began gu), (m_walls gu), (m_wallRoom gu), (m_wallOther gu), (m_leads gu), (m_windows gu), (m_windowRoom gu), (m_windowSide gu), (m_windowArea gu), (m_windowLimit gu), (m_outside gu), (m_sun gu), (m_persons gu), (m_set gu), (m_cool gu), (m_low gu), (m_high gu)) gv what (mInv_t hI) (Or.inr (Or.inr c_14)) C ?_ (mnR (0, (m_rooms gu), (m_store gu), (m_mostHeating gu), (m_mostCooling gu), (m_began gu), (m_walls gu), (m_wallRoom gu), (m_wallOther gu), (m_leads gu), (m_windows gu), (m_windowRoom gu), (m_windowSide gu), (m_windowArea gu), (m_windowLimit gu), (m_outside gu), (m_sun gu), (m_persons gu), (m_set gu), (m_cool gu), (m_low gu), (m_high gu)) + 1) 0 (Nat.zero_le _) (by omega)
            refine kw_iload_n C 2 dM_balance_101 rfl rfl ?_
            refine kw_iconst (v := 1) C dM_balance_102 (by decide) ?_
            refine kw_icmp_ne (tgt := 113) C dM_balance_103 (by decide) (fun c_15 => ?_) (fun c_15 => ?_)
            · skip
              refine kw_iload_n C 2 dM_balance_113 rfl rfl ?_
              refine kw_iconst (v := 4) C dM_balance_114 (by decide) ?_
              refine kw_icmp_ne (tgt := 125) C dM_balance_115 (by decide) (fun c_16 => ?_) (fun c_16 => ?_)
              · skip
                refine kw_iload_n C 2 dM_balance_125 rfl rfl ?_
                refine kw_iconst (v := 5) C dM_balance_126 (by decide) ?_
                refine kw_icmp_ne (tgt := 137) C dM_balance_127 (by decide) (fun c_17 => ?_) (fun c_17 => ?_)
                · skip
                  refine kw_iload_n C 2 dM_balance_137 rfl rfl ?_
                  refine kw_bipush (v := 6) C dM_balance_138 (by decide) ?_
                  refine kw_icmp_ne (tgt := 150) C dM_balance_140 (by decide) (fun c_18 => ?_) (fun c_18 => ?_)
                  · skip
                    refine kw_lload_n C 3 dM_balance_150 rfl rfl ?_
                    refine kw_eq rfl rfl ((congrArg (fun z90 => wM k am z90 gv) (show (0, (m_rooms gu), (m_store gu), (m_mostHeating gu), (m_mostCooling gu), (m_began gu), (m_walls gu), (m_wallRoom gu), (m_wallOther gu), (m_leads gu), (m_windows gu), (m_windowRoom gu), (m_windowSide gu), (m_windowArea gu), (m_windowLimit gu), (m_outside gu), (m_sun gu), (m_persons gu), (m_set gu), (m_cool gu), (m_low gu), (m_high gu)) = sguM_balance gu gv what from by unfold sguM_balance; rw [if_neg c_1, if_neg c_4, if_neg c_9, if_pos c_14, if_neg c_15, if_neg c_16, if_neg c_17, if_neg c_18]))) ?_
                    exact kw_lret C hr hlocks (by unfold rM_balance; rw [if_neg c_1, if_neg c_4, if_neg c_9, if_pos c_14, if_neg c_15, if_neg c_16, if_neg c_17, if_neg c_18]) dM_balance_151
                  · skip
                    refine kw_aload_n C 1 dM_balance_143 rfl rfl ?_
                    refine kw_get (v := .long (m_out gv)) C 0 rfl rfl ku_M 30 (by decide) kt_586 rfl dM_balance_144 ?_
                    refine kw_goto (tgt := 151) C dM_balance_147 (by decide) ?_
                    refine kw_eq rfl rfl ((congrArg (fun z90 => wM k am z90 gv) (show (0, (m_rooms gu), (m_store gu), (m_mostHeating gu), (m_mostCooling gu), (m_began gu), (m_walls gu), (m_wallRoom gu), (m_wallOther gu), (m_leads gu), (m_windows gu), (m_windowRoom gu), (m_windowSide gu), (m_windowArea gu), (m_windowLimit gu), (m_outside gu), (m_sun gu), (m_persons gu), (m_set gu), (m_cool gu), (m_low gu), (m_high gu)) = sguM_balance gu gv what from by unfold sguM_balance; rw [if_neg c_1, if_neg c_4, if_neg c_9, if_pos c_14, if_neg c_15, if_neg c_16, if_neg c_17, if_pos c_18]))) ?_
                    exact kw_lret C hr hlocks (by unfold rM_balance; rw [if_neg c_1, if_neg c_4, if_neg c_9, if_pos c_14, if_neg c_15, if_neg c_16, if_neg c_17, if_pos c_18]) dM_balance_151
                · skip
                  refine kw_aload_n C 1 dM_balance_130 rfl rfl ?_
                  refine kw_get (v := .long (m_byPersons gv)) C 0 rfl rfl ku_M 29 (by decide) kt_585 rfl dM_balance_131 ?_
                  refine kw_goto (tgt := 151) C dM_balance_134 (by decide) ?_
                  refine kw_eq rfl rfl ((congrArg (fun z90 => wM k am z90 gv) (show (0, (m_rooms gu), (m_store gu), (m_mostHeating gu), (m_mostCooling gu), (m_began gu), (m_walls gu), (m_wallRoom gu), (m_wallOther gu), (m_leads gu), (m_windows gu), (m_windowRoom gu), (m_windowSide gu), (m_windowArea gu), (m_windowLimit gu), (m_outside gu), (m_sun gu), (m_persons gu), (m_set gu), (m_cool gu), (m_low gu), (m_high gu)) = sguM_balance gu gv what from by unfold sguM_balance; rw [if_neg c_1, if_neg c_4, if_neg c_9, if_pos c_14, if_neg c_15, if_neg c_16, if_pos c_17]))) ?_
                  exact kw_lret C hr hlocks (by unfold rM_balance; rw [if_neg c_1, if_neg c_4, if_neg c_9, if_pos c_14, if_neg c_15, if_neg c_16, if_pos c_17]) dM_balance_151
              · skip
                refine kw_aload_n C 1 dM_balance_118 rfl rfl ?_
                refine kw_get (v := .long (m_bySun gv)) C 0 rfl rfl ku_M 28 (by decide) kt_584 rfl dM_balance_119 ?_
                refine kw_goto (tgt := 151) C dM_balance_122 (by decide) ?_
                refine kw_eq rfl rfl ((congrArg (fun z90 => wM k am z90 gv) (show (0, (m_rooms gu), (m_store gu), (m_mostHeating gu), (m_mostCooling gu), (m_began gu), (m_walls gu), (m_wallRoom gu), (m_wallOther gu), (m_leads gu), (m_windows gu), (m_windowRoom gu), (m_windowSide gu), (m_windowArea gu), (m_windowLimit gu), (m_outside gu), (m_sun gu), (m_persons gu), (m_set gu), (m_cool gu), (m_low gu), (m_high gu)) = sguM_balance gu gv what from by unfold sguM_balance; rw [if_neg c_1, if_neg c_4, if_neg c_9, if_pos c_14, if_neg c_15, if_pos c_16]))) ?_
                exact kw_lret C hr hlocks (by unfold rM_balance; rw [if_neg c_1, if_neg c_4, if_neg c_9, if_pos c_14, if_neg c_15, if_pos c_16]) dM_balance_151
            · skip
              refine kw_aload_n C 1 dM_balance_106 rfl rfl ?_
              refine kw_get (v := .long (m_began (0, (m_rooms gu), (m_store gu), (m_mostHeating gu), (m_mostCooling gu), (m_began gu), (m_walls gu), (m_wallRoom gu), (m_wallOther gu), (m_leads gu), (m_windows gu), (m_windowRoom gu), (m_windowSide gu), (m_windowArea gu), (m_windowLimit gu), (m_outside gu), (m_sun gu), (m_persons gu), (m_set gu), (m_cool gu), (m_low gu), (m_high gu)))) C 0 rfl rfl ku_M 10 (by decide) kt_566 rfl dM_balance_107 ?_
              refine kw_goto (tgt := 151) C dM_balance_110 (by decide) ?_
              refine kw_eq rfl rfl ((congrArg (fun z90 => wM k am z90 gv) (show (0, (m_rooms gu), (m_store gu), (m_mostHeating gu), (m_mostCooling gu), (m_began gu), (m_walls gu), (m_wallRoom gu), (m_wallOther gu), (m_leads gu), (m_windows gu), (m_windowRoom gu), (m_windowSide gu), (m_windowArea gu), (m_windowLimit gu), (m_outside gu), (m_sun gu), (m_persons gu), (m_set gu), (m_cool gu), (m_low gu), (m_high gu)) = sguM_balance gu gv what from by unfold sguM_balance; rw [if_neg c_1, if_neg c_4, if_neg c_9, if_pos c_14, if_pos c_15]))) ?_
              exact kw_lret C hr hlocks (by unfold rM_balance; rw [if_neg c_1, if_neg c_4, if_neg c_9, if_pos c_14, if_pos c_15]) dM_balance_151
          · skip
            refine kw_iconst (v := 0) C dM_balance_30 (by decide) ?_
            refine kw_istore (lv' := [(4, .int 0), (2, .long 0), (0, .ref (am 0)), (1, .int what)]) C dM_balance_31 (by decide) rfl ?_
            refine kw_iload C 0 dM_balance_33 rfl ?_
            refine kw_aload_n C 2 dM_balance_35 rfl rfl ?_
            refine kw_get (v := .int (m_rooms gu)) C 0 rfl rfl ku_M 1 (by decide) kt_557 rfl dM_balance_36 ?_
            refine kw_icmp_ge (tgt := 101) C dM_balance_39 (by decide) (fun c_19 => ?_) (fun c_19 => ?_)
            · skip
              refine kw_iload_n C 3 dM_balance_101 rfl rfl ?_
              refine kw_iconst (v := 1) C dM_balance_102 (by decide) ?_
              refine kw_icmp_ne (tgt := 113) C dM_balance_103 (by decide) (fun c_20 => ?_) (fun c_20 => ?_)
              · skip
                refine kw_iload_n C 3 dM_balance_113 rfl rfl ?_
                refine kw_iconst (v := 4) C dM_balance_114 (by decide) ?_
                refine kw_icmp_ne (tgt := 125) C dM_balance_115 (by decide) (fun c_21 => ?_) (fun c_21 => ?_)
                · skip
                  refine kw_iload_n C 3 dM_balance_125 rfl rfl ?_
                  refine kw_iconst (v := 5) C dM_balance_126 (by decide) ?_
                  refine kw_icmp_ne (tgt := 137) C dM_balance_127 (by decide) (fun c_22 => ?_) (fun c_22 => ?_)
                  · skip
                    refine kw_iload_n C 3 dM_balance_137 rfl rfl ?_
                    refine kw_bipush (v := 6) C dM_balance_138 (by decide) ?_
                    refine kw_icmp_ne (tgt := 150) C dM_balance_140 (by decide) (fun c_23 => ?_) (fun c_23 => ?_)
                    · skip
                      refine kw_lload_n C 1 dM_balance_150 rfl rfl ?_
                      refine kw_eq rfl rfl (mk_wM_gu.trans (congrArg (fun z90 => wM k am z90 gv) (show (0, (m_rooms gu), (m_store gu), (m_mostHeating gu), (m_mostCooling gu), (m_began gu), (m_walls gu), (m_wallRoom gu), (m_wallOther gu), (m_leads gu), (m_windows gu), (m_windowRoom gu), (m_windowSide gu), (m_windowArea gu), (m_windowLimit gu), (m_outside gu), (m_sun gu), (m_persons gu), (m_set gu), (m_cool gu), (m_low gu), (m_high gu)) = sguM_balance gu gv what from by unfold sguM_balance; rw [if_neg c_1, if_neg c_4, if_neg c_9, if_neg c_14, if_pos c_19, if_neg c_20, if_neg c_21, if_neg c_22, if_neg c_23]))) ?_
                      exact kw_lret C hr hlocks (by unfold rM_balance; rw [if_neg c_1, if_neg c_4, if_neg c_9, if_neg c_14, if_pos c_19, if_neg c_20, if_neg c_21, if_neg c_22, if_neg c_23]) dM_balance_151
                    · skip
                      refine kw_aload_n C 2 dM_balance_143 rfl rfl ?_
                      refine kw_get (v := .long (m_out gv)) C 0 rfl rfl ku_M 30 (by decide) kt_586 rfl dM_balance_144 ?_
                      refine kw_goto (tgt := 151) C dM_balance_147 (by decide) ?_
                      refine kw_eq rfl rfl (mk_wM_gu.trans (congrArg (fun z90 => wM k am z90 gv) (show (0, (m_rooms gu), (m_store gu), (m_mostHeating gu), (m_mostCooling gu), (m_began gu), (m_walls gu), (m_wallRoom gu), (m_wallOther gu), (m_leads gu), (m_windows gu), (m_windowRoom gu), (m_windowSide gu), (m_windowArea gu), (m_windowLimit gu), (m_outside gu), (m_sun gu), (m_persons gu), (m_set gu), (m_cool gu), (m_low gu), (m_high gu)) = sguM_balance gu gv what from by unfold sguM_balance; rw [if_neg c_1, if_neg c_4, if_neg c_9, if_neg c_14, if_pos c_19, if_neg c_20, if_neg c_21, if_neg c_22, if_pos c_23]))) ?_
                      exact kw_lret C hr hlocks (by unfold rM_balance; rw [if_neg c_1, if_neg c_4, if_neg c_9, if_neg c_14, if_pos c_19, if_neg c_20, if_neg c_21, if_neg c_22, if_pos c_23]) dM_balance_151
                  · skip
                    refine kw_aload_n C 2 dM_balance_130 rfl rfl ?_
                    refine kw_get (v := .long (m_byPersons gv)) C 0 rfl rfl ku_M 29 (by decide) kt_585 rfl dM_balance_131 ?_
                    refine kw_goto (tgt := 151) C dM_balance_134 (by decide) ?_
                    refine kw_eq rfl rfl (mk_wM_gu.trans (congrArg (fun z90 => wM k am z90 gv) (show (0, (m_rooms gu), (m_store gu), (m_mostHeating gu), (m_mostCooling gu), (m_began gu), (m_walls gu), (m_wallRoom gu), (m_wallOther gu), (m_leads gu), (m_windows gu), (m_windowRoom gu), (m_windowSide gu), (m_windowArea gu), (m_windowLimit gu), (m_outside gu), (m_sun gu), (m_persons gu), (m_set gu), (m_cool gu), (m_low gu), (m_high gu)) = sguM_balance gu gv what from by unfold sguM_balance; rw [if_neg c_1, if_neg c_4, if_neg c_9, if_neg c_14, if_pos c_19, if_neg c_20, if_neg c_21, if_pos c_22]))) ?_
                    exact kw_lret C hr hlocks (by unfold rM_balance; rw [if_neg c_1, if_neg c_4, if_neg c_9, if_neg c_14, if_pos c_19, if_neg c_20, if_neg c_21, if_pos c_22]) dM_balance_151
                · skip
                  refine kw_aload_n C 2 dM_balance_118 rfl rfl ?_
                  refine kw_get (v := .long (m_bySun gv)) C 0 rfl rfl ku_M 28 (by decide) kt_584 rfl dM_balance_119 ?_
                  refine kw_goto (tgt := 151) C dM_balance_122 (by decide) ?_
                  refine kw_eq rfl rfl (mk_wM_gu.trans (congrArg (fun z90 => wM k am z90 gv) (show (0, (m_rooms gu), (m_store gu), (m_mostHeating gu), (m_mostCooling gu), (m_began gu), (m_walls gu), (m_wallRoom gu), (m_wallOther gu), (m_leads gu), (m_windows gu), (m_windowRoom gu), (m_windowSide gu), (m_windowArea gu), (m_windowLimit gu), (m_outside gu), (m_sun gu), (m_persons gu), (m_set gu), (m_cool gu), (m_low gu), (m_high gu)) = sguM_balance gu gv what from by unfold sguM_balance; rw [if_neg c_1, if_neg c_4, if_neg c_9, if_neg c_14, if_pos c_19, if_neg c_20, if_pos c_21]))) ?_
                  exact kw_lret C hr hlocks (by unfold rM_balance; rw [if_neg c_1, if_neg c_4, if_neg c_9, if_neg c_14, if_pos c_19, if_neg c_20, if_pos c_21]) dM_balance_151
              · skip
                refine kw_aload_n C 2 dM_balance_106 rfl rfl ?_
                refine kw_get (v := .long (m_began gu)) C 0 rfl rfl ku_M 10 (by decide) kt_566 rfl dM_balance_107 ?_
                refine kw_goto (tgt := 151) C dM_balance_110 (by decide) ?_
                refine kw_eq rfl rfl (mk_wM_gu.trans (congrArg (fun z90 => wM k am z90 gv) (show (0, (m_rooms gu), (m_store gu), (m_mostHeating gu), (m_mostCooling gu), (m_began gu), (m_walls gu), (m_wallRoom gu), (m_wallOther gu), (m_leads gu), (m_windows gu), (m_windowRoom gu), (m_windowSide gu), (m_windowArea gu), (m_windowLimit gu), (m_outside gu), (m_sun gu), (m_persons gu), (m_set gu), (m_cool gu), (m_low gu), (m_high gu)) = sguM_balance gu gv what from by unfold sguM_balance; rw [if_neg c_1, if_neg c_4, if_neg c_9, if_neg c_14, if_pos c_19, if_pos c_20]))) ?_
                exact kw_lret C hr hlocks (by unfold rM_balance; rw [if_neg c_1, if_neg c_4, if_neg c_9, if_neg c_14, if_pos c_19, if_pos c_20]) dM_balance_151
            · skip
              refine kw_iload_n C 3 dM_balance_42 rfl rfl ?_
              refine kw_if_eq (tgt := 56) C dM_balance_43 (by decide) (fun c_24 => ?_) (fun c_24 => ?_)
              · skip
                exact absurd c_24 c_4
              · skip
                refine kw_iload_n C 3 dM_balance_46 rfl rfl ?_
                refine kw_iconst (v := 2) C dM_balance_47 (by decide) ?_
                refine kw_icmp_eq (tgt := 56) C dM_balance_48 (by decide) (fun c_25 => ?_) (fun c_25 => ?_)
                · skip
                  exact absurd c_25 c_9
                · skip
                  refine kw_iload_n C 3 dM_balance_51 rfl rfl ?_
                  refine kw_iconst (v := 3) C dM_balance_52 (by decide) ?_
                  refine kw_icmp_ne (tgt := 101) C dM_balance_53 (by decide) (fun c_26 => ?_) (fun c_26 => ?_)
                  · skip
                    refine kw_iload_n C 3 dM_balance_101 rfl rfl ?_
                    refine kw_iconst (v := 1) C dM_balance_102 (by decide) ?_
                    refine kw_icmp_ne (tgt := 113) C dM_balance_103 (by decide) (fun c_27 => ?_) (fun c_27 => ?_)
                    · skip
                      refine kw_iload_n C 3 dM_balance_113 rfl rfl ?_
                      refine kw_iconst (v := 4) C dM_balance_114 (by decide) ?_
                      refine kw_icmp_ne (tgt := 125) C dM_balance_115 (by decide) (fun c_28 => ?_) (fun c_28 => ?_)
                      · skip
                        refine kw_iload_n C 3 dM_balance_125 rfl rfl ?_
                        refine kw_iconst (v := 5) C dM_balance_126 (by decide) ?_
                        refine kw_icmp_ne (tgt := 137) C dM_balance_127 (by decide) (fun c_29 => ?_) (fun c_29 => ?_)
                        · skip
                          refine kw_iload_n C 3 dM_balance_137 rfl rfl ?_
                          refine kw_bipush (v := 6) C dM_balance_138 (by decide) ?_
                          refine kw_icmp_ne (tgt := 150) C dM_balance_140 (by decide) (fun c_30 => ?_) (fun c_30 => ?_)
                          · skip
                            refine kw_lload_n C 1 dM_balance_150 rfl rfl ?_
                            refine kw_eq rfl rfl (mk_wM_gu.trans (congrArg (fun z90 => wM k am z90 gv) (show (0, (m_rooms gu), (m_store gu), (m_mostHeating gu), (m_mostCooling gu), (m_began gu), (m_walls gu), (m_wallRoom gu), (m_wallOther gu), (m_leads gu), (m_windows gu), (m_windowRoom gu), (m_windowSide gu), (m_windowArea gu), (m_windowLimit gu), (m_outside gu), (m_sun gu), (m_persons gu), (m_set gu), (m_cool gu), (m_low gu), (m_high gu)) = sguM_balance gu gv what from by unfold sguM_balance; rw [if_neg c_1, if_neg c_4, if_neg c_9, if_neg c_14, if_neg c_19, if_neg c_27, if_neg c_28, if_neg c_29, if_neg c_30]))) ?_
                            exact kw_lret C hr hlocks (by unfold rM_balance; rw [if_neg c_1, if_neg c_4, if_neg c_9, if_neg c_14, if_neg c_19, if_neg c_27, if_neg c_28, if_neg c_29, if_neg c_30]) dM_balance_151
                          · skip
                            refine kw_aload_n C 2 dM_balance_143 rfl rfl ?_
                            refine kw_get (v := .long (m_out gv)) C 0 rfl rfl ku_M 30 (by decide) kt_586 rfl dM_balance_144 ?_
                            refine kw_goto (tgt := 151) C dM_balance_147 (by decide) ?_
                            refine kw_eq rfl rfl (mk_wM_gu.trans (congrArg (fun z90 => wM k am z90 gv) (show (0, (m_rooms gu), (m_store gu), (m_mostHeating gu), (m_mostCooling gu), (m_began gu), (m_walls gu), (m_wallRoom gu), (m_wallOther gu), (m_leads gu), (m_windows gu), (m_windowRoom gu), (m_windowSide gu), (m_windowArea gu), (m_windowLimit gu), (m_outside gu), (m_sun gu), (m_persons gu), (m_set gu), (m_cool gu), (m_low gu), (m_high gu)) = sguM_balance gu gv what from by unfold sguM_balance; rw [if_neg c_1, if_neg c_4, if_neg c_9, if_neg c_14, if_neg c_19, if_neg c_27, if_neg c_28, if_neg c_29, if_pos c_30]))) ?_
                            exact kw_lret C hr hlocks (by unfold rM_balance; rw [if_neg c_1, if_neg c_4, if_neg c_9, if_neg c_14, if_neg c_19, if_neg c_27, if_neg c_28, if_neg c_29, if_pos c_30]) dM_balance_151
                        · skip
                          refine kw_aload_n C 2 dM_balance_130 rfl rfl ?_
                          refine kw_get (v := .long (m_byPersons gv)) C 0 rfl rfl ku_M 29 (by decide) kt_585 rfl dM_balance_131 ?_
                          refine kw_goto (tgt := 151) C dM_balance_134 (by decide) ?_
                          refine kw_eq rfl rfl (mk_wM_gu.trans (congrArg (fun z90 => wM k am z90 gv) (show (0, (m_rooms gu), (m_store gu), (m_mostHeating gu), (m_mostCooling gu), (m_began gu), (m_walls gu), (m_wallRoom gu), (m_wallOther gu), (m_leads gu), (m_windows gu), (m_windowRoom gu), (m_windowSide gu), (m_windowArea gu), (m_windowLimit gu), (m_outside gu), (m_sun gu), (m_persons gu), (m_set gu), (m_cool gu), (m_low gu), (m_high gu)) = sguM_balance gu gv what from by unfold sguM_balance; rw [if_neg c_1, if_neg c_4, if_neg c_9, if_neg c_14, if_neg c_19, if_neg c_27, if_neg c_28, if_pos c_29]))) ?_
                          exact kw_lret C hr hlocks (by unfold rM_balance; rw [if_neg c_1, if_neg c_4, if_neg c_9, if_neg c_14, if_neg c_19, if_neg c_27, if_neg c_28, if_pos c_29]) dM_balance_151
                      · skip
                        refine kw_aload_n C 2 dM_balance_118 rfl rfl ?_
                        refine kw_get (v := .long (m_bySun gv)) C 0 rfl rfl ku_M 28 (by decide) kt_584 rfl dM_balance_119 ?_
                        refine kw_goto (tgt := 151) C dM_balance_122 (by decide) ?_
                        refine kw_eq rfl rfl (mk_wM_gu.trans (congrArg (fun z90 => wM k am z90 gv) (show (0, (m_rooms gu), (m_store gu), (m_mostHeating gu), (m_mostCooling gu), (m_began gu), (m_walls gu), (m_wallRoom gu), (m_wallOther gu), (m_leads gu), (m_windows gu), (m_windowRoom gu), (m_windowSide gu), (m_windowArea gu), (m_windowLimit gu), (m_outside gu), (m_sun gu), (m_persons gu), (m_set gu), (m_cool gu), (m_low gu), (m_high gu)) = sguM_balance gu gv what from by unfold sguM_balance; rw [if_neg c_1, if_neg c_4, if_neg c_9, if_neg c_14, if_neg c_19, if_neg c_27, if_pos c_28]))) ?_
                        exact kw_lret C hr hlocks (by unfold rM_balance; rw [if_neg c_1, if_neg c_4, if_neg c_9, if_neg c_14, if_neg c_19, if_neg c_27, if_pos c_28]) dM_balance_151
                    · skip
                      refine kw_aload_n C 2 dM_balance_106 rfl rfl ?_
                      refine kw_get (v := .long (m_began gu)) C 0 rfl rfl ku_M 10 (by decide) kt_566 rfl dM_balance_107 ?_
                      refine kw_goto (tgt := 151) C dM_balance_110 (by decide) ?_
                      refine kw_eq rfl rfl (mk_wM_gu.trans (congrArg (fun z90 => wM k am z90 gv) (show (0, (m_rooms gu), (m_store gu), (m_mostHeating gu), (m_mostCooling gu), (m_began gu), (m_walls gu), (m_wallRoom gu), (m_wallOther gu), (m_leads gu), (m_windows gu), (m_windowRoom gu), (m_windowSide gu), (m_windowArea gu), (m_windowLimit gu), (m_outside gu), (m_sun gu), (m_persons gu), (m_set gu), (m_cool gu), (m_low gu), (m_high gu)) = sguM_balance gu gv what from by unfold sguM_balance; rw [if_neg c_1, if_neg c_4, if_neg c_9, if_neg c_14, if_neg c_19, if_pos c_27]))) ?_
                      exact kw_lret C hr hlocks (by unfold rM_balance; rw [if_neg c_1, if_neg c_4, if_neg c_9, if_neg c_14, if_neg c_19, if_pos c_27]) dM_balance_151
                  · skip
                    exact absurd c_26 c_14
    · skip
      exact absurd (by decide) c_3
