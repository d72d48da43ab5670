noncomputable def rR_balance (c : CS) (t : CS) (h : HS) (what : Int32) : Int64 := if (rR_isWithin what 0 6) = 0 then 0 else (if what = 0 then (rC_sumOf_heat c h) else (if what = 1 then (c_begun c) else (if what = 2 then (rC_sumOf_given c h) else (if what = 3 then (rC_sumOf_taken c h) else (if what = 4 then (c_fromSun c) else (if what = 5 then (c_fromPersons c) else (c_goneOut c)))))))
set_option maxRecDepth 100000 in
set_option maxHeartbeats 4000000 in
theorem cR_balance (l : Launch) (D : va_G) (k : Nat → ClassId) (ah : Nat → Nat) (ar : Nat → Nat → Nat) (ac ax : Nat → Nat) (a : Nat) (c t : CS) (h : HS) (what : Int32) (hl9 : l.stackTraces = false) (hI : kInv h) : kNl l yR_balance (kwm yR_balance bR_balance 2 (some .long)) ({ frames := 6, cells := 1, slots := 6, locals := 82 }) D kcl (kty k) (wR k ah ar ac ax a c t h) (wR k ah ar ac ax a c t h) [.ref a, .int what] (oR_balance c t h what) (rR_balance c t h what) := by
  refine k_enX_l (lv0 := [(0, .ref a), (1, .int what)]) rfl (by decide +kernel) (Nat.le_of_ble_eq_true rfl) rfl ?_
  intro p e s m args below meth c0 C hr hlocks hEx hE hZ
  refine kw_iload_n C 1 dR_balance_0 rfl rfl ?_
  refine kw_iconst (v := 0) C dR_balance_1 (by decide) ?_
  refine kw_bipush (v := 6) C dR_balance_2 (by decide) ?_
  refine kw_callSi (st := []) C (cR_isWithin l D k what 0 6) (va_cwS 3 C.1.2.2.2.2 (kgO kt_208 kt_209 kt_1 kt_210) rfl rfl rfl kdR_isWithin ⟨Nat.le_of_ble_eq_true rfl, Nat.le_of_ble_eq_true rfl⟩) [] rfl rfl rfl rfl (Nat.le_of_ble_eq_true rfl) dR_balance_4 ⟨Nat.zero_le _, Nat.zero_le _⟩ rfl (wR k ah ar ac ax a c t h) rfl ?_
  refine kw_if_ne (tgt := 20) C dR_balance_7 (by decide) (fun c_1 => ?_) (fun c_1 => ?_)
  · skip
    refine kw_iload_n C 1 dR_balance_20 rfl rfl ?_
    refine kw_by (what = 0) (fun c_2 => ?_) (fun c_2 => ?_)
    · skip
      refine kw_tableIn (off := 39) (tgt := 60) C dR_balance_21 (by rw [c_2]; decide) (by rw [c_2]; decide) (by rw [c_2]; rfl) (by decide) ?_
      refine kw_aload_n C 0 dR_balance_60 rfl rfl ?_
      refine kw_get (v := .ref (ac 0)) C 0 rfl rfl ku_R 1 (by decide) kt_190 rfl dR_balance_61 ?_
      refine kw_aload_n C 0 dR_balance_64 rfl rfl ?_
      refine kw_get (v := .ref (ac 0)) C 0 rfl rfl ku_R 1 (by decide) kt_190 rfl dR_balance_65 ?_
      refine kw_get (v := .ref (ac 1)) C 1 rfl rfl ku_C 2 (by decide) kt_126 rfl dR_balance_68 ?_
      refine kw_callPl (ws' := (wR k ah ar ac ax a c t h)) (st := []) C (cC_sumOf_heat l D k ah ar ac c h hI) (cwV 1 C.1.2.2.2.2 (kgV kt_502 kt_503 kt_504 kt_4 kt_505) rfl rfl rfl kdC_sumOf ⟨Nat.le_of_ble_eq_true rfl, Nat.le_of_ble_eq_true rfl⟩) [1, 2, 3, 4, 5, 6, 7, 8, 9, 10, 11, 12, 13, 14, 15, 16, 17, 18, 19, 20, 21, 22, 23, 24, 25, 26, 27, 28, 29, 30] [0, 31, 32, 33, 34, 35, 36, 37] [0, 8, 9, 10, 11, 12, 13, 14, 15, 16, 17, 18, 19, 20, 21, 22, 23, 24, 25, 26, 27, 28, 29, 30, 31, 32, 33, 34, 35, 36, 37, 1, 2, 3, 4, 5, 6, 7] chR_C rhR_C ppR_C (by decide) (by decide) (by decide) (by decide) 0 0 rfl rfl rfl rfl rfl (Nat.le_of_ble_eq_true rfl) dR_balance_71 ⟨Nat.zero_le _, Nat.zero_le _⟩ ?_
      exact kx_lret C hr hlocks (by unfold oR_balance; rw [if_neg c_1, if_pos c_2]) (by unfold rR_balance; rw [if_neg c_1, if_pos c_2]) dR_balance_74
    · skip
      refine kw_by (what = 1) (fun c_3 => ?_) (fun c_3 => ?_)
      · skip
        refine kw_tableIn (off := 54) (tgt := 75) C dR_balance_21 (by rw [c_3]; decide) (by rw [c_3]; decide) (by rw [c_3]; rfl) (by decide) ?_
        refine kw_aload_n C 0 dR_balance_75 rfl rfl ?_
        refine kw_get (v := .ref (ac 0)) C 0 rfl rfl ku_R 1 (by decide) kt_190 rfl dR_balance_76 ?_
        refine kw_get (v := .long (c_begun c)) C 1 rfl rfl ku_C 8 (by decide) kt_137 rfl dR_balance_79 ?_
        exact kx_lret C hr hlocks (by unfold oR_balance; rw [if_neg c_1, if_neg c_2, if_pos c_3]) (by unfold rR_balance; rw [if_neg c_1, if_neg c_2, if_pos c_3]) dR_balance_82
      · skip
        refine kw_by (what = 2) (fun c_4 => ?_) (fun c_4 => ?_)
        · skip
          refine kw_tableIn (off := 62) (tgt := 83) C dR_balance_21 (by rw [c_4]; decide) (by rw [c_4]; decide) (by rw [c_4]; rfl) (by decide) ?_
          refine kw_aload_n C 0 dR_balance_83 rfl rfl ?_
          refine kw_get (v := .ref (ac 0)) C 0 rfl rfl ku_R 1 (by decide) kt_190 rfl dR_balance_84 ?_
          refine kw_aload_n C 0 dR_balance_87 rfl rfl ?_
          refine kw_get (v := .ref (ac 0)) C 0 rfl rfl ku_R 1 (by decide) kt_190 rfl dR_balance_88 ?_
          refine kw_get (v := .ref (ac 3)) C 1 rfl rfl ku_C 4 (by decide) kt_129 rfl dR_balance_91 ?_
          refine kw_callPl (ws' := (wR k ah ar ac ax a c t h)) (st := []) C (cC_sumOf_given l D k ah ar ac c h hI) (cwV 1 C.1.2.2.2.2 (kgV kt_502 kt_503 kt_504 kt_4 kt_505) rfl rfl rfl kdC_sumOf ⟨Nat.le_of_ble_eq_true rfl, Nat.le_of_ble_eq_true rfl⟩) [1, 2, 3, 4, 5, 6, 7, 8, 9, 10, 11, 12, 13, 14, 15, 16, 17, 18, 19, 20, 21, 22, 23, 24, 25, 26, 27, 28, 29, 30] [0, 31, 32, 33, 34, 35, 36, 37] [0, 8, 9, 10, 11, 12, 13, 14, 15, 16, 17, 18, 19, 20, 21, 22, 23, 24, 25, 26, 27, 28, 29, 30, 31, 32, 33, 34, 35, 36, 37, 1, 2, 3, 4, 5, 6, 7] chR_C rhR_C ppR_C (by decide) (by decide) (by decide) (by decide) 0 0 rfl rfl rfl rfl rfl (Nat.le_of_ble_eq_true rfl) dR_balance_94 ⟨Nat.zero_le _, Nat.zero_le _⟩ ?_
          exact kx_lret C hr hlocks (by unfold oR_balance; rw [if_neg c_1, if_neg c_2, if_neg c_3, if_pos c_4]) (by unfold rR_balance; rw [if_neg c_1, if_neg c_2, if_neg c_3, if_pos c_4]) dR_balance_97
        · skip
          refine kw_by (what = 3) (fun c_5 => ?_) (fun c_5 => ?_)
          · skip
            refine kw_tableIn (off := 77) (tgt := 98) C dR_balance_21 (by rw [c_5]; decide) (by rw [c_5]; decide) (by rw [c_5]; rfl) (by decide) ?_
            refine kw_aload_n C 0 dR_balance_98 rfl rfl ?_
            refine kw_get (v := .ref (ac 0)) C 0 rfl rfl ku_R 1 (by decide) kt_190 rfl dR_balance_99 ?_
            refine kw_aload_n C 0 dR_balance_102 rfl rfl ?_
            refine kw_get (v := .ref (ac 0)) C 0 rfl rfl ku_R 1 (by decide) kt_190 rfl dR_balance_103 ?_
            refine kw_get (v := .ref (ac 4)) C 1 rfl rfl ku_C 5 (by decide) kt_131 rfl dR_balance_106 ?_
            refine kw_callPl (ws' := (wR k ah ar ac ax a c t h)) (st := []) C (cC_sumOf_taken l D k ah ar ac c h hI) (cwV 1 C.1.2.2.2.2 (kgV kt_502 kt_503 kt_504 kt_4 kt_505) rfl rfl rfl kdC_sumOf ⟨Nat.le_of_ble_eq_true rfl, Nat.le_of_ble_eq_true rfl⟩) [1, 2, 3, 4, 5, 6, 7, 8, 9, 10, 11, 12, 13, 14, 15, 16, 17, 18, 19, 20, 21, 22, 23, 24, 25, 26, 27, 28, 29, 30] [0, 31, 32, 33, 34, 35, 36, 37] [0, 8, 9, 10, 11, 12, 13, 14, 15, 16, 17, 18, 19, 20, 21, 22, 23, 24, 25, 26, 27, 28, 29, 30, 31, 32, 33, 34, 35, 36, 37, 1, 2, 3, 4, 5, 6, 7] chR_C rhR_C ppR_C (by decide) (by decide) (by decide) (by decide) 0 0 rfl rfl rfl rfl rfl (Nat.le_of_ble_eq_true rfl) dR_balance_109 ⟨Nat.zero_le _, Nat.zero_le _⟩ ?_
            exact kx_lret C hr hlocks (by unfold oR_balance; rw [if_neg c_1, if_neg c_2, if_neg c_3, if_neg c_4, if_pos c_5]) (by unfold rR_balance; rw [if_neg c_1, if_neg c_2, if_neg c_3, if_neg c_4, if_pos c_5]) dR_balance_112
          · skip
            refine kw_by (what = 4) (fun c_6 => ?_) (fun c_6 => ?_)
            · skip
              refine kw_tableIn (off := 92) (tgt := 113) C dR_balance_21 (by rw [c_6]; decide) (by rw [c_6]; decide) (by rw [c_6]; rfl) (by decide) ?_
              refine kw_aload_n C 0 dR_balance_113 rfl rfl ?_
              refine kw_get (v := .ref (ac 0)) C 0 rfl rfl ku_R 1 (by decide) kt_190 rfl dR_balance_114 ?_
              refine kw_get (v := .long (c_fromSun c)) C 1 rfl rfl ku_C 9 (by decide) kt_138 rfl dR_balance_117 ?_
              exact kx_lret C hr hlocks (by unfold oR_balance; rw [if_neg c_1, if_neg c_2, if_neg c_3, if_neg c_4, if_neg c_5, if_pos c_6]) (by unfold rR_balance; rw [if_neg c_1, if_neg c_2, if_neg c_3, if_neg c_4, if_neg c_5, if_pos c_6]) dR_balance_120
            · skip
              refine kw_by (what = 5) (fun c_7 => ?_) (fun c_7 => ?_)
              · skip
                refine kw_tableIn (off := 100) (tgt := 121) C dR_balance_21 (by rw [c_7]; decide) (by rw [c_7]; decide) (by rw [c_7]; rfl) (by decide) ?_
                refine kw_aload_n C 0 dR_balance_121 rfl rfl ?_
                refine kw_get (v := .ref (ac 0)) C 0 rfl rfl ku_R 1 (by decide) kt_190 rfl dR_balance_122 ?_
                refine kw_get (v := .long (c_fromPersons c)) C 1 rfl rfl ku_C 10 (by decide) kt_140 rfl dR_balance_125 ?_
                exact kx_lret C hr hlocks (by unfold oR_balance; rw [if_neg c_1, if_neg c_2, if_neg c_3, if_neg c_4, if_neg c_5, if_neg c_6, if_pos c_7]) (by unfold rR_balance; rw [if_neg c_1, if_neg c_2, if_neg c_3, if_neg c_4, if_neg c_5, if_neg c_6, if_pos c_7]) dR_balance_128
              · skip
                refine kw_tableOut (tgt := 129) C dR_balance_21 (by have := kne (n := 0) c_2; have := kne (n := 1) c_3; have := kne (n := 2) c_4; have := kne (n := 3) c_5; have := kne (n := 4) c_6; have := kne (n := 5) c_7; omega) (by decide) ?_
                refine kw_aload_n C 0 dR_balance_129 rfl rfl ?_
                refine kw_get (v := .ref (ac 0)) C 0 rfl rfl ku_R 1 (by decide) kt_190 rfl dR_balance_130 ?_
                refine kw_get (v := .long (c_goneOut c)) C 1 rfl rfl ku_C 11 (by decide) kt_142 rfl dR_balance_133 ?_
                exact kx_lret C hr hlocks (by unfold oR_balance; rw [if_neg c_1, if_neg c_2, if_neg c_3, if_neg c_4, if_neg c_5, if_neg c_6, if_neg c_7]) (by unfold rR_balance; rw [if_neg c_1, if_neg c_2, if_neg c_3, if_neg c_4, if_neg c_5, if_neg c_6, if_neg c_7]) dR_balance_136
  · skip
    exact kx_throwIAE hl9 C hlocks hEx hE hZ (by unfold oR_balance; rw [if_pos c_1]) 185 "there is no such balance" (by decide +kernel) dR_balance_10 dR_balance_13 dR_balance_14 dR_balance_16 dR_balance_19 (Nat.le_of_ble_eq_true rfl) (Nat.le_of_ble_eq_true rfl) (Nat.le_of_ble_eq_true rfl) (Nat.le_of_ble_eq_true rfl)
