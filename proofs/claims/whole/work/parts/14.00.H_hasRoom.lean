def rH_hasRoom (h : HS) (room : Int32) : Int32 := if room < 0 then 0 else (if (h_rooms h) ≤ room then 0 else 1)
set_option maxRecDepth 100000 in
set_option maxHeartbeats 4000000 in
theorem cH_hasRoom (l : Launch) (D : va_G) (k : Nat → ClassId) (ah : Nat → Nat) (ar : Nat → Nat → Nat) (h : HS) (room : Int32) : kMi l yH_hasRoom (kwm yH_hasRoom bH_hasRoom 2 (some .boolean)) ({ frames := 0, cells := 0, slots := 0, locals := 0 }) D kcl (kty k) (wH k ah ar h) (wH k ah ar h) [.ref (ah 0), .int room] (rH_hasRoom h room) := by
  refine k_entry_i (lv0 := [(0, .ref (ah 0)), (1, .int room)]) rfl (by decide +kernel) (Nat.le_of_ble_eq_true rfl) rfl ?_
  intro p e s m args below meth c0 C hr hlocks
  refine kw_iload_n C 1 dH_hasRoom_0 rfl rfl ?_
  refine kw_if_lt (tgt := 16) C dH_hasRoom_1 (by decide) (fun c_1 => ?_) (fun c_1 => ?_)
  · skip
    refine kw_iconst (v := 0) C dH_hasRoom_16 (by decide) ?_
    exact kw_zret C hr hlocks (by unfold rH_hasRoom; rw [if_pos c_1]) rfl dH_hasRoom_17
  · skip
    refine kw_iload_n C 1 dH_hasRoom_4 rfl rfl ?_
    refine kw_aload_n C 0 dH_hasRoom_5 rfl rfl ?_
    refine kw_get (v := .int (h_rooms h)) C 0 rfl rfl ku_H 0 (by decide) kt_33 rfl dH_hasRoom_6 ?_
    refine kw_icmp_ge (tgt := 16) C dH_hasRoom_9 (by decide) (fun c_2 => ?_) (fun c_2 => ?_)
    · skip
      refine kw_iconst (v := 0) C dH_hasRoom_16 (by decide) ?_
      exact kw_zret C hr hlocks (by unfold rH_hasRoom; rw [if_neg c_1, if_pos c_2]) rfl dH_hasRoom_17
    · skip
      refine kw_iconst (v := 1) C dH_hasRoom_12 (by decide) ?_
      refine kw_goto (tgt := 17) C dH_hasRoom_13 (by decide) ?_
      exact kw_zret C hr hlocks (by unfold rH_hasRoom; rw [if_neg c_1, if_neg c_2]) rfl dH_hasRoom_17
theorem kzb_H_hasRoom {h : HS} {room : Int32} : narrow .boolean (.int (rH_hasRoom h room)) = .int (rH_hasRoom h room) := by
  unfold rH_hasRoom
  (repeat' split) <;> first | rfl | apply kzb_R_isWithin | apply kzb_R_isWarmth | apply kzb_R_isHour | apply kzb_R_isSide | apply kzb_R_isPlan | apply kzb_C_hourEnds | apply kzb_C_hasPersons
theorem khas {h : HS} {room : Int32} (hI : kInv h) (hc : ¬ rH_hasRoom h room = 0) : vp_in room (hnR h) := by
  unfold rH_hasRoom at hc
  split at hc
  · exact absurd rfl hc
  · rename_i h1
    split at hc
    · exact absurd rfl hc
    · rename_i h2
      obtain ⟨j, hj, e⟩ := nI_of h1
      rw [e, hI.1.1, nI_leI (by have := hI.1.2; omega) hj] at h2
      rw [e]
      exact vp_in_nI (by omega) (by have := hI.1.2; omega)
theorem kin_le {x : Int32} {a b : Nat} (h : vp_in x a) (hab : a ≤ b) : vp_in x b := fun q => h (q.imp id (fun q => Nat.le_trans hab q))
