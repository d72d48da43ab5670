def rH_addRoom (h : HS) (store : Int32) : Int32 := (h_rooms h)
noncomputable def shH_addRoom (h : HS) (store : Int32) : HS := (((h_rooms h) + 1), (h_walls h), (h_windows h), (h_low h), (h_high h), (upd (h_stores h) ((h_rooms h).toNatClampNeg) store), (h_leadsAt h), (h_mosts h), (h_plans h), (h_wallFrom h), (h_wallTo h), (h_wallLeads h), (h_windowRoom h), (h_windowSide h), (h_windowArea h), (h_windowLimit h), (h_outsides h), (h_suns h))
set_option maxRecDepth 100000 in
set_option maxHeartbeats 4000000 in
theorem cH_addRoom (l : Launch) (D : va_G) (k : Nat → ClassId) (ah : Nat → Nat) (ar : Nat → Nat → Nat) (h : HS) (store : Int32) (h8 : vp_in (h_rooms h) 8) : kMi l yH_addRoom (kwm yH_addRoom bH_addRoom 3 (some .int)) ({ frames := 0, cells := 0, slots := 0, locals := 0 }) D kcl (kty k) (wH k ah ar h) (wH k ah ar (shH_addRoom h store)) [.ref (ah 0), .int store] (rH_addRoom h store) := by
  refine k_entry_i (lv0 := [(0, .ref (ah 0)), (1, .int store)]) rfl (by decide +kernel) (Nat.le_of_ble_eq_true rfl) rfl ?_
  intro p e s m args below meth c0 C hr hlocks
  refine kw_aload_n C 0 dH_addRoom_0 rfl rfl ?_
  refine kw_get (v := .int (h_rooms h)) C 0 rfl rfl ku_H 0 (by decide) kt_33 rfl dH_addRoom_1 ?_
  refine kw_istore_n (lv' := [(2, .int (h_rooms h)), (0, .ref (ah 0)), (1, .int store)]) C dH_addRoom_4 rfl (by decide) rfl ?_
  refine kw_aload_n C 1 dH_addRoom_5 rfl rfl ?_
  refine kw_get (v := .ref (ah 1)) C 0 rfl rfl ku_H 1 (by decide) kt_36 rfl dH_addRoom_6 ?_
  refine kw_iload_n C 0 dH_addRoom_9 rfl rfl ?_
  refine kw_iload_n C 2 dH_addRoom_10 rfl rfl ?_
  refine kw_iast C 1 0 rfl rfl (kix_of h8) dH_addRoom_11 (wH_h k ah ar (h_rooms h) (h_walls h) (h_windows h) (h_low h) (h_high h) (upd (h_stores h) ((h_rooms h).toNatClampNeg) store) (h_leadsAt h) (h_mosts h) (h_plans h) (h_wallFrom h) (h_wallTo h) (h_wallLeads h) (h_windowRoom h) (h_windowSide h) (h_windowArea h) (h_windowLimit h) (h_outsides h) (h_suns h)) rfl ?_
  refine kw_aload_n C 1 dH_addRoom_12 rfl rfl ?_
  refine kw_dup C dH_addRoom_13 rfl ?_
  refine kw_get (v := .int (h_rooms h)) C 0 rfl rfl ku_H 0 (by decide) kt_33 rfl dH_addRoom_14 ?_
  refine kw_iconst (v := 1) C dH_addRoom_17 (by decide) ?_
  refine kw_iadd C dH_addRoom_18 ?_
  refine kw_put C 0 rfl rfl ku_H tH_ok nH 0 (by decide) kt_33 rfl (ty := .int) (by decide +kernel) rfl rfl (Nat.le_of_ble_eq_true rfl) dH_addRoom_19 (wH_h k ah ar ((h_rooms h) + 1) (h_walls h) (h_windows h) (h_low h) (h_high h) (upd (h_stores h) ((h_rooms h).toNatClampNeg) store) (h_leadsAt h) (h_mosts h) (h_plans h) (h_wallFrom h) (h_wallTo h) (h_wallLeads h) (h_windowRoom h) (h_windowSide h) (h_windowArea h) (h_windowLimit h) (h_outsides h) (h_suns h)) rfl ?_
  refine kw_iload_n C 0 dH_addRoom_22 rfl rfl ?_
  refine kw_eq rfl rfl (mk_wH_h.trans (congrArg (fun z90 => wH k ah ar z90) (show (((h_rooms h) + 1), (h_walls h), (h_windows h), (h_low h), (h_high h), (upd (h_stores h) ((h_rooms h).toNatClampNeg) store), (h_leadsAt h), (h_mosts h), (h_plans h), (h_wallFrom h), (h_wallTo h), (h_wallLeads h), (h_windowRoom h), (h_windowSide h), (h_windowArea h), (h_windowLimit h), (h_outsides h), (h_suns h)) = shH_addRoom h store from rfl))) ?_
  exact kw_iret C hr hlocks rfl dH_addRoom_23
