def rH_addWindow (h : HS) (room : Int32) (side : Int32) (area : Int32) (limit : Int32) : Int32 := (h_windows h)
noncomputable def shH_addWindow (h : HS) (room : Int32) (side : Int32) (area : Int32) (limit : Int32) : HS := ((h_rooms h), (h_walls h), ((h_windows h) + 1), (h_low h), (h_high h), (h_stores h), (h_leadsAt h), (h_mosts h), (h_plans h), (h_wallFrom h), (h_wallTo h), (h_wallLeads h), (upd (h_windowRoom h) ((h_windows h).toNatClampNeg) room), (upd (h_windowSide h) ((h_windows h).toNatClampNeg) side), (upd (h_windowArea h) ((h_windows h).toNatClampNeg) area), (upd (h_windowLimit h) ((h_windows h).toNatClampNeg) limit), (h_outsides h), (h_suns h))
set_option maxRecDepth 100000 in
set_option maxHeartbeats 4000000 in
theorem cH_addWindow (l : Launch) (D : va_G) (k : Nat → ClassId) (ah : Nat → Nat) (ar : Nat → Nat → Nat) (h : HS) (room : Int32) (side : Int32) (area : Int32) (limit : Int32) (h12 : vp_in (h_windows h) 12) : kMi l yH_addWindow (kwm yH_addWindow bH_addWindow 6 (some .int)) ({ frames := 0, cells := 0, slots := 0, locals := 0 }) D kcl (kty k) (wH k ah ar h) (wH k ah ar (shH_addWindow h room side area limit)) [.ref (ah 0), .int room, .int side, .int area, .int limit] (rH_addWindow h room side area limit) := by
  refine k_entry_i (lv0 := [(0, .ref (ah 0)), (1, .int room), (2, .int side), (3, .int area), (4, .int limit)]) rfl (by decide +kernel) (Nat.le_of_ble_eq_true rfl) rfl ?_
  intro p e s m args below meth c0 C hr hlocks
  refine kw_aload_n C 0 dH_addWindow_0 rfl rfl ?_
  refine kw_get (v := .int (h_windows h)) C 0 rfl rfl ku_H 9 (by decide) kt_58 rfl dH_addWindow_1 ?_
  refine kw_istore (lv' := [(5, .int (h_windows h)), (0, .ref (ah 0)), (1, .int room), (2, .int side), (3, .int area), (4, .int limit)]) C dH_addWindow_4 (by decide) rfl ?_
  refine kw_aload_n C 1 dH_addWindow_6 rfl rfl ?_
  refine kw_get (v := .ref (ah 8)) C 0 rfl rfl ku_H 10 (by decide) kt_60 rfl dH_addWindow_7 ?_
  refine kw_iload C 0 dH_addWindow_10 rfl ?_
  refine kw_iload_n C 2 dH_addWindow_12 rfl rfl ?_
  refine kw_iast C 6 0 rfl rfl (kix_of h12) dH_addWindow_13 (wH_h k ah ar (h_rooms h) (h_walls h) (h_windows h) (h_low h) (h_high h) (h_stores h) (h_leadsAt h) (h_mosts h) (h_plans h) (h_wallFrom h) (h_wallTo h) (h_wallLeads h) (upd (h_windowRoom h) ((h_windows h).toNatClampNeg) room) (h_windowSide h) (h_windowArea h) (h_windowLimit h) (h_outsides h) (h_suns h)) rfl ?_
  refine kw_aload_n C 1 dH_addWindow_14 rfl rfl ?_
  refine kw_get (v := .ref (ah 9)) C 0 rfl rfl ku_H 11 (by decide) kt_62 rfl dH_addWindow_15 ?_
  refine kw_iload C 0 dH_addWindow_18 rfl ?_
  refine kw_iload_n C 3 dH_addWindow_20 rfl rfl ?_
  refine kw_iast C 7 0 rfl rfl (kix_of h12) dH_addWindow_21 (wH_h k ah ar (h_rooms h) (h_walls h) (h_windows h) (h_low h) (h_high h) (h_stores h) (h_leadsAt h) (h_mosts h) (h_plans h) (h_wallFrom h) (h_wallTo h) (h_wallLeads h) (upd (h_windowRoom h) ((h_windows h).toNatClampNeg) room) (upd (h_windowSide h) ((h_windows h).toNatClampNeg) side) (h_windowArea h) (h_windowLimit h) (h_outsides h) (h_suns h)) rfl ?_
  refine kw_aload_n C 1 dH_addWindow_22 rfl rfl ?_
  refine kw_get (v := .ref (ah 10)) C 0 rfl rfl ku_H 12 (by decide) kt_64 rfl dH_addWindow_23 ?_
  refine kw_iload C 0 dH_addWindow_26 rfl ?_
  refine kw_iload_n C 4 dH_addWindow_28 rfl rfl ?_
  refine kw_iast C 8 0 rfl rfl (kix_of h12) dH_addWindow_29 (wH_h k ah ar (h_rooms h) (h_walls h) (h_windows h) (h_low h) (h_high h) (h_stores h) (h_leadsAt h) (h_mosts h) (h_plans h) (h_wallFrom h) (h_wallTo h) (h_wallLeads h) (upd (h_windowRoom h) ((h_windows h).toNatClampNeg) room) (upd (h_windowSide h) ((h_windows h).toNatClampNeg) side) (upd (h_windowArea h) ((h_windows h).toNatClampNeg) area) (h_windowLimit h) (h_outsides h) (h_suns h)) rfl ?_
  refine kw_aload_n C 1 dH_addWindow_30 rfl rfl ?_
  refine kw_get (v := .ref (ah 11)) C 0 rfl rfl ku_H 13 (by decide) kt_66 rfl dH_addWindow_31 ?_
  refine kw_iload C 0 dH_addWindow_34 rfl ?_
  refine kw_iload C 5 dH_addWindow_36 rfl ?_
  refine kw_iast C 9 0 rfl rfl (kix_of h12) dH_addWindow_38 (wH_h k ah ar (h_rooms h) (h_walls h) (h_windows h) (h_low h) (h_high h) (h_stores h) (h_leadsAt h) (h_mosts h) (h_plans h) (h_wallFrom h) (h_wallTo h) (h_wallLeads h) (upd (h_windowRoom h) ((h_windows h).toNatClampNeg) room) (upd (h_windowSide h) ((h_windows h).toNatClampNeg) side) (upd (h_windowArea h) ((h_windows h).toNatClampNeg) area) (upd (h_windowLimit h) ((h_windows h).toNatClampNeg) limit) (h_outsides h) (h_suns h)) rfl ?_
  refine kw_aload_n C 1 dH_addWindow_39 rfl rfl ?_
  refine kw_dup C dH_addWindow_40 rfl ?_
  refine kw_get (v := .int (h_windows h)) C 0 rfl rfl ku_H 9 (by decide) kt_58 rfl dH_addWindow_41 ?_
  refine kw_iconst (v := 1) C dH_addWindow_44 (by decide) ?_
  refine kw_iadd C dH_addWindow_45 ?_
  refine kw_put C 0 rfl rfl ku_H tH_ok nH 9 (by decide) kt_58 rfl (ty := .int) (by decide +kernel) rfl rfl (Nat.le_of_ble_eq_true rfl) dH_addWindow_46 (wH_h k ah ar (h_rooms h) (h_walls h) ((h_windows h) + 1) (h_low h) (h_high h) (h_stores h) (h_leadsAt h) (h_mosts h) (h_plans h) (h_wallFrom h) (h_wallTo h) (h_wallLeads h) (upd (h_windowRoom h) ((h_windows h).toNatClampNeg) room) (upd (h_windowSide h) ((h_windows h).toNatClampNeg) side) (upd (h_windowArea h) ((h_windows h).toNatClampNeg) area) (upd (h_windowLimit h) ((h_windows h).toNatClampNeg) limit) (h_outsides h) (h_suns h)) rfl ?_
  refine kw_iload C 0 dH_addWindow_49 rfl ?_
  refine kw_eq rfl rfl (mk_wH_h.trans (congrArg (fun z90 => wH k ah ar z90) (show ((h_rooms h), (h_walls h), ((h_windows h) + 1), (h_low h), (h_high h), (h_stores h), (h_leadsAt h), (h_mosts h), (h_plans h), (h_wallFrom h), (h_wallTo h), (h_wallLeads h), (upd (h_windowRoom h) ((h_windows h).toNatClampNeg) room), (upd (h_windowSide h) ((h_windows h).toNatClampNeg) side), (upd (h_windowArea h) ((h_windows h).toNatClampNeg) area), (upd (h_windowLimit h) ((h_windows h).toNatClampNeg) limit), (h_outsides h), (h_suns h)) = shH_addWindow h room side area limit from rfl))) ?_
  exact kw_iret C hr hlocks rfl dH_addWindow_51
