def rH_addWall (h : HS) (room : Int32) (other : Int32) (leads : Int32) : Int32 := (h_walls h)
noncomputable def shH_addWall (h : HS) (room : Int32) (other : Int32) (leads : Int32) : HS := (shH_addLeads ((h_rooms h), ((h_walls h) + 1), (h_windows h), (h_low h), (h_high h), (h_stores h), (h_leadsAt h), (h_mosts h), (h_plans h), (upd (h_wallFrom h) ((h_walls h).toNatClampNeg) room), (upd (h_wallTo h) ((h_walls h).toNatClampNeg) other), (h_wallLeads h), (h_windowRoom h), (h_windowSide h), (h_windowArea h), (h_windowLimit h), (h_outsides h), (h_suns h)) (h_walls h) leads)
set_option maxRecDepth 100000 in
set_option maxHeartbeats 4000000 in
theorem cH_addWall (l : Launch) (D : va_G) (k : Nat → ClassId) (ah : Nat → Nat) (ar : Nat → Nat → Nat) (h : HS) (room : Int32) (other : Int32) (leads : Int32) (h20 : vp_in (h_walls h) 20) (hf : vp_in room 8) (ht : other = -1 ∨ vp_in other 8) : kMi l yH_addWall (kwm yH_addWall bH_addWall 5 (some .int)) ({ frames := 1, cells := 0, slots := 0, locals := 22 }) D kcl (kty k) (wH k ah ar h) (wH k ah ar (shH_addWall h room other leads)) [.ref (ah 0), .int room, .int other, .int leads] (rH_addWall h room other leads) := by
  refine k_entry_i (lv0 := [(0, .ref (ah 0)), (1, .int room), (2, .int other), (3, .int leads)]) rfl (by decide +kernel) (Nat.le_of_ble_eq_true rfl) rfl ?_
  intro p e s m args below meth c0 C hr hlocks
  refine kw_aload_n C 0 dH_addWall_0 rfl rfl ?_
  refine kw_get (v := .int (h_walls h)) C 0 rfl rfl ku_H 5 (by decide) kt_46 rfl dH_addWall_1 ?_
  refine kw_istore (lv' := [(4, .int (h_walls h)), (0, .ref (ah 0)), (1, .int room), (2, .int other), (3, .int leads)]) C dH_addWall_4 (by decide) rfl ?_
  refine kw_aload_n C 1 dH_addWall_6 rfl rfl ?_
  refine kw_get (v := .ref (ah 5)) C 0 rfl rfl ku_H 6 (by decide) kt_48 rfl dH_addWall_7 ?_
  refine kw_iload C 0 dH_addWall_10 rfl ?_
  refine kw_iload_n C 2 dH_addWall_12 rfl rfl ?_
  refine kw_iast C 3 0 rfl rfl (kix_of h20) dH_addWall_13 (wH_h k ah ar (h_rooms h) (h_walls h) (h_windows h) (h_low h) (h_high h) (h_stores h) (h_leadsAt h) (h_mosts h) (h_plans h) (upd (h_wallFrom h) ((h_walls h).toNatClampNeg) room) (h_wallTo h) (h_wallLeads h) (h_windowRoom h) (h_windowSide h) (h_windowArea h) (h_windowLimit h) (h_outsides h) (h_suns h)) rfl ?_
  refine kw_aload_n C 1 dH_addWall_14 rfl rfl ?_
  refine kw_get (v := .ref (ah 6)) C 0 rfl rfl ku_H 7 (by decide) kt_51 rfl dH_addWall_15 ?_
  refine kw_iload C 0 dH_addWall_18 rfl ?_
  refine kw_iload_n C 3 dH_addWall_20 rfl rfl ?_
  refine kw_iast C 4 0 rfl rfl (kix_of h20) dH_addWall_21 (wH_h k ah ar (h_rooms h) (h_walls h) (h_windows h) (h_low h) (h_high h) (h_stores h) (h_leadsAt h) (h_mosts h) (h_plans h) (upd (h_wallFrom h) ((h_walls h).toNatClampNeg) room) (upd (h_wallTo h) ((h_walls h).toNatClampNeg) other) (h_wallLeads h) (h_windowRoom h) (h_windowSide h) (h_windowArea h) (h_windowLimit h) (h_outsides h) (h_suns h)) rfl ?_
  refine kw_aload_n C 1 dH_addWall_22 rfl rfl ?_
  refine kw_dup C dH_addWall_23 rfl ?_
  refine kw_get (v := .int (h_walls h)) C 0 rfl rfl ku_H 5 (by decide) kt_46 rfl dH_addWall_24 ?_
  refine kw_iconst (v := 1) C dH_addWall_27 (by decide) ?_
  refine kw_iadd C dH_addWall_28 ?_
  refine kw_put C 0 rfl rfl ku_H tH_ok nH 5 (by decide) kt_46 rfl (ty := .int) (by decide +kernel) rfl rfl (Nat.le_of_ble_eq_true rfl) dH_addWall_29 (wH_h k ah ar (h_rooms h) ((h_walls h) + 1) (h_windows h) (h_low h) (h_high h) (h_stores h) (h_leadsAt h) (h_mosts h) (h_plans h) (upd (h_wallFrom h) ((h_walls h).toNatClampNeg) room) (upd (h_wallTo h) ((h_walls h).toNatClampNeg) other) (h_wallLeads h) (h_windowRoom h) (h_windowSide h) (h_windowArea h) (h_windowLimit h) (h_outsides h) (h_suns h)) rfl ?_
  refine kw_aload_n C 1 dH_addWall_32 rfl rfl ?_
  refine kw_iload C 0 dH_addWall_33 rfl ?_
  refine kw_iload_n C 4 dH_addWall_35 rfl rfl ?_
  refine kw_callAv (w1 := (wH k ah ar (shH_addLeads ((h_rooms h), ((h_walls h) + 1), (h_windows h), (h_low h), (h_high h), (h_stores h), (h_leadsAt h), (h_mosts h), (h_plans h), (upd (h_wallFrom h) ((h_walls h).toNatClampNeg) room), (upd (h_wallTo h) ((h_walls h).toNatClampNeg) other), (h_wallLeads h), (h_windowRoom h), (h_windowSide h), (h_windowArea h), (h_windowLimit h), (h_outsides h), (h_suns h)) (h_walls h) leads))) (st := []) C (cH_addLeads l D k ah ar ((h_rooms h), ((h_walls h) + 1), (h_windows h), (h_low h), (h_high h), (h_stores h), (h_leadsAt h), (h_mosts h), (h_plans h), (upd (h_wallFrom h) ((h_walls h).toNatClampNeg) room), (upd (h_wallTo h) ((h_walls h).toNatClampNeg) other), (h_wallLeads h), (h_windowRoom h), (h_windowSide h), (h_windowArea h), (h_windowLimit h), (h_outsides h), (h_suns h)) (h_walls h) leads h20 (by show vp_in (upd _ _ _ _) 8; rw [pk_us]; exact hf) (by show upd _ _ _ _ = -1 ∨ vp_in (upd _ _ _ _) 8; rw [pk_us]; exact ht)) (cwV 2 C.1.2.2.2.2 (kgV kt_328 kt_329 kt_330 kt_2 kt_331) rfl rfl rfl kdH_addLeads ⟨Nat.le_of_ble_eq_true rfl, Nat.le_of_ble_eq_true rfl⟩) 0 1 rfl rfl rfl rfl rfl (Nat.le_of_ble_eq_true rfl) dH_addWall_36 ⟨Nat.zero_le _, Nat.zero_le _⟩ (ad_wH.trans ad_wH_h.symm) ?_
  refine kw_iload C 0 dH_addWall_39 rfl ?_
  refine kw_eq rfl rfl ((congrArg (fun z90 => wH k ah ar z90) (show (shH_addLeads ((h_rooms h), ((h_walls h) + 1), (h_windows h), (h_low h), (h_high h), (h_stores h), (h_leadsAt h), (h_mosts h), (h_plans h), (upd (h_wallFrom h) ((h_walls h).toNatClampNeg) room), (upd (h_wallTo h) ((h_walls h).toNatClampNeg) other), (h_wallLeads h), (h_windowRoom h), (h_windowSide h), (h_windowArea h), (h_windowLimit h), (h_outsides h), (h_suns h)) (h_walls h) leads) = shH_addWall h room other leads from rfl))) ?_
  exact kw_iret C hr hlocks rfl dH_addWall_41
