noncomputable def shH_addLeads (h : HS) (wall : Int32) (more : Int32) : HS := if ((h_wallTo h) wall.toNatClampNeg) = (-1) then ((h_rooms h), (h_walls h), (h_windows h), (h_low h), (h_high h), (h_stores h), (upd (h_leadsAt h) (((h_wallFrom h) wall.toNatClampNeg).toNatClampNeg) (((h_leadsAt h) (((h_wallFrom h) wall.toNatClampNeg).toNatClampNeg)) + more)), (h_mosts h), (h_plans h), (h_wallFrom h), (h_wallTo h), (upd (h_wallLeads h) wall.toNatClampNeg (((h_wallLeads h) wall.toNatClampNeg) + more)), (h_windowRoom h), (h_windowSide h), (h_windowArea h), (h_windowLimit h), (h_outsides h), (h_suns h)) else ((h_rooms h), (h_walls h), (h_windows h), (h_low h), (h_high h), (h_stores h), (upd (upd (h_leadsAt h) (((h_wallFrom h) wall.toNatClampNeg).toNatClampNeg) (((h_leadsAt h) (((h_wallFrom h) wall.toNatClampNeg).toNatClampNeg)) + more)) (((h_wallTo h) wall.toNatClampNeg).toNatClampNeg) (((upd (h_leadsAt h) (((h_wallFrom h) wall.toNatClampNeg).toNatClampNeg) (((h_leadsAt h) (((h_wallFrom h) wall.toNatClampNeg).toNatClampNeg)) + more)) (((h_wallTo h) wall.toNatClampNeg).toNatClampNeg)) + more)), (h_mosts h), (h_plans h), (h_wallFrom h), (h_wallTo h), (upd (h_wallLeads h) wall.toNatClampNeg (((h_wallLeads h) wall.toNatClampNeg) + more)), (h_windowRoom h), (h_windowSide h), (h_windowArea h), (h_windowLimit h), (h_outsides h), (h_suns h))
set_option maxRecDepth 100000 in
set_option maxHeartbeats 4000000 in
theorem cH_addLeads (l : Launch) (D : va_G) (k : Nat → ClassId) (ah : Nat → Nat) (ar : Nat → Nat → Nat) (h : HS) (wall : Int32) (more : Int32) (h20 : vp_in wall 20) (hf : vp_in (h_wallFrom h wall.toNatClampNeg) 8) (ht : h_wallTo h wall.toNatClampNeg = -1 ∨ vp_in (h_wallTo h wall.toNatClampNeg) 8) : kMv l yH_addLeads (kwm yH_addLeads bH_addLeads 3 none) ({ frames := 0, cells := 0, slots := 0, locals := 0 }) D kcl (kty k) (wH k ah ar h) (wH k ah ar (shH_addLeads h wall more)) [.ref (ah 0), .int wall, .int more] := by
  refine k_entry_v (lv0 := [(0, .ref (ah 0)), (1, .int wall), (2, .int more)]) rfl (by decide +kernel) (Nat.le_of_ble_eq_true rfl) rfl ?_
  intro p e s m args below meth c0 C hr hlocks
  refine kw_aload_n C 0 dH_addLeads_0 rfl rfl ?_
  refine kw_get (v := .ref (ah 7)) C 0 rfl rfl ku_H 8 (by decide) kt_54 rfl dH_addLeads_1 ?_
  refine kw_iload_n C 1 dH_addLeads_4 rfl rfl ?_
  refine kw_dup2_11 C dH_addLeads_5 rfl rfl ?_
  refine kw_iald C 5 0 rfl rfl (kix_of h20) dH_addLeads_6 ?_
  refine kw_iload_n C 2 dH_addLeads_7 rfl rfl ?_
  refine kw_iadd C dH_addLeads_8 ?_
  refine kw_iast C 5 0 rfl rfl (kix_of h20) dH_addLeads_9 (wH_h k ah ar (h_rooms h) (h_walls h) (h_windows h) (h_low h) (h_high h) (h_stores h) (h_leadsAt h) (h_mosts h) (h_plans h) (h_wallFrom h) (h_wallTo h) (upd (h_wallLeads h) wall.toNatClampNeg (((h_wallLeads h) wall.toNatClampNeg) + more)) (h_windowRoom h) (h_windowSide h) (h_windowArea h) (h_windowLimit h) (h_outsides h) (h_suns h)) rfl ?_
  refine kw_aload_n C 0 dH_addLeads_10 rfl rfl ?_
  refine kw_get (v := .ref (ah 2)) C 0 rfl rfl ku_H 2 (by decide) kt_38 rfl dH_addLeads_11 ?_
  refine kw_aload_n C 0 dH_addLeads_14 rfl rfl ?_
  refine kw_get (v := .ref (ah 5)) C 0 rfl rfl ku_H 6 (by decide) kt_48 rfl dH_addLeads_15 ?_
  refine kw_iload_n C 1 dH_addLeads_18 rfl rfl ?_
  refine kw_iald C 3 0 rfl rfl (kix_of h20) dH_addLeads_19 ?_
  refine kw_dup2_11 C dH_addLeads_20 rfl rfl ?_
  refine kw_iald C 2 0 rfl rfl (kix_of hf) dH_addLeads_21 ?_
  refine kw_iload_n C 2 dH_addLeads_22 rfl rfl ?_
  refine kw_iadd C dH_addLeads_23 ?_
  refine kw_iast C 2 0 rfl rfl (kix_of hf) dH_addLeads_24 (wH_h k ah ar (h_rooms h) (h_walls h) (h_windows h) (h_low h) (h_high h) (h_stores h) (upd (h_leadsAt h) (((h_wallFrom h) wall.toNatClampNeg).toNatClampNeg) (((h_leadsAt h) (((h_wallFrom h) wall.toNatClampNeg).toNatClampNeg)) + more)) (h_mosts h) (h_plans h) (h_wallFrom h) (h_wallTo h) (upd (h_wallLeads h) wall.toNatClampNeg (((h_wallLeads h) wall.toNatClampNeg) + more)) (h_windowRoom h) (h_windowSide h) (h_windowArea h) (h_windowLimit h) (h_outsides h) (h_suns h)) rfl ?_
  refine kw_aload_n C 0 dH_addLeads_25 rfl rfl ?_
  refine kw_get (v := .ref (ah 6)) C 0 rfl rfl ku_H 7 (by decide) kt_51 rfl dH_addLeads_26 ?_
  refine kw_iload_n C 1 dH_addLeads_29 rfl rfl ?_
  refine kw_iald C 4 0 rfl rfl (kix_of h20) dH_addLeads_30 ?_
  refine kw_iconst (v := -1) C dH_addLeads_31 (by decide) ?_
  refine kw_icmp_eq (tgt := 50) C dH_addLeads_32 (by decide) (fun c_1 => ?_) (fun c_1 => ?_)
  · skip
    refine kw_eq rfl rfl (mk_wH_h.trans (congrArg (fun z90 => wH k ah ar z90) (show ((h_rooms h), (h_walls h), (h_windows h), (h_low h), (h_high h), (h_stores h), (upd (h_leadsAt h) (((h_wallFrom h) wall.toNatClampNeg).toNatClampNeg) (((h_leadsAt h) (((h_wallFrom h) wall.toNatClampNeg).toNatClampNeg)) + more)), (h_mosts h), (h_plans h), (h_wallFrom h), (h_wallTo h), (upd (h_wallLeads h) wall.toNatClampNeg (((h_wallLeads h) wall.toNatClampNeg) + more)), (h_windowRoom h), (h_windowSide h), (h_windowArea h), (h_windowLimit h), (h_outsides h), (h_suns h)) = shH_addLeads h wall more from by unfold shH_addLeads; rw [if_pos c_1]))) ?_
    exact kw_vret C hr hlocks dH_addLeads_50
  · skip
    refine kw_aload_n C 0 dH_addLeads_35 rfl rfl ?_
    refine kw_get (v := .ref (ah 2)) C 0 rfl rfl ku_H 2 (by decide) kt_38 rfl dH_addLeads_36 ?_
    refine kw_aload_n C 0 dH_addLeads_39 rfl rfl ?_
    refine kw_get (v := .ref (ah 6)) C 0 rfl rfl ku_H 7 (by decide) kt_51 rfl dH_addLeads_40 ?_
    refine kw_iload_n C 1 dH_addLeads_43 rfl rfl ?_
    refine kw_iald C 4 0 rfl rfl (kix_of h20) dH_addLeads_44 ?_
    refine kw_dup2_11 C dH_addLeads_45 rfl rfl ?_
    refine kw_iald C 2 0 rfl rfl (kix_of (ht.resolve_left c_1)) dH_addLeads_46 ?_
    refine kw_iload_n C 2 dH_addLeads_47 rfl rfl ?_
    refine kw_iadd C dH_addLeads_48 ?_
    refine kw_iast C 2 0 rfl rfl (kix_of (ht.resolve_left c_1)) dH_addLeads_49 (wH_h k ah ar (h_rooms h) (h_walls h) (h_windows h) (h_low h) (h_high h) (h_stores h) (upd (upd (h_leadsAt h) (((h_wallFrom h) wall.toNatClampNeg).toNatClampNeg) (((h_leadsAt h) (((h_wallFrom h) wall.toNatClampNeg).toNatClampNeg)) + more)) (((h_wallTo h) wall.toNatClampNeg).toNatClampNeg) (((upd (h_leadsAt h) (((h_wallFrom h) wall.toNatClampNeg).toNatClampNeg) (((h_leadsAt h) (((h_wallFrom h) wall.toNatClampNeg).toNatClampNeg)) + more)) (((h_wallTo h) wall.toNatClampNeg).toNatClampNeg)) + more)) (h_mosts h) (h_plans h) (h_wallFrom h) (h_wallTo h) (upd (h_wallLeads h) wall.toNatClampNeg (((h_wallLeads h) wall.toNatClampNeg) + more)) (h_windowRoom h) (h_windowSide h) (h_windowArea h) (h_windowLimit h) (h_outsides h) (h_suns h)) rfl ?_
    refine kw_eq rfl rfl (mk_wH_h.trans (congrArg (fun z90 => wH k ah ar z90) (show ((h_rooms h), (h_walls h), (h_windows h), (h_low h), (h_high h), (h_stores h), (upd (upd (h_leadsAt h) (((h_wallFrom h) wall.toNatClampNeg).toNatClampNeg) (((h_leadsAt h) (((h_wallFrom h) wall.toNatClampNeg).toNatClampNeg)) + more)) (((h_wallTo h) wall.toNatClampNeg).toNatClampNeg) (((upd (h_leadsAt h) (((h_wallFrom h) wall.toNatClampNeg).toNatClampNeg) (((h_leadsAt h) (((h_wallFrom h) wall.toNatClampNeg).toNatClampNeg)) + more)) (((h_wallTo h) wall.toNatClampNeg).toNatClampNeg)) + more)), (h_mosts h), (h_plans h), (h_wallFrom h), (h_wallTo h), (upd (h_wallLeads h) wall.toNatClampNeg (((h_wallLeads h) wall.toNatClampNeg) + more)), (h_windowRoom h), (h_windowSide h), (h_windowArea h), (h_windowLimit h), (h_outsides h), (h_suns h)) = shH_addLeads h wall more from by unfold shH_addLeads; rw [if_neg c_1]))) ?_
    exact kw_vret C hr hlocks dH_addLeads_50
