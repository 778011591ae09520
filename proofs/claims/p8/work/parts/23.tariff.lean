set_option maxRecDepth 100000 in
set_option maxHeartbeats 4000000 in
theorem kv_T_depthUnder {l : Launch} (hl : l.stackTraces = false) : wq_Vld l kz_cl ky_T_depthUnder kw_T ({ frames := 0, cells := 0, slots := 0, locals := 0 }) wq_G0 ks_T_depthUnder 0 0 := by
  refine wq_method (cc := kc_T_depthUnder) (maxL := 2) (ret := (some .int)) (by decide) kw_499 (fun _ _ => rfl) wq_sp_sz ?_
  intro p e s m args below meth c cs D ad as w rt xt hF hnt hsp
  obtain ⟨h0, hr, hts, hown, hlk, hnm, hml, hK, hZ, hN, hA⟩ := hF
  have hown : s.vm.findClass "BorderDesk$Tariff" = some m.cls := hown
  obtain ⟨A, hAe⟩ : ∃ A, A = wq_A ad w s.heap.size := ⟨_, rfl⟩
  rw [← hAe] at hZ hA ⊢
  have hb_17 : wq_Snd p l e ({ frames := 0, cells := 0, slots := 0, locals := 0 } : Room) s m args below meth c 2 cs D kz_cl A (wq_G0 ad w) (wq_Q cs D kz_cl A (wq_G0 ad w) rt xt below s 0 0) 17 (kt_T_depthUnder_17 rt xt) := by
    exact wq_ireturn_ok h0 hr hlk kd_T_depthUnder_17
  have hb_9 : wq_Snd p l e ({ frames := 0, cells := 0, slots := 0, locals := 0 } : Room) s m args below meth c 2 cs D kz_cl A (wq_G0 ad w) (wq_Q cs D kz_cl A (wq_G0 ad w) rt xt below s 0 0) 9 (kt_T_depthUnder_9 rt xt) := by
    refine wq_aload_n_ok h0 kd_T_depthUnder_9 rfl ?_
    refine wq_get_ok (wq_getOK h0 hts ki_T hown hK (ci := 1) rfl 2 (Nat.le_of_ble_eq_true rfl) kw_41 rfl) kd_T_depthUnder_10 ?_
    refine wq_iload_n_ok h0 kd_T_depthUnder_13 rfl ?_
    refine wq_iald_ok h0 hK kd_T_depthUnder_14 ?_
    refine wq_iconst_ok h0 kd_T_depthUnder_15 (by decide +kernel) ?_
    refine wq_iadd_ok h0 kd_T_depthUnder_16 ?_
    exact hb_17
  have hb_0 : wq_Snd p l e ({ frames := 0, cells := 0, slots := 0, locals := 0 } : Room) s m args below meth c 2 cs D kz_cl A (wq_G0 ad w) (wq_Q cs D kz_cl A (wq_G0 ad w) rt xt below s 0 0) 0 (kt_T_depthUnder_0 rt xt) := by
    refine wq_iload_n_ok h0 kd_T_depthUnder_0 rfl ?_
    refine wq_iconst_ok h0 kd_T_depthUnder_1 (by decide +kernel) ?_
    refine wq_icmp_ne_ok (tgt := 9) h0 kd_T_depthUnder_2 (by decide) ?_ ?_
    · exact hb_9
    refine wq_iconst_ok h0 kd_T_depthUnder_5 (by decide +kernel) ?_
    refine wq_goto_ok (tgt := 17) h0 kd_T_depthUnder_6 (by decide) ?_
    exact hb_17
  exact hb_0 _ _ _ _ _ (wq_sp_t hsp)
set_option maxRecDepth 100000 in
set_option maxHeartbeats 4000000 in
theorem kv_T_addHeading {l : Launch} (hl : l.stackTraces = false) : wq_Vld l kz_cl ky_T_addHeading kw_T ({ frames := 1, cells := 0, slots := 0, locals := 21 }) wq_G0 ks_T_addHeading 0 0 := by
  refine wq_method (cc := kc_T_addHeading) (maxL := 3) (ret := (some .int)) (by decide) kw_503 (fun _ _ => rfl) wq_sp_sz ?_
  intro p e s m args below meth c cs D ad as w rt xt hF hnt hsp
  obtain ⟨h0, hr, hts, hown, hlk, hnm, hml, hK, hZ, hN, hA⟩ := hF
  have hown : s.vm.findClass "BorderDesk$Tariff" = some m.cls := hown
  obtain ⟨A, hAe⟩ : ∃ A, A = wq_A ad w s.heap.size := ⟨_, rfl⟩
  rw [← hAe] at hZ hA ⊢
  have hb_0 : wq_Snd p l e ({ frames := 1, cells := 0, slots := 0, locals := 21 } : Room) s m args below meth c 3 cs D kz_cl A (wq_G0 ad w) (wq_Q cs D kz_cl A (wq_G0 ad w) rt xt below s 0 0) 0 (kt_T_addHeading_0 rt xt) := by
    refine wq_aload_n_ok h0 kd_T_addHeading_0 rfl ?_
    refine wq_get_ok (wq_getOK h0 hts ki_T hown hK (ci := 1) rfl 0 (Nat.le_of_ble_eq_true rfl) kw_38 rfl) kd_T_addHeading_1 ?_
    refine wq_istore_n_ok h0 kd_T_addHeading_4 rfl (Nat.le_of_ble_eq_true rfl) ?_
    refine wq_aload_n_ok h0 kd_T_addHeading_5 rfl ?_
    refine wq_get_ok (wq_getOK h0 hts ki_T hown hK (ci := 1) rfl 1 (Nat.le_of_ble_eq_true rfl) kw_39 rfl) kd_T_addHeading_6 ?_
    refine wq_iload_n_ok h0 kd_T_addHeading_9 rfl ?_
    refine wq_iload_n_ok h0 kd_T_addHeading_10 rfl ?_
    refine wq_iast_ok h0 hK kd_T_addHeading_11 ?_
    refine wq_aload_n_ok h0 kd_T_addHeading_12 rfl ?_
    refine wq_get_ok (wq_getOK h0 hts ki_T hown hK (ci := 1) rfl 2 (Nat.le_of_ble_eq_true rfl) kw_41 rfl) kd_T_addHeading_13 ?_
    refine wq_iload_n_ok h0 kd_T_addHeading_16 rfl ?_
    refine wq_aload_n_ok h0 kd_T_addHeading_17 rfl ?_
    refine wq_iload_n_ok h0 kd_T_addHeading_18 rfl ?_
    refine wq_call_ok hA (wq_runV (ci := 1) ⟨h0.1, h0.2, hml, hown, hts⟩ (kv_T_depthUnder hl) ⟨(wq_cB hts kw_G kw_499 kw_2 kw_504 ⟨by decide +kernel, by decide +kernel, by decide +kernel⟩ rfl rfl ⟨Nat.le_of_ble_eq_true rfl, Nat.le_of_ble_eq_true rfl⟩), hts _ kw_497, hts _ kw_498⟩ rfl rfl hK hZ hN hA kd_T_addHeading_19) (wq_xout_ok hnt hlk) ?_
    refine wq_iast_ok h0 hK kd_T_addHeading_22 ?_
    refine wq_aload_n_ok h0 kd_T_addHeading_23 rfl ?_
    refine wq_get_ok (wq_getOK h0 hts ki_T hown hK (ci := 1) rfl 3 (Nat.le_of_ble_eq_true rfl) kw_42 rfl) kd_T_addHeading_24 ?_
    refine wq_iload_n_ok h0 kd_T_addHeading_27 rfl ?_
    refine wq_iconst_ok h0 kd_T_addHeading_28 (by decide +kernel) ?_
    refine wq_iast_ok h0 hK kd_T_addHeading_29 ?_
    refine wq_aload_n_ok h0 kd_T_addHeading_30 rfl ?_
    refine wq_dup_ok h0 kd_T_addHeading_31 ?_
    refine wq_get_ok (wq_getOK h0 hts ki_T hown hK (ci := 1) rfl 0 (Nat.le_of_ble_eq_true rfl) kw_38 rfl) kd_T_addHeading_32 ?_
    refine wq_iconst_ok h0 kd_T_addHeading_35 (by decide +kernel) ?_
    refine wq_iadd_ok h0 kd_T_addHeading_36 ?_
    refine wq_put_ok (wq_putOK h0 hts ki_T ka_T kb_T kn_T hown hK (ci := 1) rfl 0 (Nat.le_of_ble_eq_true rfl) kw_38 rfl (Or.inl rfl) wq_okI) kd_T_addHeading_37 ?_
    refine wq_iload_n_ok h0 kd_T_addHeading_40 rfl ?_
    exact wq_ireturn_ok h0 hr hlk kd_T_addHeading_41
  exact hb_0 _ _ _ _ _ (wq_sp_t hsp)
set_option maxRecDepth 100000 in
set_option maxHeartbeats 4000000 in
theorem kv_T_addNote {l : Launch} (hl : l.stackTraces = false) : wq_Vld l kz_cl ky_T_addNote kw_T ({ frames := 0, cells := 0, slots := 0, locals := 0 }) wq_G0 ks_T_addNote 0 0 := by
  refine wq_method (cc := kc_T_addNote) (maxL := 6) (ret := (some .int)) (by decide) kw_521 (fun _ _ => rfl) wq_sp_sz ?_
  intro p e s m args below meth c cs D ad as w rt xt hF hnt hsp
  obtain ⟨h0, hr, hts, hown, hlk, hnm, hml, hK, hZ, hN, hA⟩ := hF
  have hown : s.vm.findClass "BorderDesk$Tariff" = some m.cls := hown
  obtain ⟨A, hAe⟩ : ∃ A, A = wq_A ad w s.heap.size := ⟨_, rfl⟩
  rw [← hAe] at hZ hA ⊢
  have hb_0 : wq_Snd p l e ({ frames := 0, cells := 0, slots := 0, locals := 0 } : Room) s m args below meth c 6 cs D kz_cl A (wq_G0 ad w) (wq_Q cs D kz_cl A (wq_G0 ad w) rt xt below s 0 0) 0 (kt_T_addNote_0 rt xt) := by
    refine wq_aload_n_ok h0 kd_T_addNote_0 rfl ?_
    refine wq_get_ok (wq_getOK h0 hts ki_T hown hK (ci := 1) rfl 5 (Nat.le_of_ble_eq_true rfl) kw_49 rfl) kd_T_addNote_1 ?_
    refine wq_istore_ok h0 kd_T_addNote_4 (Nat.le_of_ble_eq_true rfl) ?_
    refine wq_aload_n_ok h0 kd_T_addNote_6 rfl ?_
    refine wq_get_ok (wq_getOK h0 hts ki_T hown hK (ci := 1) rfl 6 (Nat.le_of_ble_eq_true rfl) kw_50 rfl) kd_T_addNote_7 ?_
    refine wq_iload_ok h0 kd_T_addNote_10 ?_
    refine wq_iload_n_ok h0 kd_T_addNote_12 rfl ?_
    refine wq_iast_ok h0 hK kd_T_addNote_13 ?_
    refine wq_aload_n_ok h0 kd_T_addNote_14 rfl ?_
    refine wq_get_ok (wq_getOK h0 hts ki_T hown hK (ci := 1) rfl 7 (Nat.le_of_ble_eq_true rfl) kw_51 rfl) kd_T_addNote_15 ?_
    refine wq_iload_ok h0 kd_T_addNote_18 ?_
    refine wq_iload_n_ok h0 kd_T_addNote_20 rfl ?_
    refine wq_iast_ok h0 hK kd_T_addNote_21 ?_
    refine wq_aload_n_ok h0 kd_T_addNote_22 rfl ?_
    refine wq_get_ok (wq_getOK h0 hts ki_T hown hK (ci := 1) rfl 8 (Nat.le_of_ble_eq_true rfl) kw_52 rfl) kd_T_addNote_23 ?_
    refine wq_iload_ok h0 kd_T_addNote_26 ?_
    refine wq_iload_n_ok h0 kd_T_addNote_28 rfl ?_
    refine wq_iast_ok h0 hK kd_T_addNote_29 ?_
    refine wq_aload_n_ok h0 kd_T_addNote_30 rfl ?_
    refine wq_get_ok (wq_getOK h0 hts ki_T hown hK (ci := 1) rfl 9 (Nat.le_of_ble_eq_true rfl) kw_53 rfl) kd_T_addNote_31 ?_
    refine wq_iload_ok h0 kd_T_addNote_34 ?_
    refine wq_iload_ok h0 kd_T_addNote_36 ?_
    refine wq_iast_ok h0 hK kd_T_addNote_38 ?_
    refine wq_aload_n_ok h0 kd_T_addNote_39 rfl ?_
    refine wq_dup_ok h0 kd_T_addNote_40 ?_
    refine wq_get_ok (wq_getOK h0 hts ki_T hown hK (ci := 1) rfl 5 (Nat.le_of_ble_eq_true rfl) kw_49 rfl) kd_T_addNote_41 ?_
    refine wq_iconst_ok h0 kd_T_addNote_44 (by decide +kernel) ?_
    refine wq_iadd_ok h0 kd_T_addNote_45 ?_
    refine wq_put_ok (wq_putOK h0 hts ki_T ka_T kb_T kn_T hown hK (ci := 1) rfl 5 (Nat.le_of_ble_eq_true rfl) kw_49 rfl (Or.inl rfl) wq_okI) kd_T_addNote_46 ?_
    refine wq_iload_ok h0 kd_T_addNote_49 ?_
    exact wq_ireturn_ok h0 hr hlk kd_T_addNote_51
  exact hb_0 _ _ _ _ _ (wq_sp_t hsp)
set_option maxRecDepth 100000 in
set_option maxHeartbeats 4000000 in
theorem kv_T_holds {l : Launch} (hl : l.stackTraces = false) : wq_Vld l kz_cl ky_T_holds kw_T ({ frames := 0, cells := 0, slots := 0, locals := 0 }) wq_G0 ks_T_holds 0 0 := by
  refine wq_method (cc := kc_T_holds) (maxL := 4) (ret := (some .boolean)) (by decide) kw_557 (fun _ _ => rfl) wq_sp_sz ?_
  intro p e s m args below meth c cs D ad as w rt xt hF hnt hsp
  obtain ⟨h0, hr, hts, hown, hlk, hnm, hml, hK, hZ, hN, hA⟩ := hF
  have hown : s.vm.findClass "BorderDesk$Tariff" = some m.cls := hown
  obtain ⟨A, hAe⟩ : ∃ A, A = wq_A ad w s.heap.size := ⟨_, rfl⟩
  rw [← hAe] at hZ hA ⊢
  have hb_47 : wq_Snd p l e ({ frames := 0, cells := 0, slots := 0, locals := 0 } : Room) s m args below meth c 4 cs D kz_cl A (wq_G0 ad w) (wq_Q cs D kz_cl A (wq_G0 ad w) rt xt below s 0 0) 47 (kt_T_holds_47 rt xt) := by
    exact wq_zreturn_ok h0 hr hlk kd_T_holds_47
  have hb_46 : wq_Snd p l e ({ frames := 0, cells := 0, slots := 0, locals := 0 } : Room) s m args below meth c 4 cs D kz_cl A (wq_G0 ad w) (wq_Q cs D kz_cl A (wq_G0 ad w) rt xt below s 0 0) 46 (kt_T_holds_46 rt xt) := by
    refine wq_iconst_ok h0 kd_T_holds_46 (by decide +kernel) ?_
    exact hb_47
  have hb_32 : wq_Snd p l e ({ frames := 0, cells := 0, slots := 0, locals := 0 } : Room) s m args below meth c 4 cs D kz_cl A (wq_G0 ad w) (wq_Q cs D kz_cl A (wq_G0 ad w) rt xt below s 0 0) 32 (kt_T_holds_32 rt xt) := by
    refine wq_iload_n_ok h0 kd_T_holds_32 rfl ?_
    refine wq_aload_n_ok h0 kd_T_holds_33 rfl ?_
    refine wq_get_ok (wq_getOK h0 hts ki_T hown hK (ci := 1) rfl 9 (Nat.le_of_ble_eq_true rfl) kw_53 rfl) kd_T_holds_34 ?_
    refine wq_iload_n_ok h0 kd_T_holds_37 rfl ?_
    refine wq_iald_ok h0 hK kd_T_holds_38 ?_
    refine wq_icmp_lt_ok (tgt := 46) h0 kd_T_holds_39 (by decide) ?_ ?_
    · exact hb_46
    refine wq_iconst_ok h0 kd_T_holds_42 (by decide +kernel) ?_
    refine wq_goto_ok (tgt := 47) h0 kd_T_holds_43 (by decide) ?_
    exact hb_47
  have hb_63 : wq_Snd p l e ({ frames := 0, cells := 0, slots := 0, locals := 0 } : Room) s m args below meth c 4 cs D kz_cl A (wq_G0 ad w) (wq_Q cs D kz_cl A (wq_G0 ad w) rt xt below s 0 0) 63 (kt_T_holds_63 rt xt) := by
    exact wq_zreturn_ok h0 hr hlk kd_T_holds_63
  have hb_62 : wq_Snd p l e ({ frames := 0, cells := 0, slots := 0, locals := 0 } : Room) s m args below meth c 4 cs D kz_cl A (wq_G0 ad w) (wq_Q cs D kz_cl A (wq_G0 ad w) rt xt below s 0 0) 62 (kt_T_holds_62 rt xt) := by
    refine wq_iconst_ok h0 kd_T_holds_62 (by decide +kernel) ?_
    exact hb_63
  have hb_48 : wq_Snd p l e ({ frames := 0, cells := 0, slots := 0, locals := 0 } : Room) s m args below meth c 4 cs D kz_cl A (wq_G0 ad w) (wq_Q cs D kz_cl A (wq_G0 ad w) rt xt below s 0 0) 48 (kt_T_holds_48 rt xt) := by
    refine wq_iload_n_ok h0 kd_T_holds_48 rfl ?_
    refine wq_aload_n_ok h0 kd_T_holds_49 rfl ?_
    refine wq_get_ok (wq_getOK h0 hts ki_T hown hK (ci := 1) rfl 9 (Nat.le_of_ble_eq_true rfl) kw_53 rfl) kd_T_holds_50 ?_
    refine wq_iload_n_ok h0 kd_T_holds_53 rfl ?_
    refine wq_iald_ok h0 hK kd_T_holds_54 ?_
    refine wq_icmp_ge_ok (tgt := 62) h0 kd_T_holds_55 (by decide) ?_ ?_
    · exact hb_62
    refine wq_iconst_ok h0 kd_T_holds_58 (by decide +kernel) ?_
    refine wq_goto_ok (tgt := 63) h0 kd_T_holds_59 (by decide) ?_
    exact hb_63
  have hb_84 : wq_Snd p l e ({ frames := 0, cells := 0, slots := 0, locals := 0 } : Room) s m args below meth c 4 cs D kz_cl A (wq_G0 ad w) (wq_Q cs D kz_cl A (wq_G0 ad w) rt xt below s 0 0) 84 (kt_T_holds_84 rt xt) := by
    exact wq_zreturn_ok h0 hr hlk kd_T_holds_84
  have hb_83 : wq_Snd p l e ({ frames := 0, cells := 0, slots := 0, locals := 0 } : Room) s m args below meth c 4 cs D kz_cl A (wq_G0 ad w) (wq_Q cs D kz_cl A (wq_G0 ad w) rt xt below s 0 0) 83 (kt_T_holds_83 rt xt) := by
    refine wq_iconst_ok h0 kd_T_holds_83 (by decide +kernel) ?_
    exact hb_84
  have hb_64 : wq_Snd p l e ({ frames := 0, cells := 0, slots := 0, locals := 0 } : Room) s m args below meth c 4 cs D kz_cl A (wq_G0 ad w) (wq_Q cs D kz_cl A (wq_G0 ad w) rt xt below s 0 0) 64 (kt_T_holds_64 rt xt) := by
    refine wq_iload_n_ok h0 kd_T_holds_64 rfl ?_
    refine wq_aload_n_ok h0 kd_T_holds_65 rfl ?_
    refine wq_get_ok (wq_getOK h0 hts ki_T hown hK (ci := 1) rfl 9 (Nat.le_of_ble_eq_true rfl) kw_53 rfl) kd_T_holds_66 ?_
    refine wq_iload_n_ok h0 kd_T_holds_69 rfl ?_
    refine wq_iald_ok h0 hK kd_T_holds_70 ?_
    refine wq_icmp_lt_ok (tgt := 83) h0 kd_T_holds_71 (by decide) ?_ ?_
    · exact hb_83
    refine wq_iload_n_ok h0 kd_T_holds_74 rfl ?_
    refine wq_iload_n_ok h0 kd_T_holds_75 rfl ?_
    refine wq_icmp_lt_ok (tgt := 83) h0 kd_T_holds_76 (by decide) ?_ ?_
    · exact hb_83
    refine wq_iconst_ok h0 kd_T_holds_79 (by decide +kernel) ?_
    refine wq_goto_ok (tgt := 84) h0 kd_T_holds_80 (by decide) ?_
    exact hb_84
  have hb_0 : wq_Snd p l e ({ frames := 0, cells := 0, slots := 0, locals := 0 } : Room) s m args below meth c 4 cs D kz_cl A (wq_G0 ad w) (wq_Q cs D kz_cl A (wq_G0 ad w) rt xt below s 0 0) 0 (kt_T_holds_0 rt xt) := by
    refine wq_aload_n_ok h0 kd_T_holds_0 rfl ?_
    refine wq_get_ok (wq_getOK h0 hts ki_T hown hK (ci := 1) rfl 7 (Nat.le_of_ble_eq_true rfl) kw_51 rfl) kd_T_holds_1 ?_
    refine wq_iload_n_ok h0 kd_T_holds_4 rfl ?_
    refine wq_iald_ok h0 hK kd_T_holds_5 ?_
    refine wq_sw_ok ?_ ?_
    · exact List.forall_mem_cons.mpr ⟨⟨32, (by exact hb_32), fun H locs n1 n2 ls rest hw => lv_lookup (tgt := 32) (off := 26) h0.1 h0.2 kd_T_holds_6 (by decide +kernel) (show Op.lookupswitch.offset [(0, 26), (1, 42)] 58 (nI 0).toInt = 26 by decide +kernel) (by decide) hw⟩, List.forall_mem_cons.mpr ⟨⟨48, (by exact hb_48), fun H locs n1 n2 ls rest hw => lv_lookup (tgt := 48) (off := 42) h0.1 h0.2 kd_T_holds_6 (by decide +kernel) (show Op.lookupswitch.offset [(0, 26), (1, 42)] 58 (nI 1).toInt = 42 by decide +kernel) (by decide) hw⟩, fun _ h => absurd h List.not_mem_nil⟩⟩
    · exact ⟨64, (by exact hb_64), fun H locs n1 n2 ls rest x hq hw => lv_lookup (tgt := 64) (off := 58) h0.1 h0.2 kd_T_holds_6 (by decide +kernel) (by show Op.lookupswitch.offset [(0, 26), (1, 42)] 58 x.toInt = 58; rw [lv_osw (k := (nI 0)) (hq _ List.mem_cons_self) (by decide +kernel), lv_osw (k := (nI 1)) (hq _ (List.mem_cons_of_mem _ List.mem_cons_self)) (by decide +kernel)]; rfl) (by decide) hw⟩
  exact hb_0 _ _ _ _ _ (wq_sp_t hsp)
set_option maxRecDepth 100000 in
set_option maxHeartbeats 4000000 in
theorem kv_T_greatestMaterial {l : Launch} (hl : l.stackTraces = false) : wq_Vld l kz_cl ky_T_greatestMaterial kw_T ({ frames := 1, cells := 0, slots := 0, locals := 23 }) wq_G0 ks_T_greatestMaterial 0 0 := by
  refine wq_method (cc := kc_T_greatestMaterial) (maxL := 4) (ret := (some .int)) (by decide) kw_550 (fun _ _ => rfl) wq_sp_sz ?_
  intro p e s m args below meth c cs D ad as w rt xt hF hnt hsp
  obtain ⟨h0, hr, hts, hown, hlk, hnm, hml, hK, hZ, hN, hA⟩ := hF
  have hown : s.vm.findClass "BorderDesk$Tariff" = some m.cls := hown
  obtain ⟨A, hAe⟩ : ∃ A, A = wq_A ad w s.heap.size := ⟨_, rfl⟩
  rw [← hAe] at hZ hA ⊢
  have hall : ∀ K : Nat → wq_T, (∀ pc, pc ∈ [4] → wq_Snd p l e ({ frames := 1, cells := 0, slots := 0, locals := 23 } : Room) s m args below meth c 4 cs D kz_cl A (wq_G0 ad w) (wq_Q cs D kz_cl A (wq_G0 ad w) rt xt below s 0 0) pc (K pc)) → (∀ pc, pc ∈ [4] → wq_Snd p l e ({ frames := 1, cells := 0, slots := 0, locals := 23 } : Room) s m args below meth c 4 cs D kz_cl A (wq_G0 ad w) (wq_Q cs D kz_cl A (wq_G0 ad w) rt xt below s 0 0) pc (cond (Nat.beq pc 4) (kh_T_greatestMaterial_4 rt xt K) (fun _ _ _ _ _ => False))) ∧ wq_Snd p l e ({ frames := 1, cells := 0, slots := 0, locals := 23 } : Room) s m args below meth c 4 cs D kz_cl A (wq_G0 ad w) (wq_Q cs D kz_cl A (wq_G0 ad w) rt xt below s 0 0) 0 (kt_T_greatestMaterial_0 rt xt K) := by
    intro K hKc
    have hb_28 : wq_Snd p l e ({ frames := 1, cells := 0, slots := 0, locals := 23 } : Room) s m args below meth c 4 cs D kz_cl A (wq_G0 ad w) (wq_Q cs D kz_cl A (wq_G0 ad w) rt xt below s 0 0) 28 (kt_T_greatestMaterial_28 rt xt K) := by
      refine wq_iload_n_ok h0 kd_T_greatestMaterial_28 rfl ?_
      exact wq_ireturn_ok h0 hr hlk kd_T_greatestMaterial_29
    have hb_4 : wq_Snd p l e ({ frames := 1, cells := 0, slots := 0, locals := 23 } : Room) s m args below meth c 4 cs D kz_cl A (wq_G0 ad w) (wq_Q cs D kz_cl A (wq_G0 ad w) rt xt below s 0 0) 4 (kh_T_greatestMaterial_4 rt xt K) := by
      refine wq_iload_n_ok h0 kd_T_greatestMaterial_4 rfl ?_
      refine wq_iconst_ok h0 kd_T_greatestMaterial_5 (by decide +kernel) ?_
      refine wq_icmp_ge_ok (tgt := 28) h0 kd_T_greatestMaterial_6 (by decide) ?_ ?_
      · exact hb_28
      refine wq_iload_n_ok h0 kd_T_greatestMaterial_9 rfl ?_
      refine wq_aload_n_ok h0 kd_T_greatestMaterial_10 rfl ?_
      refine wq_get_ok (wq_getOK h0 hts ki_T hown hK (ci := 1) rfl 10 (Nat.le_of_ble_eq_true rfl) kw_54 rfl) kd_T_greatestMaterial_11 ?_
      refine wq_iload_n_ok h0 kd_T_greatestMaterial_14 rfl ?_
      refine wq_aald_ok h0 hK kd_T_greatestMaterial_15 ?_
      refine wq_iload_n_ok h0 kd_T_greatestMaterial_16 rfl ?_
      refine wq_iald_ok h0 hK kd_T_greatestMaterial_17 ?_
      refine wq_m2_ok (fun H locs n1 n2 ls rest x y hsz hrs hc hs hw => va_mmax h0.1 h0.2 (hml.trans hsz.symm) hown (hts _ kw_551) (hts _ kw_552) (hts _ kw_16) (hts _ kw_553) (Nat.le_of_ble_eq_true rfl) (Nat.le_trans (Nat.add_le_add_right hrs 13) (Nat.le_of_ble_eq_true rfl)) hc hs kd_T_greatestMaterial_18 hw) ?_
      refine wq_istore_n_ok h0 kd_T_greatestMaterial_21 rfl (Nat.le_of_ble_eq_true rfl) ?_
      refine wq_iinc_ok h0 kd_T_greatestMaterial_22 (by decide +kernel) (Nat.le_of_ble_eq_true rfl) ?_
      refine wq_goto_ok (tgt := 4) h0 kd_T_greatestMaterial_25 (by decide) ?_
      exact wq_can_ok (hKc 4 (by decide))
    have hb_0 : wq_Snd p l e ({ frames := 1, cells := 0, slots := 0, locals := 23 } : Room) s m args below meth c 4 cs D kz_cl A (wq_G0 ad w) (wq_Q cs D kz_cl A (wq_G0 ad w) rt xt below s 0 0) 0 (kt_T_greatestMaterial_0 rt xt K) := by
      refine wq_iconst_ok h0 kd_T_greatestMaterial_0 (by decide +kernel) ?_
      refine wq_istore_n_ok h0 kd_T_greatestMaterial_1 rfl (Nat.le_of_ble_eq_true rfl) ?_
      refine wq_iconst_ok h0 kd_T_greatestMaterial_2 (by decide +kernel) ?_
      refine wq_istore_n_ok h0 kd_T_greatestMaterial_3 rfl (Nat.le_of_ble_eq_true rfl) ?_
      exact wq_can_ok (hKc 4 (by decide))
    refine ⟨?_, hb_0⟩
    exact List.forall_mem_cons.mpr ⟨hb_4, fun _ h => absurd h List.not_mem_nil⟩
  have hun : ∀ (n pc : Nat), pc ∈ [4] → wq_Snd p l e ({ frames := 1, cells := 0, slots := 0, locals := 23 } : Room) s m args below meth c 4 cs D kz_cl A (wq_G0 ad w) (wq_Q cs D kz_cl A (wq_G0 ad w) rt xt below s 0 0) pc (ku_T_greatestMaterial rt xt n pc) := by
    intro n
    induction n with
    | zero => intro pc _ L S w9 n1 n2 h; exact h.elim
    | succ n ih => intro pc hpc; exact (hall (ku_T_greatestMaterial rt xt n) ih).1 pc hpc
  exact (hall (ku_T_greatestMaterial rt xt 1000000000000) (hun 1000000000000)).2 _ _ _ _ _ (wq_sp_t hsp)
set_option maxRecDepth 100000 in
set_option maxHeartbeats 4000000 in
theorem kv_T_judgeByOwnNotes {l : Launch} (hl : l.stackTraces = false) : wq_Vld l kz_cl ky_T_judgeByOwnNotes kw_T ({ frames := 2, cells := 0, slots := 0, locals := 46 }) wq_G0 ks_T_judgeByOwnNotes 0 0 := by
  refine wq_method (cc := kc_T_judgeByOwnNotes) (maxL := 6) (ret := none) (by decide) kw_546 (fun _ _ => rfl) wq_sp_sz ?_
  intro p e s m args below meth c cs D ad as w rt xt hF hnt hsp
  obtain ⟨h0, hr, hts, hown, hlk, hnm, hml, hK, hZ, hN, hA⟩ := hF
  have hown : s.vm.findClass "BorderDesk$Tariff" = some m.cls := hown
  obtain ⟨A, hAe⟩ : ∃ A, A = wq_A ad w s.heap.size := ⟨_, rfl⟩
  rw [← hAe] at hZ hA ⊢
  have hall : ∀ K : Nat → wq_T, (∀ pc, pc ∈ [2, 38] → wq_Snd p l e ({ frames := 2, cells := 0, slots := 0, locals := 46 } : Room) s m args below meth c 6 cs D kz_cl A (wq_G0 ad w) (wq_Q cs D kz_cl A (wq_G0 ad w) rt xt below s 0 0) pc (K pc)) → (∀ pc, pc ∈ [2, 38] → wq_Snd p l e ({ frames := 2, cells := 0, slots := 0, locals := 46 } : Room) s m args below meth c 6 cs D kz_cl A (wq_G0 ad w) (wq_Q cs D kz_cl A (wq_G0 ad w) rt xt below s 0 0) pc (cond (Nat.beq pc 2) (kh_T_judgeByOwnNotes_2 rt xt K) (cond (Nat.beq pc 38) (kh_T_judgeByOwnNotes_38 rt xt K) (fun _ _ _ _ _ => False)))) ∧ wq_Snd p l e ({ frames := 2, cells := 0, slots := 0, locals := 46 } : Room) s m args below meth c 6 cs D kz_cl A (wq_G0 ad w) (wq_Q cs D kz_cl A (wq_G0 ad w) rt xt below s 0 0) 0 (kt_T_judgeByOwnNotes_0 rt xt K) := by
    intro K hKc
    have hb_30 : wq_Snd p l e ({ frames := 2, cells := 0, slots := 0, locals := 46 } : Room) s m args below meth c 6 cs D kz_cl A (wq_G0 ad w) (wq_Q cs D kz_cl A (wq_G0 ad w) rt xt below s 0 0) 30 (kt_T_judgeByOwnNotes_30 rt xt K) := by
      refine wq_aload_n_ok h0 kd_T_judgeByOwnNotes_30 rfl ?_
      refine wq_iload_n_ok h0 kd_T_judgeByOwnNotes_31 rfl ?_
      refine wq_call_ok hA (wq_runV (ci := 1) ⟨h0.1, h0.2, hml, hown, hts⟩ (kv_T_greatestMaterial hl) ⟨(wq_cB hts kw_G kw_550 kw_2 kw_547 ⟨by decide +kernel, by decide +kernel, by decide +kernel⟩ rfl rfl ⟨Nat.le_of_ble_eq_true rfl, Nat.le_of_ble_eq_true rfl⟩), hts _ kw_549, hts _ kw_s3⟩ rfl rfl hK hZ hN hA kd_T_judgeByOwnNotes_32) (wq_xout_ok hnt hlk) ?_
      refine wq_istore_n_ok h0 kd_T_judgeByOwnNotes_35 rfl (Nat.le_of_ble_eq_true rfl) ?_
      refine wq_iconst_ok h0 kd_T_judgeByOwnNotes_36 (by decide +kernel) ?_
      refine wq_istore_n_ok h0 kd_T_judgeByOwnNotes_37 rfl (Nat.le_of_ble_eq_true rfl) ?_
      exact wq_can_ok (hKc 38 (by decide))
    have hb_2 : wq_Snd p l e ({ frames := 2, cells := 0, slots := 0, locals := 46 } : Room) s m args below meth c 6 cs D kz_cl A (wq_G0 ad w) (wq_Q cs D kz_cl A (wq_G0 ad w) rt xt below s 0 0) 2 (kh_T_judgeByOwnNotes_2 rt xt K) := by
      refine wq_iload_n_ok h0 kd_T_judgeByOwnNotes_2 rfl ?_
      refine wq_aload_n_ok h0 kd_T_judgeByOwnNotes_3 rfl ?_
      refine wq_get_ok (wq_getOK h0 hts ki_T hown hK (ci := 1) rfl 0 (Nat.le_of_ble_eq_true rfl) kw_38 rfl) kd_T_judgeByOwnNotes_4 ?_
      refine wq_icmp_ge_ok (tgt := 30) h0 kd_T_judgeByOwnNotes_7 (by decide) ?_ ?_
      · exact hb_30
      refine wq_aload_n_ok h0 kd_T_judgeByOwnNotes_10 rfl ?_
      refine wq_get_ok (wq_getOK h0 hts ki_T hown hK (ci := 1) rfl 11 (Nat.le_of_ble_eq_true rfl) kw_56 rfl) kd_T_judgeByOwnNotes_11 ?_
      refine wq_iload_n_ok h0 kd_T_judgeByOwnNotes_14 rfl ?_
      refine wq_iconst_ok h0 kd_T_judgeByOwnNotes_15 (by decide +kernel) ?_
      refine wq_zast_ok h0 hK kd_T_judgeByOwnNotes_16 ?_
      refine wq_aload_n_ok h0 kd_T_judgeByOwnNotes_17 rfl ?_
      refine wq_get_ok (wq_getOK h0 hts ki_T hown hK (ci := 1) rfl 12 (Nat.le_of_ble_eq_true rfl) kw_57 rfl) kd_T_judgeByOwnNotes_18 ?_
      refine wq_iload_n_ok h0 kd_T_judgeByOwnNotes_21 rfl ?_
      refine wq_iconst_ok h0 kd_T_judgeByOwnNotes_22 (by decide +kernel) ?_
      refine wq_iast_ok h0 hK kd_T_judgeByOwnNotes_23 ?_
      refine wq_iinc_ok h0 kd_T_judgeByOwnNotes_24 (by decide +kernel) (Nat.le_of_ble_eq_true rfl) ?_
      refine wq_goto_ok (tgt := 2) h0 kd_T_judgeByOwnNotes_27 (by decide) ?_
      exact wq_can_ok (hKc 2 (by decide))
    have hb_123 : wq_Snd p l e ({ frames := 2, cells := 0, slots := 0, locals := 46 } : Room) s m args below meth c 6 cs D kz_cl A (wq_G0 ad w) (wq_Q cs D kz_cl A (wq_G0 ad w) rt xt below s 0 0) 123 (kt_T_judgeByOwnNotes_123 rt xt K) := by
      exact wq_vreturn_ok h0 hr hlk kd_T_judgeByOwnNotes_123
    have hb_117 : wq_Snd p l e ({ frames := 2, cells := 0, slots := 0, locals := 46 } : Room) s m args below meth c 6 cs D kz_cl A (wq_G0 ad w) (wq_Q cs D kz_cl A (wq_G0 ad w) rt xt below s 0 0) 117 (kt_T_judgeByOwnNotes_117 rt xt K) := by
      refine wq_iinc_ok h0 kd_T_judgeByOwnNotes_117 (by decide +kernel) (Nat.le_of_ble_eq_true rfl) ?_
      refine wq_goto_ok (tgt := 38) h0 kd_T_judgeByOwnNotes_120 (by decide) ?_
      exact wq_can_ok (hKc 38 (by decide))
    have hb_88 : wq_Snd p l e ({ frames := 2, cells := 0, slots := 0, locals := 46 } : Room) s m args below meth c 6 cs D kz_cl A (wq_G0 ad w) (wq_Q cs D kz_cl A (wq_G0 ad w) rt xt below s 0 0) 88 (kt_T_judgeByOwnNotes_88 rt xt K) := by
      refine wq_aload_n_ok h0 kd_T_judgeByOwnNotes_88 rfl ?_
      refine wq_get_ok (wq_getOK h0 hts ki_T hown hK (ci := 1) rfl 7 (Nat.le_of_ble_eq_true rfl) kw_51 rfl) kd_T_judgeByOwnNotes_89 ?_
      refine wq_iload_n_ok h0 kd_T_judgeByOwnNotes_92 rfl ?_
      refine wq_iald_ok h0 hK kd_T_judgeByOwnNotes_93 ?_
      refine wq_iconst_ok h0 kd_T_judgeByOwnNotes_94 (by decide +kernel) ?_
      refine wq_icmp_ne_ok (tgt := 117) h0 kd_T_judgeByOwnNotes_95 (by decide) ?_ ?_
      · exact hb_117
      refine wq_aload_n_ok h0 kd_T_judgeByOwnNotes_98 rfl ?_
      refine wq_get_ok (wq_getOK h0 hts ki_T hown hK (ci := 1) rfl 12 (Nat.le_of_ble_eq_true rfl) kw_57 rfl) kd_T_judgeByOwnNotes_99 ?_
      refine wq_iload_ok h0 kd_T_judgeByOwnNotes_102 ?_
      refine wq_aload_n_ok h0 kd_T_judgeByOwnNotes_104 rfl ?_
      refine wq_get_ok (wq_getOK h0 hts ki_T hown hK (ci := 1) rfl 12 (Nat.le_of_ble_eq_true rfl) kw_57 rfl) kd_T_judgeByOwnNotes_105 ?_
      refine wq_iload_ok h0 kd_T_judgeByOwnNotes_108 ?_
      refine wq_iald_ok h0 hK kd_T_judgeByOwnNotes_110 ?_
      refine wq_iload_ok h0 kd_T_judgeByOwnNotes_111 ?_
      refine wq_m2_ok (fun H locs n1 n2 ls rest x y hsz hrs hc hs hw => va_mmax h0.1 h0.2 (hml.trans hsz.symm) hown (hts _ kw_551) (hts _ kw_552) (hts _ kw_16) (hts _ kw_553) (Nat.le_of_ble_eq_true rfl) (Nat.le_trans (Nat.add_le_add_right hrs 13) (Nat.le_of_ble_eq_true rfl)) hc hs kd_T_judgeByOwnNotes_113 hw) ?_
      refine wq_iast_ok h0 hK kd_T_judgeByOwnNotes_116 ?_
      exact hb_117
    have hb_38 : wq_Snd p l e ({ frames := 2, cells := 0, slots := 0, locals := 46 } : Room) s m args below meth c 6 cs D kz_cl A (wq_G0 ad w) (wq_Q cs D kz_cl A (wq_G0 ad w) rt xt below s 0 0) 38 (kh_T_judgeByOwnNotes_38 rt xt K) := by
      refine wq_iload_n_ok h0 kd_T_judgeByOwnNotes_38 rfl ?_
      refine wq_aload_n_ok h0 kd_T_judgeByOwnNotes_39 rfl ?_
      refine wq_get_ok (wq_getOK h0 hts ki_T hown hK (ci := 1) rfl 5 (Nat.le_of_ble_eq_true rfl) kw_49 rfl) kd_T_judgeByOwnNotes_40 ?_
      refine wq_icmp_ge_ok (tgt := 123) h0 kd_T_judgeByOwnNotes_43 (by decide) ?_ ?_
      · exact hb_123
      refine wq_aload_n_ok h0 kd_T_judgeByOwnNotes_46 rfl ?_
      refine wq_get_ok (wq_getOK h0 hts ki_T hown hK (ci := 1) rfl 6 (Nat.le_of_ble_eq_true rfl) kw_50 rfl) kd_T_judgeByOwnNotes_47 ?_
      refine wq_iload_n_ok h0 kd_T_judgeByOwnNotes_50 rfl ?_
      refine wq_iald_ok h0 hK kd_T_judgeByOwnNotes_51 ?_
      refine wq_istore_ok h0 kd_T_judgeByOwnNotes_52 (Nat.le_of_ble_eq_true rfl) ?_
      refine wq_aload_n_ok h0 kd_T_judgeByOwnNotes_54 rfl ?_
      refine wq_get_ok (wq_getOK h0 hts ki_T hown hK (ci := 1) rfl 10 (Nat.le_of_ble_eq_true rfl) kw_54 rfl) kd_T_judgeByOwnNotes_55 ?_
      refine wq_iload_n_ok h0 kd_T_judgeByOwnNotes_58 rfl ?_
      refine wq_aald_ok h0 hK kd_T_judgeByOwnNotes_59 ?_
      refine wq_aload_n_ok h0 kd_T_judgeByOwnNotes_60 rfl ?_
      refine wq_get_ok (wq_getOK h0 hts ki_T hown hK (ci := 1) rfl 8 (Nat.le_of_ble_eq_true rfl) kw_52 rfl) kd_T_judgeByOwnNotes_61 ?_
      refine wq_iload_n_ok h0 kd_T_judgeByOwnNotes_64 rfl ?_
      refine wq_iald_ok h0 hK kd_T_judgeByOwnNotes_65 ?_
      refine wq_iald_ok h0 hK kd_T_judgeByOwnNotes_66 ?_
      refine wq_istore_ok h0 kd_T_judgeByOwnNotes_67 (Nat.le_of_ble_eq_true rfl) ?_
      refine wq_aload_n_ok h0 kd_T_judgeByOwnNotes_69 rfl ?_
      refine wq_iload_n_ok h0 kd_T_judgeByOwnNotes_70 rfl ?_
      refine wq_iload_ok h0 kd_T_judgeByOwnNotes_71 ?_
      refine wq_iload_n_ok h0 kd_T_judgeByOwnNotes_73 rfl ?_
      refine wq_call_ok hA (wq_runV (ci := 1) ⟨h0.1, h0.2, hml, hown, hts⟩ (kv_T_holds hl) ⟨(wq_cB hts kw_G kw_557 kw_2 kw_554 ⟨by decide +kernel, by decide +kernel, by decide +kernel⟩ rfl rfl ⟨Nat.le_of_ble_eq_true rfl, Nat.le_of_ble_eq_true rfl⟩), hts _ kw_556, hts _ kw_s4⟩ rfl rfl hK hZ hN hA kd_T_judgeByOwnNotes_74) (wq_xout_ok hnt hlk) ?_
      refine wq_if_ne_ok (tgt := 88) h0 kd_T_judgeByOwnNotes_77 (by decide) ?_ ?_
      · exact hb_88
      refine wq_aload_n_ok h0 kd_T_judgeByOwnNotes_80 rfl ?_
      refine wq_get_ok (wq_getOK h0 hts ki_T hown hK (ci := 1) rfl 11 (Nat.le_of_ble_eq_true rfl) kw_56 rfl) kd_T_judgeByOwnNotes_81 ?_
      refine wq_iload_ok h0 kd_T_judgeByOwnNotes_84 ?_
      refine wq_iconst_ok h0 kd_T_judgeByOwnNotes_86 (by decide +kernel) ?_
      refine wq_zast_ok h0 hK kd_T_judgeByOwnNotes_87 ?_
      exact hb_88
    have hb_0 : wq_Snd p l e ({ frames := 2, cells := 0, slots := 0, locals := 46 } : Room) s m args below meth c 6 cs D kz_cl A (wq_G0 ad w) (wq_Q cs D kz_cl A (wq_G0 ad w) rt xt below s 0 0) 0 (kt_T_judgeByOwnNotes_0 rt xt K) := by
      refine wq_iconst_ok h0 kd_T_judgeByOwnNotes_0 (by decide +kernel) ?_
      refine wq_istore_n_ok h0 kd_T_judgeByOwnNotes_1 rfl (Nat.le_of_ble_eq_true rfl) ?_
      exact wq_can_ok (hKc 2 (by decide))
    refine ⟨?_, hb_0⟩
    exact List.forall_mem_cons.mpr ⟨hb_2, List.forall_mem_cons.mpr ⟨hb_38, fun _ h => absurd h List.not_mem_nil⟩⟩
  have hun : ∀ (n pc : Nat), pc ∈ [2, 38] → wq_Snd p l e ({ frames := 2, cells := 0, slots := 0, locals := 46 } : Room) s m args below meth c 6 cs D kz_cl A (wq_G0 ad w) (wq_Q cs D kz_cl A (wq_G0 ad w) rt xt below s 0 0) pc (ku_T_judgeByOwnNotes rt xt n pc) := by
    intro n
    induction n with
    | zero => intro pc _ L S w9 n1 n2 h; exact h.elim
    | succ n ih => intro pc hpc; exact (hall (ku_T_judgeByOwnNotes rt xt n) ih).1 pc hpc
  exact (hall (ku_T_judgeByOwnNotes rt xt 1000000000000) (hun 1000000000000)).2 _ _ _ _ _ (wq_sp_t hsp)
set_option maxRecDepth 100000 in
set_option maxHeartbeats 4000000 in
theorem kv_T_inheritFromParent {l : Launch} (hl : l.stackTraces = false) : wq_Vld l kz_cl ky_T_inheritFromParent kw_T ({ frames := 1, cells := 0, slots := 0, locals := 23 }) wq_G0 ks_T_inheritFromParent 0 0 := by
  refine wq_method (cc := kc_T_inheritFromParent) (maxL := 3) (ret := none) (by decide) kw_561 (fun _ _ => rfl) wq_sp_sz ?_
  intro p e s m args below meth c cs D ad as w rt xt hF hnt hsp
  obtain ⟨h0, hr, hts, hown, hlk, hnm, hml, hK, hZ, hN, hA⟩ := hF
  have hown : s.vm.findClass "BorderDesk$Tariff" = some m.cls := hown
  obtain ⟨A, hAe⟩ : ∃ A, A = wq_A ad w s.heap.size := ⟨_, rfl⟩
  rw [← hAe] at hZ hA ⊢
  have hb_62 : wq_Snd p l e ({ frames := 1, cells := 0, slots := 0, locals := 23 } : Room) s m args below meth c 3 cs D kz_cl A (wq_G0 ad w) (wq_Q cs D kz_cl A (wq_G0 ad w) rt xt below s 0 0) 62 (kt_T_inheritFromParent_62 rt xt) := by
    exact wq_vreturn_ok h0 hr hlk kd_T_inheritFromParent_62
  have hb_40 : wq_Snd p l e ({ frames := 1, cells := 0, slots := 0, locals := 23 } : Room) s m args below meth c 3 cs D kz_cl A (wq_G0 ad w) (wq_Q cs D kz_cl A (wq_G0 ad w) rt xt below s 0 0) 40 (kt_T_inheritFromParent_40 rt xt) := by
    refine wq_zast_ok h0 hK kd_T_inheritFromParent_40 ?_
    refine wq_aload_n_ok h0 kd_T_inheritFromParent_41 rfl ?_
    refine wq_get_ok (wq_getOK h0 hts ki_T hown hK (ci := 1) rfl 12 (Nat.le_of_ble_eq_true rfl) kw_57 rfl) kd_T_inheritFromParent_42 ?_
    refine wq_iload_n_ok h0 kd_T_inheritFromParent_45 rfl ?_
    refine wq_aload_n_ok h0 kd_T_inheritFromParent_46 rfl ?_
    refine wq_get_ok (wq_getOK h0 hts ki_T hown hK (ci := 1) rfl 12 (Nat.le_of_ble_eq_true rfl) kw_57 rfl) kd_T_inheritFromParent_47 ?_
    refine wq_iload_n_ok h0 kd_T_inheritFromParent_50 rfl ?_
    refine wq_iald_ok h0 hK kd_T_inheritFromParent_51 ?_
    refine wq_aload_n_ok h0 kd_T_inheritFromParent_52 rfl ?_
    refine wq_get_ok (wq_getOK h0 hts ki_T hown hK (ci := 1) rfl 12 (Nat.le_of_ble_eq_true rfl) kw_57 rfl) kd_T_inheritFromParent_53 ?_
    refine wq_iload_n_ok h0 kd_T_inheritFromParent_56 rfl ?_
    refine wq_iald_ok h0 hK kd_T_inheritFromParent_57 ?_
    refine wq_m2_ok (fun H locs n1 n2 ls rest x y hsz hrs hc hs hw => va_mmax h0.1 h0.2 (hml.trans hsz.symm) hown (hts _ kw_551) (hts _ kw_552) (hts _ kw_16) (hts _ kw_553) (Nat.le_of_ble_eq_true rfl) (Nat.le_trans (Nat.add_le_add_right hrs 13) (Nat.le_of_ble_eq_true rfl)) hc hs kd_T_inheritFromParent_58 hw) ?_
    refine wq_iast_ok h0 hK kd_T_inheritFromParent_61 ?_
    exact hb_62
  have hb_39 : wq_Snd p l e ({ frames := 1, cells := 0, slots := 0, locals := 23 } : Room) s m args below meth c 3 cs D kz_cl A (wq_G0 ad w) (wq_Q cs D kz_cl A (wq_G0 ad w) rt xt below s 0 0) 39 (kt_T_inheritFromParent_39 rt xt) := by
    refine wq_iconst_ok h0 kd_T_inheritFromParent_39 (by decide +kernel) ?_
    exact hb_40
  have hb_0 : wq_Snd p l e ({ frames := 1, cells := 0, slots := 0, locals := 23 } : Room) s m args below meth c 3 cs D kz_cl A (wq_G0 ad w) (wq_Q cs D kz_cl A (wq_G0 ad w) rt xt below s 0 0) 0 (kt_T_inheritFromParent_0 rt xt) := by
    refine wq_aload_n_ok h0 kd_T_inheritFromParent_0 rfl ?_
    refine wq_get_ok (wq_getOK h0 hts ki_T hown hK (ci := 1) rfl 1 (Nat.le_of_ble_eq_true rfl) kw_39 rfl) kd_T_inheritFromParent_1 ?_
    refine wq_iload_n_ok h0 kd_T_inheritFromParent_4 rfl ?_
    refine wq_iald_ok h0 hK kd_T_inheritFromParent_5 ?_
    refine wq_istore_n_ok h0 kd_T_inheritFromParent_6 rfl (Nat.le_of_ble_eq_true rfl) ?_
    refine wq_iload_n_ok h0 kd_T_inheritFromParent_7 rfl ?_
    refine wq_iconst_ok h0 kd_T_inheritFromParent_8 (by decide +kernel) ?_
    refine wq_icmp_eq_ok (tgt := 62) h0 kd_T_inheritFromParent_9 (by decide) ?_ ?_
    · exact hb_62
    refine wq_aload_n_ok h0 kd_T_inheritFromParent_12 rfl ?_
    refine wq_get_ok (wq_getOK h0 hts ki_T hown hK (ci := 1) rfl 11 (Nat.le_of_ble_eq_true rfl) kw_56 rfl) kd_T_inheritFromParent_13 ?_
    refine wq_iload_n_ok h0 kd_T_inheritFromParent_16 rfl ?_
    refine wq_aload_n_ok h0 kd_T_inheritFromParent_17 rfl ?_
    refine wq_get_ok (wq_getOK h0 hts ki_T hown hK (ci := 1) rfl 11 (Nat.le_of_ble_eq_true rfl) kw_56 rfl) kd_T_inheritFromParent_18 ?_
    refine wq_iload_n_ok h0 kd_T_inheritFromParent_21 rfl ?_
    refine wq_zald_ok h0 hK kd_T_inheritFromParent_22 ?_
    refine wq_if_eq_ok (tgt := 39) h0 kd_T_inheritFromParent_23 (by decide) ?_ ?_
    · exact hb_39
    refine wq_aload_n_ok h0 kd_T_inheritFromParent_26 rfl ?_
    refine wq_get_ok (wq_getOK h0 hts ki_T hown hK (ci := 1) rfl 11 (Nat.le_of_ble_eq_true rfl) kw_56 rfl) kd_T_inheritFromParent_27 ?_
    refine wq_iload_n_ok h0 kd_T_inheritFromParent_30 rfl ?_
    refine wq_zald_ok h0 hK kd_T_inheritFromParent_31 ?_
    refine wq_if_eq_ok (tgt := 39) h0 kd_T_inheritFromParent_32 (by decide) ?_ ?_
    · exact hb_39
    refine wq_iconst_ok h0 kd_T_inheritFromParent_35 (by decide +kernel) ?_
    refine wq_goto_ok (tgt := 40) h0 kd_T_inheritFromParent_36 (by decide) ?_
    exact hb_40
  exact hb_0 _ _ _ _ _ (wq_sp_t hsp)
set_option maxRecDepth 100000 in
set_option maxHeartbeats 4000000 in
theorem kv_T_isAsGood {l : Launch} (hl : l.stackTraces = false) : wq_Vld l kz_cl ky_T_isAsGood kw_T ({ frames := 0, cells := 0, slots := 0, locals := 0 }) wq_G0 ks_T_isAsGood 0 0 := by
  refine wq_method (cc := kc_T_isAsGood) (maxL := 3) (ret := (some .boolean)) (by decide) kw_565 (fun _ _ => rfl) wq_sp_sz ?_
  intro p e s m args below meth c cs D ad as w rt xt hF hnt hsp
  obtain ⟨h0, hr, hts, hown, hlk, hnm, hml, hK, hZ, hN, hA⟩ := hF
  have hown : s.vm.findClass "BorderDesk$Tariff" = some m.cls := hown
  obtain ⟨A, hAe⟩ : ∃ A, A = wq_A ad w s.heap.size := ⟨_, rfl⟩
  rw [← hAe] at hZ hA ⊢
  have hb_56 : wq_Snd p l e ({ frames := 0, cells := 0, slots := 0, locals := 0 } : Room) s m args below meth c 3 cs D kz_cl A (wq_G0 ad w) (wq_Q cs D kz_cl A (wq_G0 ad w) rt xt below s 0 0) 56 (kt_T_isAsGood_56 rt xt) := by
    exact wq_zreturn_ok h0 hr hlk kd_T_isAsGood_56
  have hb_55 : wq_Snd p l e ({ frames := 0, cells := 0, slots := 0, locals := 0 } : Room) s m args below meth c 3 cs D kz_cl A (wq_G0 ad w) (wq_Q cs D kz_cl A (wq_G0 ad w) rt xt below s 0 0) 55 (kt_T_isAsGood_55 rt xt) := by
    refine wq_iconst_ok h0 kd_T_isAsGood_55 (by decide +kernel) ?_
    exact hb_56
  have hb_36 : wq_Snd p l e ({ frames := 0, cells := 0, slots := 0, locals := 0 } : Room) s m args below meth c 3 cs D kz_cl A (wq_G0 ad w) (wq_Q cs D kz_cl A (wq_G0 ad w) rt xt below s 0 0) 36 (kt_T_isAsGood_36 rt xt) := by
    refine wq_aload_n_ok h0 kd_T_isAsGood_36 rfl ?_
    refine wq_get_ok (wq_getOK h0 hts ki_T hown hK (ci := 1) rfl 12 (Nat.le_of_ble_eq_true rfl) kw_57 rfl) kd_T_isAsGood_37 ?_
    refine wq_iload_n_ok h0 kd_T_isAsGood_40 rfl ?_
    refine wq_iald_ok h0 hK kd_T_isAsGood_41 ?_
    refine wq_aload_n_ok h0 kd_T_isAsGood_42 rfl ?_
    refine wq_get_ok (wq_getOK h0 hts ki_T hown hK (ci := 1) rfl 12 (Nat.le_of_ble_eq_true rfl) kw_57 rfl) kd_T_isAsGood_43 ?_
    refine wq_iload_n_ok h0 kd_T_isAsGood_46 rfl ?_
    refine wq_iald_ok h0 hK kd_T_isAsGood_47 ?_
    refine wq_icmp_lt_ok (tgt := 55) h0 kd_T_isAsGood_48 (by decide) ?_ ?_
    · exact hb_55
    refine wq_iconst_ok h0 kd_T_isAsGood_51 (by decide +kernel) ?_
    refine wq_goto_ok (tgt := 56) h0 kd_T_isAsGood_52 (by decide) ?_
    exact hb_56
  have hb_35 : wq_Snd p l e ({ frames := 0, cells := 0, slots := 0, locals := 0 } : Room) s m args below meth c 3 cs D kz_cl A (wq_G0 ad w) (wq_Q cs D kz_cl A (wq_G0 ad w) rt xt below s 0 0) 35 (kt_T_isAsGood_35 rt xt) := by
    exact wq_zreturn_ok h0 hr hlk kd_T_isAsGood_35
  have hb_34 : wq_Snd p l e ({ frames := 0, cells := 0, slots := 0, locals := 0 } : Room) s m args below meth c 3 cs D kz_cl A (wq_G0 ad w) (wq_Q cs D kz_cl A (wq_G0 ad w) rt xt below s 0 0) 34 (kt_T_isAsGood_34 rt xt) := by
    refine wq_iconst_ok h0 kd_T_isAsGood_34 (by decide +kernel) ?_
    exact hb_35
  have hb_0 : wq_Snd p l e ({ frames := 0, cells := 0, slots := 0, locals := 0 } : Room) s m args below meth c 3 cs D kz_cl A (wq_G0 ad w) (wq_Q cs D kz_cl A (wq_G0 ad w) rt xt below s 0 0) 0 (kt_T_isAsGood_0 rt xt) := by
    refine wq_aload_n_ok h0 kd_T_isAsGood_0 rfl ?_
    refine wq_get_ok (wq_getOK h0 hts ki_T hown hK (ci := 1) rfl 2 (Nat.le_of_ble_eq_true rfl) kw_41 rfl) kd_T_isAsGood_1 ?_
    refine wq_iload_n_ok h0 kd_T_isAsGood_4 rfl ?_
    refine wq_iald_ok h0 hK kd_T_isAsGood_5 ?_
    refine wq_aload_n_ok h0 kd_T_isAsGood_6 rfl ?_
    refine wq_get_ok (wq_getOK h0 hts ki_T hown hK (ci := 1) rfl 2 (Nat.le_of_ble_eq_true rfl) kw_41 rfl) kd_T_isAsGood_7 ?_
    refine wq_iload_n_ok h0 kd_T_isAsGood_10 rfl ?_
    refine wq_iald_ok h0 hK kd_T_isAsGood_11 ?_
    refine wq_icmp_eq_ok (tgt := 36) h0 kd_T_isAsGood_12 (by decide) ?_ ?_
    · exact hb_36
    refine wq_aload_n_ok h0 kd_T_isAsGood_15 rfl ?_
    refine wq_get_ok (wq_getOK h0 hts ki_T hown hK (ci := 1) rfl 2 (Nat.le_of_ble_eq_true rfl) kw_41 rfl) kd_T_isAsGood_16 ?_
    refine wq_iload_n_ok h0 kd_T_isAsGood_19 rfl ?_
    refine wq_iald_ok h0 hK kd_T_isAsGood_20 ?_
    refine wq_aload_n_ok h0 kd_T_isAsGood_21 rfl ?_
    refine wq_get_ok (wq_getOK h0 hts ki_T hown hK (ci := 1) rfl 2 (Nat.le_of_ble_eq_true rfl) kw_41 rfl) kd_T_isAsGood_22 ?_
    refine wq_iload_n_ok h0 kd_T_isAsGood_25 rfl ?_
    refine wq_iald_ok h0 hK kd_T_isAsGood_26 ?_
    refine wq_icmp_le_ok (tgt := 34) h0 kd_T_isAsGood_27 (by decide) ?_ ?_
    · exact hb_34
    refine wq_iconst_ok h0 kd_T_isAsGood_30 (by decide +kernel) ?_
    refine wq_goto_ok (tgt := 35) h0 kd_T_isAsGood_31 (by decide) ?_
    exact hb_35
  exact hb_0 _ _ _ _ _ (wq_sp_t hsp)
set_option maxRecDepth 100000 in
set_option maxHeartbeats 4000000 in
theorem kv_T_classOf {l : Launch} (hl : l.stackTraces = false) : wq_Vld l kz_cl ky_T_classOf kw_T ({ frames := 3, cells := 0, slots := 0, locals := 71 }) wq_G0 ks_T_classOf 0 0 := by
  refine wq_method (cc := kc_T_classOf) (maxL := 4) (ret := (some .int)) (by decide) kw_542 (fun _ _ => rfl) wq_sp_sz ?_
  intro p e s m args below meth c cs D ad as w rt xt hF hnt hsp
  obtain ⟨h0, hr, hts, hown, hlk, hnm, hml, hK, hZ, hN, hA⟩ := hF
  have hown : s.vm.findClass "BorderDesk$Tariff" = some m.cls := hown
  obtain ⟨A, hAe⟩ : ∃ A, A = wq_A ad w s.heap.size := ⟨_, rfl⟩
  rw [← hAe] at hZ hA ⊢
  have hall : ∀ K : Nat → wq_T, (∀ pc, pc ∈ [9] → wq_Snd p l e ({ frames := 3, cells := 0, slots := 0, locals := 71 } : Room) s m args below meth c 4 cs D kz_cl A (wq_G0 ad w) (wq_Q cs D kz_cl A (wq_G0 ad w) rt xt below s 0 0) pc (K pc)) → (∀ pc, pc ∈ [9] → wq_Snd p l e ({ frames := 3, cells := 0, slots := 0, locals := 71 } : Room) s m args below meth c 4 cs D kz_cl A (wq_G0 ad w) (wq_Q cs D kz_cl A (wq_G0 ad w) rt xt below s 0 0) pc (cond (Nat.beq pc 9) (kh_T_classOf_9 rt xt K) (fun _ _ _ _ _ => False))) ∧ wq_Snd p l e ({ frames := 3, cells := 0, slots := 0, locals := 71 } : Room) s m args below meth c 4 cs D kz_cl A (wq_G0 ad w) (wq_Q cs D kz_cl A (wq_G0 ad w) rt xt below s 0 0) 0 (kt_T_classOf_0 rt xt K) := by
    intro K hKc
    have hb_53 : wq_Snd p l e ({ frames := 3, cells := 0, slots := 0, locals := 71 } : Room) s m args below meth c 4 cs D kz_cl A (wq_G0 ad w) (wq_Q cs D kz_cl A (wq_G0 ad w) rt xt below s 0 0) 53 (kt_T_classOf_53 rt xt K) := by
      refine wq_iload_n_ok h0 kd_T_classOf_53 rfl ?_
      exact wq_ireturn_ok h0 hr hlk kd_T_classOf_54
    have hb_47 : wq_Snd p l e ({ frames := 3, cells := 0, slots := 0, locals := 71 } : Room) s m args below meth c 4 cs D kz_cl A (wq_G0 ad w) (wq_Q cs D kz_cl A (wq_G0 ad w) rt xt below s 0 0) 47 (kt_T_classOf_47 rt xt K) := by
      refine wq_iinc_ok h0 kd_T_classOf_47 (by decide +kernel) (Nat.le_of_ble_eq_true rfl) ?_
      refine wq_goto_ok (tgt := 9) h0 kd_T_classOf_50 (by decide) ?_
      exact wq_can_ok (hKc 9 (by decide))
    have hb_45 : wq_Snd p l e ({ frames := 3, cells := 0, slots := 0, locals := 71 } : Room) s m args below meth c 4 cs D kz_cl A (wq_G0 ad w) (wq_Q cs D kz_cl A (wq_G0 ad w) rt xt below s 0 0) 45 (kt_T_classOf_45 rt xt K) := by
      refine wq_iload_n_ok h0 kd_T_classOf_45 rfl ?_
      refine wq_istore_n_ok h0 kd_T_classOf_46 rfl (Nat.le_of_ble_eq_true rfl) ?_
      exact hb_47
    have hb_9 : wq_Snd p l e ({ frames := 3, cells := 0, slots := 0, locals := 71 } : Room) s m args below meth c 4 cs D kz_cl A (wq_G0 ad w) (wq_Q cs D kz_cl A (wq_G0 ad w) rt xt below s 0 0) 9 (kh_T_classOf_9 rt xt K) := by
      refine wq_iload_n_ok h0 kd_T_classOf_9 rfl ?_
      refine wq_aload_n_ok h0 kd_T_classOf_10 rfl ?_
      refine wq_get_ok (wq_getOK h0 hts ki_T hown hK (ci := 1) rfl 0 (Nat.le_of_ble_eq_true rfl) kw_38 rfl) kd_T_classOf_11 ?_
      refine wq_icmp_ge_ok (tgt := 53) h0 kd_T_classOf_14 (by decide) ?_ ?_
      · exact hb_53
      refine wq_aload_n_ok h0 kd_T_classOf_17 rfl ?_
      refine wq_iload_n_ok h0 kd_T_classOf_18 rfl ?_
      refine wq_call_ok hA (wq_runV (ci := 1) ⟨h0.1, h0.2, hml, hown, hts⟩ (kv_T_inheritFromParent hl) ⟨(wq_cB hts kw_G kw_561 kw_2 kw_558 ⟨by decide +kernel, by decide +kernel, by decide +kernel⟩ rfl rfl ⟨Nat.le_of_ble_eq_true rfl, Nat.le_of_ble_eq_true rfl⟩), hts _ kw_560, hts _ kw_s5⟩ rfl rfl hK hZ hN hA kd_T_classOf_19) (wq_xout_ok hnt hlk) ?_
      refine wq_aload_n_ok h0 kd_T_classOf_22 rfl ?_
      refine wq_get_ok (wq_getOK h0 hts ki_T hown hK (ci := 1) rfl 11 (Nat.le_of_ble_eq_true rfl) kw_56 rfl) kd_T_classOf_23 ?_
      refine wq_iload_n_ok h0 kd_T_classOf_26 rfl ?_
      refine wq_zald_ok h0 hK kd_T_classOf_27 ?_
      refine wq_if_eq_ok (tgt := 47) h0 kd_T_classOf_28 (by decide) ?_ ?_
      · exact hb_47
      refine wq_iload_n_ok h0 kd_T_classOf_31 rfl ?_
      refine wq_iconst_ok h0 kd_T_classOf_32 (by decide +kernel) ?_
      refine wq_icmp_eq_ok (tgt := 45) h0 kd_T_classOf_33 (by decide) ?_ ?_
      · exact hb_45
      refine wq_aload_n_ok h0 kd_T_classOf_36 rfl ?_
      refine wq_iload_n_ok h0 kd_T_classOf_37 rfl ?_
      refine wq_iload_n_ok h0 kd_T_classOf_38 rfl ?_
      refine wq_call_ok hA (wq_runV (ci := 1) ⟨h0.1, h0.2, hml, hown, hts⟩ (kv_T_isAsGood hl) ⟨(wq_cB hts kw_G kw_565 kw_2 kw_562 ⟨by decide +kernel, by decide +kernel, by decide +kernel⟩ rfl rfl ⟨Nat.le_of_ble_eq_true rfl, Nat.le_of_ble_eq_true rfl⟩), hts _ kw_564, hts _ kw_s6⟩ rfl rfl hK hZ hN hA kd_T_classOf_39) (wq_xout_ok hnt hlk) ?_
      refine wq_if_eq_ok (tgt := 47) h0 kd_T_classOf_42 (by decide) ?_ ?_
      · exact hb_47
      exact hb_45
    have hb_0 : wq_Snd p l e ({ frames := 3, cells := 0, slots := 0, locals := 71 } : Room) s m args below meth c 4 cs D kz_cl A (wq_G0 ad w) (wq_Q cs D kz_cl A (wq_G0 ad w) rt xt below s 0 0) 0 (kt_T_classOf_0 rt xt K) := by
      refine wq_aload_n_ok h0 kd_T_classOf_0 rfl ?_
      refine wq_iload_n_ok h0 kd_T_classOf_1 rfl ?_
      refine wq_call_ok hA (wq_runV (ci := 1) ⟨h0.1, h0.2, hml, hown, hts⟩ (kv_T_judgeByOwnNotes hl) ⟨(wq_cB hts kw_G kw_546 kw_2 kw_543 ⟨by decide +kernel, by decide +kernel, by decide +kernel⟩ rfl rfl ⟨Nat.le_of_ble_eq_true rfl, Nat.le_of_ble_eq_true rfl⟩), hts _ kw_545, hts _ kw_s2⟩ rfl rfl hK hZ hN hA kd_T_classOf_2) (wq_xout_ok hnt hlk) ?_
      refine wq_iconst_ok h0 kd_T_classOf_5 (by decide +kernel) ?_
      refine wq_istore_n_ok h0 kd_T_classOf_6 rfl (Nat.le_of_ble_eq_true rfl) ?_
      refine wq_iconst_ok h0 kd_T_classOf_7 (by decide +kernel) ?_
      refine wq_istore_n_ok h0 kd_T_classOf_8 rfl (Nat.le_of_ble_eq_true rfl) ?_
      exact wq_can_ok (hKc 9 (by decide))
    refine ⟨?_, hb_0⟩
    exact List.forall_mem_cons.mpr ⟨hb_9, fun _ h => absurd h List.not_mem_nil⟩
  have hun : ∀ (n pc : Nat), pc ∈ [9] → wq_Snd p l e ({ frames := 3, cells := 0, slots := 0, locals := 71 } : Room) s m args below meth c 4 cs D kz_cl A (wq_G0 ad w) (wq_Q cs D kz_cl A (wq_G0 ad w) rt xt below s 0 0) pc (ku_T_classOf rt xt n pc) := by
    intro n
    induction n with
    | zero => intro pc _ L S w9 n1 n2 h; exact h.elim
    | succ n ih => intro pc hpc; exact (hall (ku_T_classOf rt xt n) ih).1 pc hpc
  exact (hall (ku_T_classOf rt xt 1000000000000) (hun 1000000000000)).2 _ _ _ _ _ (wq_sp_t hsp)
set_option maxRecDepth 100000 in
set_option maxHeartbeats 4000000 in
theorem kv_T_isSameOrAbove {l : Launch} (hl : l.stackTraces = false) : wq_Vld l kz_cl ky_T_isSameOrAbove kw_T ({ frames := 0, cells := 0, slots := 0, locals := 0 }) wq_G0 ks_T_isSameOrAbove 0 0 := by
  refine wq_method (cc := kc_T_isSameOrAbove) (maxL := 5) (ret := (some .boolean)) (by decide) kw_782 (fun _ _ => rfl) wq_sp_sz ?_
  intro p e s m args below meth c cs D ad as w rt xt hF hnt hsp
  obtain ⟨h0, hr, hts, hown, hlk, hnm, hml, hK, hZ, hN, hA⟩ := hF
  have hown : s.vm.findClass "BorderDesk$Tariff" = some m.cls := hown
  obtain ⟨A, hAe⟩ : ∃ A, A = wq_A ad w s.heap.size := ⟨_, rfl⟩
  rw [← hAe] at hZ hA ⊢
  have hall : ∀ K : Nat → wq_T, (∀ pc, pc ∈ [5] → wq_Snd p l e ({ frames := 0, cells := 0, slots := 0, locals := 0 } : Room) s m args below meth c 5 cs D kz_cl A (wq_G0 ad w) (wq_Q cs D kz_cl A (wq_G0 ad w) rt xt below s 0 0) pc (K pc)) → (∀ pc, pc ∈ [5] → wq_Snd p l e ({ frames := 0, cells := 0, slots := 0, locals := 0 } : Room) s m args below meth c 5 cs D kz_cl A (wq_G0 ad w) (wq_Q cs D kz_cl A (wq_G0 ad w) rt xt below s 0 0) pc (cond (Nat.beq pc 5) (kh_T_isSameOrAbove_5 rt xt K) (fun _ _ _ _ _ => False))) ∧ wq_Snd p l e ({ frames := 0, cells := 0, slots := 0, locals := 0 } : Room) s m args below meth c 5 cs D kz_cl A (wq_G0 ad w) (wq_Q cs D kz_cl A (wq_G0 ad w) rt xt below s 0 0) 0 (kt_T_isSameOrAbove_0 rt xt K) := by
    intro K hKc
    have hb_36 : wq_Snd p l e ({ frames := 0, cells := 0, slots := 0, locals := 0 } : Room) s m args below meth c 5 cs D kz_cl A (wq_G0 ad w) (wq_Q cs D kz_cl A (wq_G0 ad w) rt xt below s 0 0) 36 (kt_T_isSameOrAbove_36 rt xt K) := by
      refine wq_iconst_ok h0 kd_T_isSameOrAbove_36 (by decide +kernel) ?_
      exact wq_zreturn_ok h0 hr hlk kd_T_isSameOrAbove_37
    have hb_23 : wq_Snd p l e ({ frames := 0, cells := 0, slots := 0, locals := 0 } : Room) s m args below meth c 5 cs D kz_cl A (wq_G0 ad w) (wq_Q cs D kz_cl A (wq_G0 ad w) rt xt below s 0 0) 23 (kt_T_isSameOrAbove_23 rt xt K) := by
      refine wq_aload_n_ok h0 kd_T_isSameOrAbove_23 rfl ?_
      refine wq_get_ok (wq_getOK h0 hts ki_T hown hK (ci := 1) rfl 1 (Nat.le_of_ble_eq_true rfl) kw_39 rfl) kd_T_isSameOrAbove_24 ?_
      refine wq_iload_n_ok h0 kd_T_isSameOrAbove_27 rfl ?_
      refine wq_iald_ok h0 hK kd_T_isSameOrAbove_28 ?_
      refine wq_istore_n_ok h0 kd_T_isSameOrAbove_29 rfl (Nat.le_of_ble_eq_true rfl) ?_
      refine wq_iinc_ok h0 kd_T_isSameOrAbove_30 (by decide +kernel) (Nat.le_of_ble_eq_true rfl) ?_
      refine wq_goto_ok (tgt := 5) h0 kd_T_isSameOrAbove_33 (by decide) ?_
      exact wq_can_ok (hKc 5 (by decide))
    have hb_5 : wq_Snd p l e ({ frames := 0, cells := 0, slots := 0, locals := 0 } : Room) s m args below meth c 5 cs D kz_cl A (wq_G0 ad w) (wq_Q cs D kz_cl A (wq_G0 ad w) rt xt below s 0 0) 5 (kh_T_isSameOrAbove_5 rt xt K) := by
      refine wq_iload_ok h0 kd_T_isSameOrAbove_5 ?_
      refine wq_iconst_ok h0 kd_T_isSameOrAbove_7 (by decide +kernel) ?_
      refine wq_icmp_gt_ok (tgt := 36) h0 kd_T_isSameOrAbove_8 (by decide) ?_ ?_
      · exact hb_36
      refine wq_iload_n_ok h0 kd_T_isSameOrAbove_11 rfl ?_
      refine wq_iconst_ok h0 kd_T_isSameOrAbove_12 (by decide +kernel) ?_
      refine wq_icmp_eq_ok (tgt := 36) h0 kd_T_isSameOrAbove_13 (by decide) ?_ ?_
      · exact hb_36
      refine wq_iload_n_ok h0 kd_T_isSameOrAbove_16 rfl ?_
      refine wq_iload_n_ok h0 kd_T_isSameOrAbove_17 rfl ?_
      refine wq_icmp_ne_ok (tgt := 23) h0 kd_T_isSameOrAbove_18 (by decide) ?_ ?_
      · exact hb_23
      refine wq_iconst_ok h0 kd_T_isSameOrAbove_21 (by decide +kernel) ?_
      exact wq_zreturn_ok h0 hr hlk kd_T_isSameOrAbove_22
    have hb_0 : wq_Snd p l e ({ frames := 0, cells := 0, slots := 0, locals := 0 } : Room) s m args below meth c 5 cs D kz_cl A (wq_G0 ad w) (wq_Q cs D kz_cl A (wq_G0 ad w) rt xt below s 0 0) 0 (kt_T_isSameOrAbove_0 rt xt K) := by
      refine wq_iload_n_ok h0 kd_T_isSameOrAbove_0 rfl ?_
      refine wq_istore_n_ok h0 kd_T_isSameOrAbove_1 rfl (Nat.le_of_ble_eq_true rfl) ?_
      refine wq_iconst_ok h0 kd_T_isSameOrAbove_2 (by decide +kernel) ?_
      refine wq_istore_ok h0 kd_T_isSameOrAbove_3 (Nat.le_of_ble_eq_true rfl) ?_
      exact wq_can_ok (hKc 5 (by decide))
    refine ⟨?_, hb_0⟩
    exact List.forall_mem_cons.mpr ⟨hb_5, fun _ h => absurd h List.not_mem_nil⟩
  have hun : ∀ (n pc : Nat), pc ∈ [5] → wq_Snd p l e ({ frames := 0, cells := 0, slots := 0, locals := 0 } : Room) s m args below meth c 5 cs D kz_cl A (wq_G0 ad w) (wq_Q cs D kz_cl A (wq_G0 ad w) rt xt below s 0 0) pc (ku_T_isSameOrAbove rt xt n pc) := by
    intro n
    induction n with
    | zero => intro pc _ L S w9 n1 n2 h; exact h.elim
    | succ n ih => intro pc hpc; exact (hall (ku_T_isSameOrAbove rt xt n) ih).1 pc hpc
  exact (hall (ku_T_isSameOrAbove rt xt 1000000000000) (hun 1000000000000)).2 _ _ _ _ _ (wq_sp_t hsp)
set_option maxRecDepth 100000 in
set_option maxHeartbeats 4000000 in
theorem kv_T_headingWithRule {l : Launch} (hl : l.stackTraces = false) : wq_Vld l kz_cl ky_T_headingWithRule kw_T ({ frames := 0, cells := 0, slots := 0, locals := 0 }) wq_G0 ks_T_headingWithRule 0 0 := by
  refine wq_method (cc := kc_T_headingWithRule) (maxL := 4) (ret := (some .int)) (by decide) kw_676 (fun _ _ => rfl) wq_sp_sz ?_
  intro p e s m args below meth c cs D ad as w rt xt hF hnt hsp
  obtain ⟨h0, hr, hts, hown, hlk, hnm, hml, hK, hZ, hN, hA⟩ := hF
  have hown : s.vm.findClass "BorderDesk$Tariff" = some m.cls := hown
  obtain ⟨A, hAe⟩ : ∃ A, A = wq_A ad w s.heap.size := ⟨_, rfl⟩
  rw [← hAe] at hZ hA ⊢
  have hall : ∀ K : Nat → wq_T, (∀ pc, pc ∈ [4] → wq_Snd p l e ({ frames := 0, cells := 0, slots := 0, locals := 0 } : Room) s m args below meth c 4 cs D kz_cl A (wq_G0 ad w) (wq_Q cs D kz_cl A (wq_G0 ad w) rt xt below s 0 0) pc (K pc)) → (∀ pc, pc ∈ [4] → wq_Snd p l e ({ frames := 0, cells := 0, slots := 0, locals := 0 } : Room) s m args below meth c 4 cs D kz_cl A (wq_G0 ad w) (wq_Q cs D kz_cl A (wq_G0 ad w) rt xt below s 0 0) pc (cond (Nat.beq pc 4) (kh_T_headingWithRule_4 rt xt K) (fun _ _ _ _ _ => False))) ∧ wq_Snd p l e ({ frames := 0, cells := 0, slots := 0, locals := 0 } : Room) s m args below meth c 4 cs D kz_cl A (wq_G0 ad w) (wq_Q cs D kz_cl A (wq_G0 ad w) rt xt below s 0 0) 0 (kt_T_headingWithRule_0 rt xt K) := by
    intro K hKc
    have hb_39 : wq_Snd p l e ({ frames := 0, cells := 0, slots := 0, locals := 0 } : Room) s m args below meth c 4 cs D kz_cl A (wq_G0 ad w) (wq_Q cs D kz_cl A (wq_G0 ad w) rt xt below s 0 0) 39 (kt_T_headingWithRule_39 rt xt K) := by
      refine wq_iconst_ok h0 kd_T_headingWithRule_39 (by decide +kernel) ?_
      exact wq_ireturn_ok h0 hr hlk kd_T_headingWithRule_40
    have hb_26 : wq_Snd p l e ({ frames := 0, cells := 0, slots := 0, locals := 0 } : Room) s m args below meth c 4 cs D kz_cl A (wq_G0 ad w) (wq_Q cs D kz_cl A (wq_G0 ad w) rt xt below s 0 0) 26 (kt_T_headingWithRule_26 rt xt K) := by
      refine wq_aload_n_ok h0 kd_T_headingWithRule_26 rfl ?_
      refine wq_get_ok (wq_getOK h0 hts ki_T hown hK (ci := 1) rfl 1 (Nat.le_of_ble_eq_true rfl) kw_39 rfl) kd_T_headingWithRule_27 ?_
      refine wq_iload_n_ok h0 kd_T_headingWithRule_30 rfl ?_
      refine wq_iald_ok h0 hK kd_T_headingWithRule_31 ?_
      refine wq_istore_n_ok h0 kd_T_headingWithRule_32 rfl (Nat.le_of_ble_eq_true rfl) ?_
      refine wq_iinc_ok h0 kd_T_headingWithRule_33 (by decide +kernel) (Nat.le_of_ble_eq_true rfl) ?_
      refine wq_goto_ok (tgt := 4) h0 kd_T_headingWithRule_36 (by decide) ?_
      exact wq_can_ok (hKc 4 (by decide))
    have hb_4 : wq_Snd p l e ({ frames := 0, cells := 0, slots := 0, locals := 0 } : Room) s m args below meth c 4 cs D kz_cl A (wq_G0 ad w) (wq_Q cs D kz_cl A (wq_G0 ad w) rt xt below s 0 0) 4 (kh_T_headingWithRule_4 rt xt K) := by
      refine wq_iload_n_ok h0 kd_T_headingWithRule_4 rfl ?_
      refine wq_iconst_ok h0 kd_T_headingWithRule_5 (by decide +kernel) ?_
      refine wq_icmp_gt_ok (tgt := 39) h0 kd_T_headingWithRule_6 (by decide) ?_ ?_
      · exact hb_39
      refine wq_iload_n_ok h0 kd_T_headingWithRule_9 rfl ?_
      refine wq_iconst_ok h0 kd_T_headingWithRule_10 (by decide +kernel) ?_
      refine wq_icmp_eq_ok (tgt := 39) h0 kd_T_headingWithRule_11 (by decide) ?_ ?_
      · exact hb_39
      refine wq_aload_n_ok h0 kd_T_headingWithRule_14 rfl ?_
      refine wq_get_ok (wq_getOK h0 hts ki_T hown hK (ci := 1) rfl 3 (Nat.le_of_ble_eq_true rfl) kw_42 rfl) kd_T_headingWithRule_15 ?_
      refine wq_iload_n_ok h0 kd_T_headingWithRule_18 rfl ?_
      refine wq_iald_ok h0 hK kd_T_headingWithRule_19 ?_
      refine wq_iconst_ok h0 kd_T_headingWithRule_20 (by decide +kernel) ?_
      refine wq_icmp_eq_ok (tgt := 26) h0 kd_T_headingWithRule_21 (by decide) ?_ ?_
      · exact hb_26
      refine wq_iload_n_ok h0 kd_T_headingWithRule_24 rfl ?_
      exact wq_ireturn_ok h0 hr hlk kd_T_headingWithRule_25
    have hb_0 : wq_Snd p l e ({ frames := 0, cells := 0, slots := 0, locals := 0 } : Room) s m args below meth c 4 cs D kz_cl A (wq_G0 ad w) (wq_Q cs D kz_cl A (wq_G0 ad w) rt xt below s 0 0) 0 (kt_T_headingWithRule_0 rt xt K) := by
      refine wq_iload_n_ok h0 kd_T_headingWithRule_0 rfl ?_
      refine wq_istore_n_ok h0 kd_T_headingWithRule_1 rfl (Nat.le_of_ble_eq_true rfl) ?_
      refine wq_iconst_ok h0 kd_T_headingWithRule_2 (by decide +kernel) ?_
      refine wq_istore_n_ok h0 kd_T_headingWithRule_3 rfl (Nat.le_of_ble_eq_true rfl) ?_
      exact wq_can_ok (hKc 4 (by decide))
    refine ⟨?_, hb_0⟩
    exact List.forall_mem_cons.mpr ⟨hb_4, fun _ h => absurd h List.not_mem_nil⟩
  have hun : ∀ (n pc : Nat), pc ∈ [4] → wq_Snd p l e ({ frames := 0, cells := 0, slots := 0, locals := 0 } : Room) s m args below meth c 4 cs D kz_cl A (wq_G0 ad w) (wq_Q cs D kz_cl A (wq_G0 ad w) rt xt below s 0 0) pc (ku_T_headingWithRule rt xt n pc) := by
    intro n
    induction n with
    | zero => intro pc _ L S w9 n1 n2 h; exact h.elim
    | succ n ih => intro pc hpc; exact (hall (ku_T_headingWithRule rt xt n) ih).1 pc hpc
  exact (hall (ku_T_headingWithRule rt xt 1000000000000) (hun 1000000000000)).2 _ _ _ _ _ (wq_sp_t hsp)
