set_option maxRecDepth 100000 in
set_option maxHeartbeats 4000000 in
theorem kv_B_declare {l : Launch} (hl : l.stackTraces = false) : wq_Vld l kz_cl ky_B_declare kw_T ({ frames := 7, cells := 3, slots := 18, locals := 101 }) wq_G0 ks_B_declare 3 18 := by
  refine wq_method (cc := kc_B_declare) (maxL := 3) (ret := (some .int)) (by decide) kw_696 (fun _ _ => rfl) wq_sp_sz ?_
  intro p e s m args below meth c cs D ad as w rt xt hF hnt hsp
  obtain ⟨h0, hr, hts, hown, hlk, hnm, hml, hK, hZ, hN, hA⟩ := hF
  have hown : s.vm.findClass "BorderDesk" = some m.cls := hown
  obtain ⟨A, hAe⟩ : ∃ A, A = wq_A ad w s.heap.size := ⟨_, rfl⟩
  rw [← hAe] at hZ hA ⊢
  have hb_34 : wq_Snd p l e ({ frames := 7, cells := 3, slots := 18, locals := 101 } : Room) s m args below meth c 3 cs D kz_cl A (wq_G0 ad w) (wq_Q cs D kz_cl A (wq_G0 ad w) rt xt below s 3 18) 34 (kt_B_declare_34 rt xt) := by
    refine wq_call_ok hA (wq_runS ⟨h0.1, h0.2, hml, hown, hts⟩ (kv_B_requireState hl) ⟨(wq_cB hts kw_G kw_480 kw_1 kw_478 ⟨by decide +kernel, by decide +kernel, by decide +kernel⟩ rfl rfl ⟨Nat.le_of_ble_eq_true rfl, Nat.le_of_ble_eq_true rfl⟩), hts _ kw_479⟩ hK hZ hN hA kd_B_declare_34) (wq_xout_ok hnt hlk) ?_
    refine wq_aload_n_ok h0 kd_B_declare_37 rfl ?_
    refine wq_get_ok (wq_getOK h0 hts ki_B hown hK (ci := 0) rfl 4 (Nat.le_of_ble_eq_true rfl) kw_374 rfl) kd_B_declare_38 ?_
    refine wq_iload_n_ok h0 kd_B_declare_41 rfl ?_
    refine wq_iload_n_ok h0 kd_B_declare_42 rfl ?_
    refine wq_call_ok hA (wq_runV (ci := 5) ⟨h0.1, h0.2, hml, hown, hts⟩ (kv_D_add hl) ⟨(wq_cB hts kw_G kw_700 kw_6 kw_697 ⟨by decide +kernel, by decide +kernel, by decide +kernel⟩ rfl rfl ⟨Nat.le_of_ble_eq_true rfl, Nat.le_of_ble_eq_true rfl⟩), hts _ kw_698, hts _ kw_699⟩ rfl rfl hK hZ hN hA kd_B_declare_43) (wq_xout_ok hnt hlk) ?_
    exact wq_ireturn_ok h0 hr hlk kd_B_declare_46
  have hb_33 : wq_Snd p l e ({ frames := 7, cells := 3, slots := 18, locals := 101 } : Room) s m args below meth c 3 cs D kz_cl A (wq_G0 ad w) (wq_Q cs D kz_cl A (wq_G0 ad w) rt xt below s 3 18) 33 (kt_B_declare_33 rt xt) := by
    refine wq_iconst_ok h0 kd_B_declare_33 (by decide +kernel) ?_
    exact hb_34
  have hb_0 : wq_Snd p l e ({ frames := 7, cells := 3, slots := 18, locals := 101 } : Room) s m args below meth c 3 cs D kz_cl A (wq_G0 ad w) (wq_Q cs D kz_cl A (wq_G0 ad w) rt xt below s 3 18) 0 (kt_B_declare_0 rt xt) := by
    refine wq_iload_n_ok h0 kd_B_declare_0 rfl ?_
    refine wq_call_ok hA (wq_runS ⟨h0.1, h0.2, hml, hown, hts⟩ (kv_B_isDay hl) ⟨(wq_cB hts kw_G kw_578 kw_1 kw_576 ⟨by decide +kernel, by decide +kernel, by decide +kernel⟩ rfl rfl ⟨Nat.le_of_ble_eq_true rfl, Nat.le_of_ble_eq_true rfl⟩), hts _ kw_577⟩ hK hZ hN hA kd_B_declare_1) (wq_xout_ok hnt hlk) ?_
    refine wq_call_ok hA (wq_runS ⟨h0.1, h0.2, hml, hown, hts⟩ (kv_B_requireArgument hl) ⟨(wq_cB hts kw_G kw_413 kw_1 kw_411 ⟨by decide +kernel, by decide +kernel, by decide +kernel⟩ rfl rfl ⟨Nat.le_of_ble_eq_true rfl, Nat.le_of_ble_eq_true rfl⟩), hts _ kw_412⟩ hK hZ hN hA kd_B_declare_4) (wq_xout_ok hnt hlk) ?_
    refine wq_iload_n_ok h0 kd_B_declare_7 rfl ?_
    refine wq_sipush_ok h0 kd_B_declare_8 (by decide +kernel) ?_
    refine wq_call_ok hA (wq_runS ⟨h0.1, h0.2, hml, hown, hts⟩ (kv_B_isBelow hl) ⟨(wq_cB hts kw_G kw_410 kw_1 kw_408 ⟨by decide +kernel, by decide +kernel, by decide +kernel⟩ rfl rfl ⟨Nat.le_of_ble_eq_true rfl, Nat.le_of_ble_eq_true rfl⟩), hts _ kw_409⟩ hK hZ hN hA kd_B_declare_11) (wq_xout_ok hnt hlk) ?_
    refine wq_call_ok hA (wq_runS ⟨h0.1, h0.2, hml, hown, hts⟩ (kv_B_requireArgument hl) ⟨(wq_cB hts kw_G kw_413 kw_1 kw_411 ⟨by decide +kernel, by decide +kernel, by decide +kernel⟩ rfl rfl ⟨Nat.le_of_ble_eq_true rfl, Nat.le_of_ble_eq_true rfl⟩), hts _ kw_412⟩ hK hZ hN hA kd_B_declare_14) (wq_xout_ok hnt hlk) ?_
    refine wq_aload_n_ok h0 kd_B_declare_17 rfl ?_
    refine wq_get_ok (wq_getOK h0 hts ki_B hown hK (ci := 0) rfl 4 (Nat.le_of_ble_eq_true rfl) kw_374 rfl) kd_B_declare_18 ?_
    refine wq_get_ok (wq_getOK h0 hts ki_D hown hK (ci := 5) rfl 0 (Nat.le_of_ble_eq_true rfl) kw_196 rfl) kd_B_declare_21 ?_
    refine wq_bipush_ok h0 kd_B_declare_24 (by decide +kernel) ?_
    refine wq_icmp_ge_ok (tgt := 33) h0 kd_B_declare_26 (by decide) ?_ ?_
    · exact hb_33
    refine wq_iconst_ok h0 kd_B_declare_29 (by decide +kernel) ?_
    refine wq_goto_ok (tgt := 34) h0 kd_B_declare_30 (by decide) ?_
    exact hb_34
  exact hb_0 _ _ _ _ _ (wq_sp_t hsp)
set_option maxRecDepth 100000 in
set_option maxHeartbeats 4000000 in
theorem kv_B_line {l : Launch} (hl : l.stackTraces = false) : wq_Vld l kz_cl ky_B_line kw_T ({ frames := 7, cells := 6, slots := 36, locals := 101 }) wq_G0 ks_B_line 6 36 := by
  refine wq_method (cc := kc_B_line) (maxL := 8) (ret := (some .int)) (by decide) kw_707 (fun _ _ => rfl) wq_sp_sz ?_
  intro p e s m args below meth c cs D ad as w rt xt hF hnt hsp
  obtain ⟨h0, hr, hts, hown, hlk, hnm, hml, hK, hZ, hN, hA⟩ := hF
  have hown : s.vm.findClass "BorderDesk" = some m.cls := hown
  obtain ⟨A, hAe⟩ : ∃ A, A = wq_A ad w s.heap.size := ⟨_, rfl⟩
  rw [← hAe] at hZ hA ⊢
  have hb_95 : wq_Snd p l e ({ frames := 7, cells := 6, slots := 36, locals := 101 } : Room) s m args below meth c 8 cs D kz_cl A (wq_G0 ad w) (wq_Q cs D kz_cl A (wq_G0 ad w) rt xt below s 6 36) 95 (kt_B_line_95 rt xt) := by
    refine wq_call_ok hA (wq_runS ⟨h0.1, h0.2, hml, hown, hts⟩ (kv_B_requireState hl) ⟨(wq_cB hts kw_G kw_480 kw_1 kw_478 ⟨by decide +kernel, by decide +kernel, by decide +kernel⟩ rfl rfl ⟨Nat.le_of_ble_eq_true rfl, Nat.le_of_ble_eq_true rfl⟩), hts _ kw_479⟩ hK hZ hN hA kd_B_line_95) (wq_xout_ok hnt hlk) ?_
    refine wq_aload_n_ok h0 kd_B_line_98 rfl ?_
    refine wq_get_ok (wq_getOK h0 hts ki_B hown hK (ci := 0) rfl 4 (Nat.le_of_ble_eq_true rfl) kw_374 rfl) kd_B_line_99 ?_
    refine wq_iload_n_ok h0 kd_B_line_102 rfl ?_
    refine wq_iload_n_ok h0 kd_B_line_103 rfl ?_
    refine wq_iload_n_ok h0 kd_B_line_104 rfl ?_
    refine wq_iload_ok h0 kd_B_line_105 ?_
    refine wq_iload_ok h0 kd_B_line_107 ?_
    refine wq_iload_ok h0 kd_B_line_109 ?_
    refine wq_iload_ok h0 kd_B_line_111 ?_
    refine wq_call_ok hA (wq_runV (ci := 5) ⟨h0.1, h0.2, hml, hown, hts⟩ (kv_D_addLine hl) ⟨(wq_cB hts kw_G kw_721 kw_6 kw_718 ⟨by decide +kernel, by decide +kernel, by decide +kernel⟩ rfl rfl ⟨Nat.le_of_ble_eq_true rfl, Nat.le_of_ble_eq_true rfl⟩), hts _ kw_719, hts _ kw_720⟩ rfl rfl hK hZ hN hA kd_B_line_113) (wq_xout_ok hnt hlk) ?_
    exact wq_ireturn_ok h0 hr hlk kd_B_line_116
  have hb_94 : wq_Snd p l e ({ frames := 7, cells := 6, slots := 36, locals := 101 } : Room) s m args below meth c 8 cs D kz_cl A (wq_G0 ad w) (wq_Q cs D kz_cl A (wq_G0 ad w) rt xt below s 6 36) 94 (kt_B_line_94 rt xt) := by
    refine wq_iconst_ok h0 kd_B_line_94 (by decide +kernel) ?_
    exact hb_95
  have hb_74 : wq_Snd p l e ({ frames := 7, cells := 6, slots := 36, locals := 101 } : Room) s m args below meth c 8 cs D kz_cl A (wq_G0 ad w) (wq_Q cs D kz_cl A (wq_G0 ad w) rt xt below s 6 36) 74 (kt_B_line_74 rt xt) := by
    refine wq_call_ok hA (wq_runS ⟨h0.1, h0.2, hml, hown, hts⟩ (kv_B_requireState hl) ⟨(wq_cB hts kw_G kw_480 kw_1 kw_478 ⟨by decide +kernel, by decide +kernel, by decide +kernel⟩ rfl rfl ⟨Nat.le_of_ble_eq_true rfl, Nat.le_of_ble_eq_true rfl⟩), hts _ kw_479⟩ hK hZ hN hA kd_B_line_74) (wq_xout_ok hnt hlk) ?_
    refine wq_aload_n_ok h0 kd_B_line_77 rfl ?_
    refine wq_get_ok (wq_getOK h0 hts ki_B hown hK (ci := 0) rfl 4 (Nat.le_of_ble_eq_true rfl) kw_374 rfl) kd_B_line_78 ?_
    refine wq_get_ok (wq_getOK h0 hts ki_D hown hK (ci := 5) rfl 3 (Nat.le_of_ble_eq_true rfl) kw_202 rfl) kd_B_line_81 ?_
    refine wq_iload_n_ok h0 kd_B_line_84 rfl ?_
    refine wq_iald_ok h0 hK kd_B_line_85 ?_
    refine wq_iconst_ok h0 kd_B_line_86 (by decide +kernel) ?_
    refine wq_icmp_ge_ok (tgt := 94) h0 kd_B_line_87 (by decide) ?_ ?_
    · exact hb_94
    refine wq_iconst_ok h0 kd_B_line_90 (by decide +kernel) ?_
    refine wq_goto_ok (tgt := 95) h0 kd_B_line_91 (by decide) ?_
    exact hb_95
  have hb_73 : wq_Snd p l e ({ frames := 7, cells := 6, slots := 36, locals := 101 } : Room) s m args below meth c 8 cs D kz_cl A (wq_G0 ad w) (wq_Q cs D kz_cl A (wq_G0 ad w) rt xt below s 6 36) 73 (kt_B_line_73 rt xt) := by
    refine wq_iconst_ok h0 kd_B_line_73 (by decide +kernel) ?_
    exact hb_74
  have hb_27 : wq_Snd p l e ({ frames := 7, cells := 6, slots := 36, locals := 101 } : Room) s m args below meth c 8 cs D kz_cl A (wq_G0 ad w) (wq_Q cs D kz_cl A (wq_G0 ad w) rt xt below s 6 36) 27 (kt_B_line_27 rt xt) := by
    refine wq_call_ok hA (wq_runS ⟨h0.1, h0.2, hml, hown, hts⟩ (kv_B_requireArgument hl) ⟨(wq_cB hts kw_G kw_413 kw_1 kw_411 ⟨by decide +kernel, by decide +kernel, by decide +kernel⟩ rfl rfl ⟨Nat.le_of_ble_eq_true rfl, Nat.le_of_ble_eq_true rfl⟩), hts _ kw_412⟩ hK hZ hN hA kd_B_line_27) (wq_xout_ok hnt hlk) ?_
    refine wq_iconst_ok h0 kd_B_line_30 (by decide +kernel) ?_
    refine wq_iload_ok h0 kd_B_line_31 ?_
    refine wq_call_ok hA (wq_runS ⟨h0.1, h0.2, hml, hown, hts⟩ (kv_D_isInBounds hl) ⟨(wq_cB hts kw_G kw_714 kw_6 kw_712 ⟨by decide +kernel, by decide +kernel, by decide +kernel⟩ rfl rfl ⟨Nat.le_of_ble_eq_true rfl, Nat.le_of_ble_eq_true rfl⟩), hts _ kw_713⟩ hK hZ hN hA kd_B_line_33) (wq_xout_ok hnt hlk) ?_
    refine wq_call_ok hA (wq_runS ⟨h0.1, h0.2, hml, hown, hts⟩ (kv_B_requireArgument hl) ⟨(wq_cB hts kw_G kw_413 kw_1 kw_411 ⟨by decide +kernel, by decide +kernel, by decide +kernel⟩ rfl rfl ⟨Nat.le_of_ble_eq_true rfl, Nat.le_of_ble_eq_true rfl⟩), hts _ kw_412⟩ hK hZ hN hA kd_B_line_36) (wq_xout_ok hnt hlk) ?_
    refine wq_iconst_ok h0 kd_B_line_39 (by decide +kernel) ?_
    refine wq_iload_ok h0 kd_B_line_40 ?_
    refine wq_call_ok hA (wq_runS ⟨h0.1, h0.2, hml, hown, hts⟩ (kv_D_isInBounds hl) ⟨(wq_cB hts kw_G kw_714 kw_6 kw_712 ⟨by decide +kernel, by decide +kernel, by decide +kernel⟩ rfl rfl ⟨Nat.le_of_ble_eq_true rfl, Nat.le_of_ble_eq_true rfl⟩), hts _ kw_713⟩ hK hZ hN hA kd_B_line_42) (wq_xout_ok hnt hlk) ?_
    refine wq_call_ok hA (wq_runS ⟨h0.1, h0.2, hml, hown, hts⟩ (kv_B_requireArgument hl) ⟨(wq_cB hts kw_G kw_413 kw_1 kw_411 ⟨by decide +kernel, by decide +kernel, by decide +kernel⟩ rfl rfl ⟨Nat.le_of_ble_eq_true rfl, Nat.le_of_ble_eq_true rfl⟩), hts _ kw_412⟩ hK hZ hN hA kd_B_line_45) (wq_xout_ok hnt hlk) ?_
    refine wq_iconst_ok h0 kd_B_line_48 (by decide +kernel) ?_
    refine wq_iload_ok h0 kd_B_line_49 ?_
    refine wq_call_ok hA (wq_runS ⟨h0.1, h0.2, hml, hown, hts⟩ (kv_D_isInBounds hl) ⟨(wq_cB hts kw_G kw_714 kw_6 kw_712 ⟨by decide +kernel, by decide +kernel, by decide +kernel⟩ rfl rfl ⟨Nat.le_of_ble_eq_true rfl, Nat.le_of_ble_eq_true rfl⟩), hts _ kw_713⟩ hK hZ hN hA kd_B_line_51) (wq_xout_ok hnt hlk) ?_
    refine wq_call_ok hA (wq_runS ⟨h0.1, h0.2, hml, hown, hts⟩ (kv_B_requireArgument hl) ⟨(wq_cB hts kw_G kw_413 kw_1 kw_411 ⟨by decide +kernel, by decide +kernel, by decide +kernel⟩ rfl rfl ⟨Nat.le_of_ble_eq_true rfl, Nat.le_of_ble_eq_true rfl⟩), hts _ kw_412⟩ hK hZ hN hA kd_B_line_54) (wq_xout_ok hnt hlk) ?_
    refine wq_aload_n_ok h0 kd_B_line_57 rfl ?_
    refine wq_get_ok (wq_getOK h0 hts ki_B hown hK (ci := 0) rfl 4 (Nat.le_of_ble_eq_true rfl) kw_374 rfl) kd_B_line_58 ?_
    refine wq_get_ok (wq_getOK h0 hts ki_D hown hK (ci := 5) rfl 5 (Nat.le_of_ble_eq_true rfl) kw_207 rfl) kd_B_line_61 ?_
    refine wq_iload_n_ok h0 kd_B_line_64 rfl ?_
    refine wq_zald_ok h0 hK kd_B_line_65 ?_
    refine wq_if_ne_ok (tgt := 73) h0 kd_B_line_66 (by decide) ?_ ?_
    · exact hb_73
    refine wq_iconst_ok h0 kd_B_line_69 (by decide +kernel) ?_
    refine wq_goto_ok (tgt := 74) h0 kd_B_line_70 (by decide) ?_
    exact hb_74
  have hb_26 : wq_Snd p l e ({ frames := 7, cells := 6, slots := 36, locals := 101 } : Room) s m args below meth c 8 cs D kz_cl A (wq_G0 ad w) (wq_Q cs D kz_cl A (wq_G0 ad w) rt xt below s 6 36) 26 (kt_B_line_26 rt xt) := by
    refine wq_iconst_ok h0 kd_B_line_26 (by decide +kernel) ?_
    exact hb_27
  have hb_0 : wq_Snd p l e ({ frames := 7, cells := 6, slots := 36, locals := 101 } : Room) s m args below meth c 8 cs D kz_cl A (wq_G0 ad w) (wq_Q cs D kz_cl A (wq_G0 ad w) rt xt below s 6 36) 0 (kt_B_line_0 rt xt) := by
    refine wq_aload_n_ok h0 kd_B_line_0 rfl ?_
    refine wq_iload_n_ok h0 kd_B_line_1 rfl ?_
    refine wq_call_ok hA (wq_runV (ci := 0) ⟨h0.1, h0.2, hml, hown, hts⟩ (kv_B_isDeclaration hl) ⟨(wq_cB hts kw_G kw_711 kw_1 kw_708 ⟨by decide +kernel, by decide +kernel, by decide +kernel⟩ rfl rfl ⟨Nat.le_of_ble_eq_true rfl, Nat.le_of_ble_eq_true rfl⟩), hts _ kw_710, hts _ kw_s12⟩ rfl rfl hK hZ hN hA kd_B_line_2) (wq_xout_ok hnt hlk) ?_
    refine wq_if_eq_ok (tgt := 26) h0 kd_B_line_5 (by decide) ?_ ?_
    · exact hb_26
    refine wq_iload_n_ok h0 kd_B_line_8 rfl ?_
    refine wq_call_ok hA (wq_runS ⟨h0.1, h0.2, hml, hown, hts⟩ (kv_B_isGood hl) ⟨(wq_cB hts kw_G kw_531 kw_1 kw_529 ⟨by decide +kernel, by decide +kernel, by decide +kernel⟩ rfl rfl ⟨Nat.le_of_ble_eq_true rfl, Nat.le_of_ble_eq_true rfl⟩), hts _ kw_530⟩ hK hZ hN hA kd_B_line_9) (wq_xout_ok hnt hlk) ?_
    refine wq_if_eq_ok (tgt := 26) h0 kd_B_line_12 (by decide) ?_ ?_
    · exact hb_26
    refine wq_iload_n_ok h0 kd_B_line_15 rfl ?_
    refine wq_call_ok hA (wq_runS ⟨h0.1, h0.2, hml, hown, hts⟩ (kv_B_isLand hl) ⟨(wq_cB hts kw_G kw_575 kw_1 kw_573 ⟨by decide +kernel, by decide +kernel, by decide +kernel⟩ rfl rfl ⟨Nat.le_of_ble_eq_true rfl, Nat.le_of_ble_eq_true rfl⟩), hts _ kw_574⟩ hK hZ hN hA kd_B_line_16) (wq_xout_ok hnt hlk) ?_
    refine wq_if_eq_ok (tgt := 26) h0 kd_B_line_19 (by decide) ?_ ?_
    · exact hb_26
    refine wq_iconst_ok h0 kd_B_line_22 (by decide +kernel) ?_
    refine wq_goto_ok (tgt := 27) h0 kd_B_line_23 (by decide) ?_
    exact hb_27
  exact hb_0 _ _ _ _ _ (wq_sp_t hsp)
set_option maxRecDepth 100000 in
set_option maxHeartbeats 4000000 in
theorem kv_B_charge {l : Launch} (hl : l.stackTraces = false) : wq_Vld l kz_cl ky_B_charge kw_T ({ frames := 7, cells := 4, slots := 24, locals := 101 }) wq_G0 ks_B_charge 4 24 := by
  refine wq_method (cc := kc_B_charge) (maxL := 4) (ret := none) (by decide) kw_731 (fun _ _ => rfl) wq_sp_sz ?_
  intro p e s m args below meth c cs D ad as w rt xt hF hnt hsp
  obtain ⟨h0, hr, hts, hown, hlk, hnm, hml, hK, hZ, hN, hA⟩ := hF
  have hown : s.vm.findClass "BorderDesk" = some m.cls := hown
  obtain ⟨A, hAe⟩ : ∃ A, A = wq_A ad w s.heap.size := ⟨_, rfl⟩
  rw [← hAe] at hZ hA ⊢
  have hb_43 : wq_Snd p l e ({ frames := 7, cells := 4, slots := 24, locals := 101 } : Room) s m args below meth c 4 cs D kz_cl A (wq_G0 ad w) (wq_Q cs D kz_cl A (wq_G0 ad w) rt xt below s 4 24) 43 (kt_B_charge_43 rt xt) := by
    refine wq_call_ok hA (wq_runS ⟨h0.1, h0.2, hml, hown, hts⟩ (kv_B_requireState hl) ⟨(wq_cB hts kw_G kw_480 kw_1 kw_478 ⟨by decide +kernel, by decide +kernel, by decide +kernel⟩ rfl rfl ⟨Nat.le_of_ble_eq_true rfl, Nat.le_of_ble_eq_true rfl⟩), hts _ kw_479⟩ hK hZ hN hA kd_B_charge_43) (wq_xout_ok hnt hlk) ?_
    refine wq_aload_n_ok h0 kd_B_charge_46 rfl ?_
    refine wq_get_ok (wq_getOK h0 hts ki_B hown hK (ci := 0) rfl 4 (Nat.le_of_ble_eq_true rfl) kw_374 rfl) kd_B_charge_47 ?_
    refine wq_get_ok (wq_getOK h0 hts ki_D hown hK (ci := 5) rfl 4 (Nat.le_of_ble_eq_true rfl) kw_205 rfl) kd_B_charge_50 ?_
    refine wq_iload_n_ok h0 kd_B_charge_53 rfl ?_
    refine wq_aald_ok h0 hK kd_B_charge_54 ?_
    refine wq_iload_n_ok h0 kd_B_charge_55 rfl ?_
    refine wq_iload_n_ok h0 kd_B_charge_56 rfl ?_
    refine wq_iast_ok h0 hK kd_B_charge_57 ?_
    exact wq_vreturn_ok h0 hr hlk kd_B_charge_58
  have hb_42 : wq_Snd p l e ({ frames := 7, cells := 4, slots := 24, locals := 101 } : Room) s m args below meth c 4 cs D kz_cl A (wq_G0 ad w) (wq_Q cs D kz_cl A (wq_G0 ad w) rt xt below s 4 24) 42 (kt_B_charge_42 rt xt) := by
    refine wq_iconst_ok h0 kd_B_charge_42 (by decide +kernel) ?_
    exact hb_43
  have hb_0 : wq_Snd p l e ({ frames := 7, cells := 4, slots := 24, locals := 101 } : Room) s m args below meth c 4 cs D kz_cl A (wq_G0 ad w) (wq_Q cs D kz_cl A (wq_G0 ad w) rt xt below s 4 24) 0 (kt_B_charge_0 rt xt) := by
    refine wq_aload_n_ok h0 kd_B_charge_0 rfl ?_
    refine wq_iload_n_ok h0 kd_B_charge_1 rfl ?_
    refine wq_call_ok hA (wq_runV (ci := 0) ⟨h0.1, h0.2, hml, hown, hts⟩ (kv_B_isDeclaration hl) ⟨(wq_cB hts kw_G kw_711 kw_1 kw_708 ⟨by decide +kernel, by decide +kernel, by decide +kernel⟩ rfl rfl ⟨Nat.le_of_ble_eq_true rfl, Nat.le_of_ble_eq_true rfl⟩), hts _ kw_710, hts _ kw_s12⟩ rfl rfl hK hZ hN hA kd_B_charge_2) (wq_xout_ok hnt hlk) ?_
    refine wq_call_ok hA (wq_runS ⟨h0.1, h0.2, hml, hown, hts⟩ (kv_B_requireArgument hl) ⟨(wq_cB hts kw_G kw_413 kw_1 kw_411 ⟨by decide +kernel, by decide +kernel, by decide +kernel⟩ rfl rfl ⟨Nat.le_of_ble_eq_true rfl, Nat.le_of_ble_eq_true rfl⟩), hts _ kw_412⟩ hK hZ hN hA kd_B_charge_5) (wq_xout_ok hnt hlk) ?_
    refine wq_iload_n_ok h0 kd_B_charge_8 rfl ?_
    refine wq_iconst_ok h0 kd_B_charge_9 (by decide +kernel) ?_
    refine wq_call_ok hA (wq_runS ⟨h0.1, h0.2, hml, hown, hts⟩ (kv_B_isBelow hl) ⟨(wq_cB hts kw_G kw_410 kw_1 kw_408 ⟨by decide +kernel, by decide +kernel, by decide +kernel⟩ rfl rfl ⟨Nat.le_of_ble_eq_true rfl, Nat.le_of_ble_eq_true rfl⟩), hts _ kw_409⟩ hK hZ hN hA kd_B_charge_10) (wq_xout_ok hnt hlk) ?_
    refine wq_call_ok hA (wq_runS ⟨h0.1, h0.2, hml, hown, hts⟩ (kv_B_requireArgument hl) ⟨(wq_cB hts kw_G kw_413 kw_1 kw_411 ⟨by decide +kernel, by decide +kernel, by decide +kernel⟩ rfl rfl ⟨Nat.le_of_ble_eq_true rfl, Nat.le_of_ble_eq_true rfl⟩), hts _ kw_412⟩ hK hZ hN hA kd_B_charge_13) (wq_xout_ok hnt hlk) ?_
    refine wq_iload_n_ok h0 kd_B_charge_16 rfl ?_
    refine wq_iconst_ok h0 kd_B_charge_17 (by decide +kernel) ?_
    refine wq_ldc_ok (v := 10000000) h0 hown (hts _ kw_732) kd_B_charge_18 ?_
    refine wq_call_ok hA (wq_runS ⟨h0.1, h0.2, hml, hown, hts⟩ (kv_B_isWithin hl) ⟨(wq_cB hts kw_G kw_517 kw_1 kw_515 ⟨by decide +kernel, by decide +kernel, by decide +kernel⟩ rfl rfl ⟨Nat.le_of_ble_eq_true rfl, Nat.le_of_ble_eq_true rfl⟩), hts _ kw_516⟩ hK hZ hN hA kd_B_charge_20) (wq_xout_ok hnt hlk) ?_
    refine wq_call_ok hA (wq_runS ⟨h0.1, h0.2, hml, hown, hts⟩ (kv_B_requireArgument hl) ⟨(wq_cB hts kw_G kw_413 kw_1 kw_411 ⟨by decide +kernel, by decide +kernel, by decide +kernel⟩ rfl rfl ⟨Nat.le_of_ble_eq_true rfl, Nat.le_of_ble_eq_true rfl⟩), hts _ kw_412⟩ hK hZ hN hA kd_B_charge_23) (wq_xout_ok hnt hlk) ?_
    refine wq_aload_n_ok h0 kd_B_charge_26 rfl ?_
    refine wq_get_ok (wq_getOK h0 hts ki_B hown hK (ci := 0) rfl 4 (Nat.le_of_ble_eq_true rfl) kw_374 rfl) kd_B_charge_27 ?_
    refine wq_get_ok (wq_getOK h0 hts ki_D hown hK (ci := 5) rfl 5 (Nat.le_of_ble_eq_true rfl) kw_207 rfl) kd_B_charge_30 ?_
    refine wq_iload_n_ok h0 kd_B_charge_33 rfl ?_
    refine wq_zald_ok h0 hK kd_B_charge_34 ?_
    refine wq_if_ne_ok (tgt := 42) h0 kd_B_charge_35 (by decide) ?_ ?_
    · exact hb_42
    refine wq_iconst_ok h0 kd_B_charge_38 (by decide +kernel) ?_
    refine wq_goto_ok (tgt := 43) h0 kd_B_charge_39 (by decide) ?_
    exact hb_43
  exact hb_0 _ _ _ _ _ (wq_sp_t hsp)
set_option maxRecDepth 100000 in
set_option maxHeartbeats 4000000 in
theorem kv_B_lineOf {l : Launch} (hl : l.stackTraces = false) : wq_Vld l kz_cl ky_B_lineOf kw_T ({ frames := 7, cells := 3, slots := 18, locals := 146 }) wq_G0 ks_B_lineOf 3 18 := by
  refine wq_method (cc := kc_B_lineOf) (maxL := 5) (ret := (some .long)) (by decide) kw_740 (fun _ _ => rfl) wq_sp_sz ?_
  intro p e s m args below meth c cs D ad as w rt xt hF hnt hsp
  obtain ⟨h0, hr, hts, hown, hlk, hnm, hml, hK, hZ, hN, hA⟩ := hF
  have hown : s.vm.findClass "BorderDesk" = some m.cls := hown
  obtain ⟨A, hAe⟩ : ∃ A, A = wq_A ad w s.heap.size := ⟨_, rfl⟩
  rw [← hAe] at hZ hA ⊢
  have hb_127 : wq_Snd p l e ({ frames := 7, cells := 3, slots := 18, locals := 146 } : Room) s m args below meth c 5 cs D kz_cl A (wq_G0 ad w) (wq_Q cs D kz_cl A (wq_G0 ad w) rt xt below s 3 18) 127 (kt_B_lineOf_127 rt xt) := by
    exact wq_lreturn_ok h0 hr hlk kd_B_lineOf_127
  have hb_118 : wq_Snd p l e ({ frames := 7, cells := 3, slots := 18, locals := 146 } : Room) s m args below meth c 5 cs D kz_cl A (wq_G0 ad w) (wq_Q cs D kz_cl A (wq_G0 ad w) rt xt below s 3 18) 118 (kt_B_lineOf_118 rt xt) := by
    refine wq_aload_n_ok h0 kd_B_lineOf_118 rfl ?_
    refine wq_get_ok (wq_getOK h0 hts ki_B hown hK (ci := 0) rfl 5 (Nat.le_of_ble_eq_true rfl) kw_375 rfl) kd_B_lineOf_119 ?_
    refine wq_get_ok (wq_getOK h0 hts ki_A hown hK (ci := 6) rfl 5 (Nat.le_of_ble_eq_true rfl) kw_279 rfl) kd_B_lineOf_122 ?_
    refine wq_iload_n_ok h0 kd_B_lineOf_125 rfl ?_
    refine wq_lald_ok h0 hK kd_B_lineOf_126 ?_
    exact hb_127
  have hb_81 : wq_Snd p l e ({ frames := 7, cells := 3, slots := 18, locals := 146 } : Room) s m args below meth c 5 cs D kz_cl A (wq_G0 ad w) (wq_Q cs D kz_cl A (wq_G0 ad w) rt xt below s 3 18) 81 (kt_B_lineOf_81 rt xt) := by
    refine wq_aload_n_ok h0 kd_B_lineOf_81 rfl ?_
    refine wq_get_ok (wq_getOK h0 hts ki_B hown hK (ci := 0) rfl 5 (Nat.le_of_ble_eq_true rfl) kw_375 rfl) kd_B_lineOf_82 ?_
    refine wq_iload_n_ok h0 kd_B_lineOf_85 rfl ?_
    refine wq_call_ok hA (wq_runV (ci := 6) ⟨h0.1, h0.2, hml, hown, hts⟩ (kv_A_canAssess hl) ⟨(wq_cB hts kw_G kw_771 kw_7 kw_768 ⟨by decide +kernel, by decide +kernel, by decide +kernel⟩ rfl rfl ⟨Nat.le_of_ble_eq_true rfl, Nat.le_of_ble_eq_true rfl⟩), hts _ kw_769, hts _ kw_770⟩ rfl rfl hK hZ hN hA kd_B_lineOf_86) (wq_xout_ok hnt hlk) ?_
    refine wq_call_ok hA (wq_runS ⟨h0.1, h0.2, hml, hown, hts⟩ (kv_B_requireElement hl) ⟨(wq_cB hts kw_G kw_785 kw_1 kw_783 ⟨by decide +kernel, by decide +kernel, by decide +kernel⟩ rfl rfl ⟨Nat.le_of_ble_eq_true rfl, Nat.le_of_ble_eq_true rfl⟩), hts _ kw_784⟩ hK hZ hN hA kd_B_lineOf_89) (wq_xout_ok hnt hlk) ?_
    refine wq_aload_n_ok h0 kd_B_lineOf_92 rfl ?_
    refine wq_get_ok (wq_getOK h0 hts ki_B hown hK (ci := 0) rfl 5 (Nat.le_of_ble_eq_true rfl) kw_375 rfl) kd_B_lineOf_93 ?_
    refine wq_iload_n_ok h0 kd_B_lineOf_96 rfl ?_
    refine wq_call_ok hA (wq_runV (ci := 6) ⟨h0.1, h0.2, hml, hown, hts⟩ (kv_A_assess hl) ⟨(wq_cB hts kw_G kw_804 kw_7 kw_801 ⟨by decide +kernel, by decide +kernel, by decide +kernel⟩ rfl rfl ⟨Nat.le_of_ble_eq_true rfl, Nat.le_of_ble_eq_true rfl⟩), hts _ kw_802, hts _ kw_803⟩ rfl rfl hK hZ hN hA kd_B_lineOf_97) (wq_xout_ok hnt hlk) ?_
    refine wq_iload_n_ok h0 kd_B_lineOf_100 rfl ?_
    refine wq_iconst_ok h0 kd_B_lineOf_101 (by decide +kernel) ?_
    refine wq_icmp_ne_ok (tgt := 118) h0 kd_B_lineOf_102 (by decide) ?_ ?_
    · exact hb_118
    refine wq_aload_n_ok h0 kd_B_lineOf_105 rfl ?_
    refine wq_get_ok (wq_getOK h0 hts ki_B hown hK (ci := 0) rfl 5 (Nat.le_of_ble_eq_true rfl) kw_375 rfl) kd_B_lineOf_106 ?_
    refine wq_get_ok (wq_getOK h0 hts ki_A hown hK (ci := 6) rfl 4 (Nat.le_of_ble_eq_true rfl) kw_277 rfl) kd_B_lineOf_109 ?_
    refine wq_iload_n_ok h0 kd_B_lineOf_112 rfl ?_
    refine wq_iald_ok h0 hK kd_B_lineOf_113 ?_
    refine wq_i2l_ok h0 kd_B_lineOf_114 ?_
    refine wq_goto_ok (tgt := 127) h0 kd_B_lineOf_115 (by decide) ?_
    exact hb_127
  have hb_80 : wq_Snd p l e ({ frames := 7, cells := 3, slots := 18, locals := 146 } : Room) s m args below meth c 5 cs D kz_cl A (wq_G0 ad w) (wq_Q cs D kz_cl A (wq_G0 ad w) rt xt below s 3 18) 80 (kt_B_lineOf_80 rt xt) := by
    exact wq_lreturn_ok h0 hr hlk kd_B_lineOf_80
  have hb_70 : wq_Snd p l e ({ frames := 7, cells := 3, slots := 18, locals := 146 } : Room) s m args below meth c 5 cs D kz_cl A (wq_G0 ad w) (wq_Q cs D kz_cl A (wq_G0 ad w) rt xt below s 3 18) 70 (kt_B_lineOf_70 rt xt) := by
    refine wq_aload_n_ok h0 kd_B_lineOf_70 rfl ?_
    refine wq_get_ok (wq_getOK h0 hts ki_B hown hK (ci := 0) rfl 4 (Nat.le_of_ble_eq_true rfl) kw_374 rfl) kd_B_lineOf_71 ?_
    refine wq_get_ok (wq_getOK h0 hts ki_D hown hK (ci := 5) rfl 15 (Nat.le_of_ble_eq_true rfl) kw_231 rfl) kd_B_lineOf_74 ?_
    refine wq_iload_ok h0 kd_B_lineOf_77 ?_
    refine wq_lald_ok h0 hK kd_B_lineOf_79 ?_
    exact hb_80
  have hb_32 : wq_Snd p l e ({ frames := 7, cells := 3, slots := 18, locals := 146 } : Room) s m args below meth c 5 cs D kz_cl A (wq_G0 ad w) (wq_Q cs D kz_cl A (wq_G0 ad w) rt xt below s 3 18) 32 (kt_B_lineOf_32 rt xt) := by
    refine wq_aload_n_ok h0 kd_B_lineOf_32 rfl ?_
    refine wq_get_ok (wq_getOK h0 hts ki_B hown hK (ci := 0) rfl 4 (Nat.le_of_ble_eq_true rfl) kw_374 rfl) kd_B_lineOf_33 ?_
    refine wq_get_ok (wq_getOK h0 hts ki_D hown hK (ci := 5) rfl 5 (Nat.le_of_ble_eq_true rfl) kw_207 rfl) kd_B_lineOf_36 ?_
    refine wq_iload_n_ok h0 kd_B_lineOf_39 rfl ?_
    refine wq_zald_ok h0 hK kd_B_lineOf_40 ?_
    refine wq_if_eq_ok (tgt := 81) h0 kd_B_lineOf_41 (by decide) ?_ ?_
    · exact hb_81
    refine wq_iload_n_ok h0 kd_B_lineOf_44 rfl ?_
    refine wq_iload_n_ok h0 kd_B_lineOf_45 rfl ?_
    refine wq_call_ok hA (wq_runS ⟨h0.1, h0.2, hml, hown, hts⟩ (kv_D_rowOf hl) ⟨(wq_cB hts kw_G kw_724 kw_6 kw_767 ⟨by decide +kernel, by decide +kernel, by decide +kernel⟩ rfl rfl ⟨Nat.le_of_ble_eq_true rfl, Nat.le_of_ble_eq_true rfl⟩), hts _ kw_723⟩ hK hZ hN hA kd_B_lineOf_46) (wq_xout_ok hnt hlk) ?_
    refine wq_istore_ok h0 kd_B_lineOf_49 (Nat.le_of_ble_eq_true rfl) ?_
    refine wq_iload_n_ok h0 kd_B_lineOf_51 rfl ?_
    refine wq_iconst_ok h0 kd_B_lineOf_52 (by decide +kernel) ?_
    refine wq_icmp_ne_ok (tgt := 70) h0 kd_B_lineOf_53 (by decide) ?_ ?_
    · exact hb_70
    refine wq_aload_n_ok h0 kd_B_lineOf_56 rfl ?_
    refine wq_get_ok (wq_getOK h0 hts ki_B hown hK (ci := 0) rfl 4 (Nat.le_of_ble_eq_true rfl) kw_374 rfl) kd_B_lineOf_57 ?_
    refine wq_get_ok (wq_getOK h0 hts ki_D hown hK (ci := 5) rfl 14 (Nat.le_of_ble_eq_true rfl) kw_228 rfl) kd_B_lineOf_60 ?_
    refine wq_iload_ok h0 kd_B_lineOf_63 ?_
    refine wq_iald_ok h0 hK kd_B_lineOf_65 ?_
    refine wq_i2l_ok h0 kd_B_lineOf_66 ?_
    refine wq_goto_ok (tgt := 80) h0 kd_B_lineOf_67 (by decide) ?_
    exact hb_80
  have hb_0 : wq_Snd p l e ({ frames := 7, cells := 3, slots := 18, locals := 146 } : Room) s m args below meth c 5 cs D kz_cl A (wq_G0 ad w) (wq_Q cs D kz_cl A (wq_G0 ad w) rt xt below s 3 18) 0 (kt_B_lineOf_0 rt xt) := by
    refine wq_aload_n_ok h0 kd_B_lineOf_0 rfl ?_
    refine wq_iload_n_ok h0 kd_B_lineOf_1 rfl ?_
    refine wq_iload_n_ok h0 kd_B_lineOf_2 rfl ?_
    refine wq_call_ok hA (wq_runV (ci := 0) ⟨h0.1, h0.2, hml, hown, hts⟩ (kv_B_isLine hl) ⟨(wq_cB hts kw_G kw_744 kw_1 kw_741 ⟨by decide +kernel, by decide +kernel, by decide +kernel⟩ rfl rfl ⟨Nat.le_of_ble_eq_true rfl, Nat.le_of_ble_eq_true rfl⟩), hts _ kw_743, hts _ kw_s13⟩ rfl rfl hK hZ hN hA kd_B_lineOf_3) (wq_xout_ok hnt hlk) ?_
    refine wq_call_ok hA (wq_runS ⟨h0.1, h0.2, hml, hown, hts⟩ (kv_B_requireArgument hl) ⟨(wq_cB hts kw_G kw_413 kw_1 kw_411 ⟨by decide +kernel, by decide +kernel, by decide +kernel⟩ rfl rfl ⟨Nat.le_of_ble_eq_true rfl, Nat.le_of_ble_eq_true rfl⟩), hts _ kw_412⟩ hK hZ hN hA kd_B_lineOf_6) (wq_xout_ok hnt hlk) ?_
    refine wq_iload_n_ok h0 kd_B_lineOf_9 rfl ?_
    refine wq_iconst_ok h0 kd_B_lineOf_10 (by decide +kernel) ?_
    refine wq_iconst_ok h0 kd_B_lineOf_11 (by decide +kernel) ?_
    refine wq_call_ok hA (wq_runS ⟨h0.1, h0.2, hml, hown, hts⟩ (kv_B_isWithin hl) ⟨(wq_cB hts kw_G kw_517 kw_1 kw_515 ⟨by decide +kernel, by decide +kernel, by decide +kernel⟩ rfl rfl ⟨Nat.le_of_ble_eq_true rfl, Nat.le_of_ble_eq_true rfl⟩), hts _ kw_516⟩ hK hZ hN hA kd_B_lineOf_12) (wq_xout_ok hnt hlk) ?_
    refine wq_call_ok hA (wq_runS ⟨h0.1, h0.2, hml, hown, hts⟩ (kv_B_requireArgument hl) ⟨(wq_cB hts kw_G kw_413 kw_1 kw_411 ⟨by decide +kernel, by decide +kernel, by decide +kernel⟩ rfl rfl ⟨Nat.le_of_ble_eq_true rfl, Nat.le_of_ble_eq_true rfl⟩), hts _ kw_412⟩ hK hZ hN hA kd_B_lineOf_15) (wq_xout_ok hnt hlk) ?_
    refine wq_iload_n_ok h0 kd_B_lineOf_18 rfl ?_
    refine wq_if_ne_ok (tgt := 32) h0 kd_B_lineOf_19 (by decide) ?_ ?_
    · exact hb_32
    refine wq_aload_n_ok h0 kd_B_lineOf_22 rfl ?_
    refine wq_get_ok (wq_getOK h0 hts ki_B hown hK (ci := 0) rfl 5 (Nat.le_of_ble_eq_true rfl) kw_375 rfl) kd_B_lineOf_23 ?_
    refine wq_iload_n_ok h0 kd_B_lineOf_26 rfl ?_
    refine wq_iload_n_ok h0 kd_B_lineOf_27 rfl ?_
    refine wq_call_ok hA (wq_runV (ci := 6) ⟨h0.1, h0.2, hml, hown, hts⟩ (kv_A_valueOf hl) ⟨(wq_cB hts kw_G kw_748 kw_7 kw_745 ⟨by decide +kernel, by decide +kernel, by decide +kernel⟩ rfl rfl ⟨Nat.le_of_ble_eq_true rfl, Nat.le_of_ble_eq_true rfl⟩), hts _ kw_746, hts _ kw_747⟩ rfl rfl hK hZ hN hA kd_B_lineOf_28) (wq_xout_ok hnt hlk) ?_
    exact wq_lreturn_ok h0 hr hlk kd_B_lineOf_31
  exact hb_0 _ _ _ _ _ (wq_sp_t hsp)
set_option maxRecDepth 100000 in
set_option maxHeartbeats 4000000 in
theorem kv_B_accept {l : Launch} (hl : l.stackTraces = false) : wq_Vld l kz_cl ky_B_accept kw_T ({ frames := 7, cells := 5, slots := 30, locals := 146 }) wq_G0 ks_B_accept 5 30 := by
  refine wq_method (cc := kc_B_accept) (maxL := 2) (ret := (some .long)) (by decide) kw_847 (fun _ _ => rfl) wq_sp_sz ?_
  intro p e s m args below meth c cs D ad as w rt xt hF hnt hsp
  obtain ⟨h0, hr, hts, hown, hlk, hnm, hml, hK, hZ, hN, hA⟩ := hF
  have hown : s.vm.findClass "BorderDesk" = some m.cls := hown
  obtain ⟨A, hAe⟩ : ∃ A, A = wq_A ad w s.heap.size := ⟨_, rfl⟩
  rw [← hAe] at hZ hA ⊢
  have hb_44 : wq_Snd p l e ({ frames := 7, cells := 5, slots := 30, locals := 146 } : Room) s m args below meth c 2 cs D kz_cl A (wq_G0 ad w) (wq_Q cs D kz_cl A (wq_G0 ad w) rt xt below s 5 30) 44 (kt_B_accept_44 rt xt) := by
    refine wq_call_ok hA (wq_runS ⟨h0.1, h0.2, hml, hown, hts⟩ (kv_B_requireState hl) ⟨(wq_cB hts kw_G kw_480 kw_1 kw_478 ⟨by decide +kernel, by decide +kernel, by decide +kernel⟩ rfl rfl ⟨Nat.le_of_ble_eq_true rfl, Nat.le_of_ble_eq_true rfl⟩), hts _ kw_479⟩ hK hZ hN hA kd_B_accept_44) (wq_xout_ok hnt hlk) ?_
    refine wq_aload_n_ok h0 kd_B_accept_47 rfl ?_
    refine wq_get_ok (wq_getOK h0 hts ki_B hown hK (ci := 0) rfl 5 (Nat.le_of_ble_eq_true rfl) kw_375 rfl) kd_B_accept_48 ?_
    refine wq_iload_n_ok h0 kd_B_accept_51 rfl ?_
    refine wq_call_ok hA (wq_runV (ci := 6) ⟨h0.1, h0.2, hml, hown, hts⟩ (kv_A_canAssess hl) ⟨(wq_cB hts kw_G kw_771 kw_7 kw_768 ⟨by decide +kernel, by decide +kernel, by decide +kernel⟩ rfl rfl ⟨Nat.le_of_ble_eq_true rfl, Nat.le_of_ble_eq_true rfl⟩), hts _ kw_769, hts _ kw_770⟩ rfl rfl hK hZ hN hA kd_B_accept_52) (wq_xout_ok hnt hlk) ?_
    refine wq_call_ok hA (wq_runS ⟨h0.1, h0.2, hml, hown, hts⟩ (kv_B_requireElement hl) ⟨(wq_cB hts kw_G kw_785 kw_1 kw_783 ⟨by decide +kernel, by decide +kernel, by decide +kernel⟩ rfl rfl ⟨Nat.le_of_ble_eq_true rfl, Nat.le_of_ble_eq_true rfl⟩), hts _ kw_784⟩ hK hZ hN hA kd_B_accept_55) (wq_xout_ok hnt hlk) ?_
    refine wq_aload_n_ok h0 kd_B_accept_58 rfl ?_
    refine wq_get_ok (wq_getOK h0 hts ki_B hown hK (ci := 0) rfl 6 (Nat.le_of_ble_eq_true rfl) kw_376 rfl) kd_B_accept_59 ?_
    refine wq_get_ok (wq_getOK h0 hts ki_L hown hK (ci := 7) rfl 0 (Nat.le_of_ble_eq_true rfl) kw_318 rfl) kd_B_accept_62 ?_
    refine wq_aload_n_ok h0 kd_B_accept_65 rfl ?_
    refine wq_get_ok (wq_getOK h0 hts ki_B hown hK (ci := 0) rfl 4 (Nat.le_of_ble_eq_true rfl) kw_374 rfl) kd_B_accept_66 ?_
    refine wq_get_ok (wq_getOK h0 hts ki_D hown hK (ci := 5) rfl 3 (Nat.le_of_ble_eq_true rfl) kw_202 rfl) kd_B_accept_69 ?_
    refine wq_iload_n_ok h0 kd_B_accept_72 rfl ?_
    refine wq_iald_ok h0 hK kd_B_accept_73 ?_
    refine wq_iadd_ok h0 kd_B_accept_74 ?_
    refine wq_call_ok hA (wq_runS ⟨h0.1, h0.2, hml, hown, hts⟩ (kv_B_requireRoom hl) ⟨(wq_cB hts kw_G kw_858 kw_1 kw_856 ⟨by decide +kernel, by decide +kernel, by decide +kernel⟩ rfl rfl ⟨Nat.le_of_ble_eq_true rfl, Nat.le_of_ble_eq_true rfl⟩), hts _ kw_857⟩ hK hZ hN hA kd_B_accept_75) (wq_xout_ok hnt hlk) ?_
    refine wq_aload_n_ok h0 kd_B_accept_78 rfl ?_
    refine wq_get_ok (wq_getOK h0 hts ki_B hown hK (ci := 0) rfl 5 (Nat.le_of_ble_eq_true rfl) kw_375 rfl) kd_B_accept_79 ?_
    refine wq_iload_n_ok h0 kd_B_accept_82 rfl ?_
    refine wq_call_ok hA (wq_runV (ci := 6) ⟨h0.1, h0.2, hml, hown, hts⟩ (kv_A_assess hl) ⟨(wq_cB hts kw_G kw_804 kw_7 kw_801 ⟨by decide +kernel, by decide +kernel, by decide +kernel⟩ rfl rfl ⟨Nat.le_of_ble_eq_true rfl, Nat.le_of_ble_eq_true rfl⟩), hts _ kw_802, hts _ kw_803⟩ rfl rfl hK hZ hN hA kd_B_accept_83) (wq_xout_ok hnt hlk) ?_
    refine wq_aload_n_ok h0 kd_B_accept_86 rfl ?_
    refine wq_get_ok (wq_getOK h0 hts ki_B hown hK (ci := 0) rfl 5 (Nat.le_of_ble_eq_true rfl) kw_375 rfl) kd_B_accept_87 ?_
    refine wq_iload_n_ok h0 kd_B_accept_90 rfl ?_
    refine wq_call_ok hA (wq_runV (ci := 6) ⟨h0.1, h0.2, hml, hown, hts⟩ (kv_A_book hl) ⟨(wq_cB hts kw_G kw_877 kw_7 kw_874 ⟨by decide +kernel, by decide +kernel, by decide +kernel⟩ rfl rfl ⟨Nat.le_of_ble_eq_true rfl, Nat.le_of_ble_eq_true rfl⟩), hts _ kw_875, hts _ kw_876⟩ rfl rfl hK hZ hN hA kd_B_accept_91) (wq_xout_ok hnt hlk) ?_
    refine wq_aload_n_ok h0 kd_B_accept_94 rfl ?_
    refine wq_get_ok (wq_getOK h0 hts ki_B hown hK (ci := 0) rfl 4 (Nat.le_of_ble_eq_true rfl) kw_374 rfl) kd_B_accept_95 ?_
    refine wq_get_ok (wq_getOK h0 hts ki_D hown hK (ci := 5) rfl 5 (Nat.le_of_ble_eq_true rfl) kw_207 rfl) kd_B_accept_98 ?_
    refine wq_iload_n_ok h0 kd_B_accept_101 rfl ?_
    refine wq_iconst_ok h0 kd_B_accept_102 (by decide +kernel) ?_
    refine wq_zast_ok h0 hK kd_B_accept_103 ?_
    refine wq_aload_n_ok h0 kd_B_accept_104 rfl ?_
    refine wq_iload_n_ok h0 kd_B_accept_105 rfl ?_
    refine wq_call_ok hA (wq_runV (ci := 0) ⟨h0.1, h0.2, hml, hown, hts⟩ (kv_B_makeLots hl) ⟨(wq_cB hts kw_G kw_881 kw_1 kw_878 ⟨by decide +kernel, by decide +kernel, by decide +kernel⟩ rfl rfl ⟨Nat.le_of_ble_eq_true rfl, Nat.le_of_ble_eq_true rfl⟩), hts _ kw_880, hts _ kw_s23⟩ rfl rfl hK hZ hN hA kd_B_accept_106) (wq_xout_ok hnt hlk) ?_
    refine wq_aload_n_ok h0 kd_B_accept_109 rfl ?_
    refine wq_get_ok (wq_getOK h0 hts ki_B hown hK (ci := 0) rfl 4 (Nat.le_of_ble_eq_true rfl) kw_374 rfl) kd_B_accept_110 ?_
    refine wq_iload_n_ok h0 kd_B_accept_113 rfl ?_
    refine wq_call_ok hA (wq_runV (ci := 5) ⟨h0.1, h0.2, hml, hown, hts⟩ (kv_D_dutyOfAll hl) ⟨(wq_cB hts kw_G kw_889 kw_6 kw_886 ⟨by decide +kernel, by decide +kernel, by decide +kernel⟩ rfl rfl ⟨Nat.le_of_ble_eq_true rfl, Nat.le_of_ble_eq_true rfl⟩), hts _ kw_887, hts _ kw_888⟩ rfl rfl hK hZ hN hA kd_B_accept_114) (wq_xout_ok hnt hlk) ?_
    exact wq_lreturn_ok h0 hr hlk kd_B_accept_117
  have hb_43 : wq_Snd p l e ({ frames := 7, cells := 5, slots := 30, locals := 146 } : Room) s m args below meth c 2 cs D kz_cl A (wq_G0 ad w) (wq_Q cs D kz_cl A (wq_G0 ad w) rt xt below s 5 30) 43 (kt_B_accept_43 rt xt) := by
    refine wq_iconst_ok h0 kd_B_accept_43 (by decide +kernel) ?_
    exact hb_44
  have hb_25 : wq_Snd p l e ({ frames := 7, cells := 5, slots := 30, locals := 146 } : Room) s m args below meth c 2 cs D kz_cl A (wq_G0 ad w) (wq_Q cs D kz_cl A (wq_G0 ad w) rt xt below s 5 30) 25 (kt_B_accept_25 rt xt) := by
    refine wq_call_ok hA (wq_runS ⟨h0.1, h0.2, hml, hown, hts⟩ (kv_B_requireState hl) ⟨(wq_cB hts kw_G kw_480 kw_1 kw_478 ⟨by decide +kernel, by decide +kernel, by decide +kernel⟩ rfl rfl ⟨Nat.le_of_ble_eq_true rfl, Nat.le_of_ble_eq_true rfl⟩), hts _ kw_479⟩ hK hZ hN hA kd_B_accept_25) (wq_xout_ok hnt hlk) ?_
    refine wq_aload_n_ok h0 kd_B_accept_28 rfl ?_
    refine wq_get_ok (wq_getOK h0 hts ki_B hown hK (ci := 0) rfl 4 (Nat.le_of_ble_eq_true rfl) kw_374 rfl) kd_B_accept_29 ?_
    refine wq_iload_n_ok h0 kd_B_accept_32 rfl ?_
    refine wq_call_ok hA (wq_runV (ci := 5) ⟨h0.1, h0.2, hml, hown, hts⟩ (kv_D_isLaterAccepted hl) ⟨(wq_cB hts kw_G kw_851 kw_6 kw_848 ⟨by decide +kernel, by decide +kernel, by decide +kernel⟩ rfl rfl ⟨Nat.le_of_ble_eq_true rfl, Nat.le_of_ble_eq_true rfl⟩), hts _ kw_849, hts _ kw_850⟩ rfl rfl hK hZ hN hA kd_B_accept_33) (wq_xout_ok hnt hlk) ?_
    refine wq_if_ne_ok (tgt := 43) h0 kd_B_accept_36 (by decide) ?_ ?_
    · exact hb_43
    refine wq_iconst_ok h0 kd_B_accept_39 (by decide +kernel) ?_
    refine wq_goto_ok (tgt := 44) h0 kd_B_accept_40 (by decide) ?_
    exact hb_44
  have hb_24 : wq_Snd p l e ({ frames := 7, cells := 5, slots := 30, locals := 146 } : Room) s m args below meth c 2 cs D kz_cl A (wq_G0 ad w) (wq_Q cs D kz_cl A (wq_G0 ad w) rt xt below s 5 30) 24 (kt_B_accept_24 rt xt) := by
    refine wq_iconst_ok h0 kd_B_accept_24 (by decide +kernel) ?_
    exact hb_25
  have hb_0 : wq_Snd p l e ({ frames := 7, cells := 5, slots := 30, locals := 146 } : Room) s m args below meth c 2 cs D kz_cl A (wq_G0 ad w) (wq_Q cs D kz_cl A (wq_G0 ad w) rt xt below s 5 30) 0 (kt_B_accept_0 rt xt) := by
    refine wq_aload_n_ok h0 kd_B_accept_0 rfl ?_
    refine wq_iload_n_ok h0 kd_B_accept_1 rfl ?_
    refine wq_call_ok hA (wq_runV (ci := 0) ⟨h0.1, h0.2, hml, hown, hts⟩ (kv_B_isDeclaration hl) ⟨(wq_cB hts kw_G kw_711 kw_1 kw_708 ⟨by decide +kernel, by decide +kernel, by decide +kernel⟩ rfl rfl ⟨Nat.le_of_ble_eq_true rfl, Nat.le_of_ble_eq_true rfl⟩), hts _ kw_710, hts _ kw_s12⟩ rfl rfl hK hZ hN hA kd_B_accept_2) (wq_xout_ok hnt hlk) ?_
    refine wq_call_ok hA (wq_runS ⟨h0.1, h0.2, hml, hown, hts⟩ (kv_B_requireArgument hl) ⟨(wq_cB hts kw_G kw_413 kw_1 kw_411 ⟨by decide +kernel, by decide +kernel, by decide +kernel⟩ rfl rfl ⟨Nat.le_of_ble_eq_true rfl, Nat.le_of_ble_eq_true rfl⟩), hts _ kw_412⟩ hK hZ hN hA kd_B_accept_5) (wq_xout_ok hnt hlk) ?_
    refine wq_aload_n_ok h0 kd_B_accept_8 rfl ?_
    refine wq_get_ok (wq_getOK h0 hts ki_B hown hK (ci := 0) rfl 4 (Nat.le_of_ble_eq_true rfl) kw_374 rfl) kd_B_accept_9 ?_
    refine wq_get_ok (wq_getOK h0 hts ki_D hown hK (ci := 5) rfl 5 (Nat.le_of_ble_eq_true rfl) kw_207 rfl) kd_B_accept_12 ?_
    refine wq_iload_n_ok h0 kd_B_accept_15 rfl ?_
    refine wq_zald_ok h0 hK kd_B_accept_16 ?_
    refine wq_if_ne_ok (tgt := 24) h0 kd_B_accept_17 (by decide) ?_ ?_
    · exact hb_24
    refine wq_iconst_ok h0 kd_B_accept_20 (by decide +kernel) ?_
    refine wq_goto_ok (tgt := 25) h0 kd_B_accept_21 (by decide) ?_
    exact hb_25
  exact hb_0 _ _ _ _ _ (wq_sp_t hsp)
set_option maxRecDepth 100000 in
set_option maxHeartbeats 4000000 in
theorem kv_B_amend {l : Launch} (hl : l.stackTraces = false) : wq_Vld l kz_cl ky_B_amend kw_T ({ frames := 7, cells := 5, slots := 30, locals := 147 }) wq_G0 ks_B_amend 5 30 := by
  refine wq_method (cc := kc_B_amend) (maxL := 7) (ret := (some .long)) (by decide) kw_896 (fun _ _ => rfl) wq_sp_sz ?_
  intro p e s m args below meth c cs D ad as w rt xt hF hnt hsp
  obtain ⟨h0, hr, hts, hown, hlk, hnm, hml, hK, hZ, hN, hA⟩ := hF
  have hown : s.vm.findClass "BorderDesk" = some m.cls := hown
  obtain ⟨A, hAe⟩ : ∃ A, A = wq_A ad w s.heap.size := ⟨_, rfl⟩
  rw [← hAe] at hZ hA ⊢
  have hb_43 : wq_Snd p l e ({ frames := 7, cells := 5, slots := 30, locals := 147 } : Room) s m args below meth c 7 cs D kz_cl A (wq_G0 ad w) (wq_Q cs D kz_cl A (wq_G0 ad w) rt xt below s 5 30) 43 (kt_B_amend_43 rt xt) := by
    refine wq_call_ok hA (wq_runS ⟨h0.1, h0.2, hml, hown, hts⟩ (kv_B_requireState hl) ⟨(wq_cB hts kw_G kw_480 kw_1 kw_478 ⟨by decide +kernel, by decide +kernel, by decide +kernel⟩ rfl rfl ⟨Nat.le_of_ble_eq_true rfl, Nat.le_of_ble_eq_true rfl⟩), hts _ kw_479⟩ hK hZ hN hA kd_B_amend_43) (wq_xout_ok hnt hlk) ?_
    refine wq_aload_n_ok h0 kd_B_amend_46 rfl ?_
    refine wq_get_ok (wq_getOK h0 hts ki_B hown hK (ci := 0) rfl 5 (Nat.le_of_ble_eq_true rfl) kw_375 rfl) kd_B_amend_47 ?_
    refine wq_iload_n_ok h0 kd_B_amend_50 rfl ?_
    refine wq_call_ok hA (wq_runV (ci := 6) ⟨h0.1, h0.2, hml, hown, hts⟩ (kv_A_canAssess hl) ⟨(wq_cB hts kw_G kw_771 kw_7 kw_768 ⟨by decide +kernel, by decide +kernel, by decide +kernel⟩ rfl rfl ⟨Nat.le_of_ble_eq_true rfl, Nat.le_of_ble_eq_true rfl⟩), hts _ kw_769, hts _ kw_770⟩ rfl rfl hK hZ hN hA kd_B_amend_51) (wq_xout_ok hnt hlk) ?_
    refine wq_call_ok hA (wq_runS ⟨h0.1, h0.2, hml, hown, hts⟩ (kv_B_requireElement hl) ⟨(wq_cB hts kw_G kw_785 kw_1 kw_783 ⟨by decide +kernel, by decide +kernel, by decide +kernel⟩ rfl rfl ⟨Nat.le_of_ble_eq_true rfl, Nat.le_of_ble_eq_true rfl⟩), hts _ kw_784⟩ hK hZ hN hA kd_B_amend_54) (wq_xout_ok hnt hlk) ?_
    refine wq_aload_n_ok h0 kd_B_amend_57 rfl ?_
    refine wq_get_ok (wq_getOK h0 hts ki_B hown hK (ci := 0) rfl 4 (Nat.le_of_ble_eq_true rfl) kw_374 rfl) kd_B_amend_58 ?_
    refine wq_iload_n_ok h0 kd_B_amend_61 rfl ?_
    refine wq_call_ok hA (wq_runV (ci := 5) ⟨h0.1, h0.2, hml, hown, hts⟩ (kv_D_dutyOfAll hl) ⟨(wq_cB hts kw_G kw_889 kw_6 kw_886 ⟨by decide +kernel, by decide +kernel, by decide +kernel⟩ rfl rfl ⟨Nat.le_of_ble_eq_true rfl, Nat.le_of_ble_eq_true rfl⟩), hts _ kw_887, hts _ kw_888⟩ rfl rfl hK hZ hN hA kd_B_amend_62) (wq_xout_ok hnt hlk) ?_
    refine wq_lstore_ok h0 kd_B_amend_65 (Nat.le_of_ble_eq_true rfl) ?_
    refine wq_aload_n_ok h0 kd_B_amend_67 rfl ?_
    refine wq_get_ok (wq_getOK h0 hts ki_B hown hK (ci := 0) rfl 4 (Nat.le_of_ble_eq_true rfl) kw_374 rfl) kd_B_amend_68 ?_
    refine wq_iload_n_ok h0 kd_B_amend_71 rfl ?_
    refine wq_iload_n_ok h0 kd_B_amend_72 rfl ?_
    refine wq_call_ok hA (wq_runS ⟨h0.1, h0.2, hml, hown, hts⟩ (kv_D_rowOf hl) ⟨(wq_cB hts kw_G kw_724 kw_6 kw_767 ⟨by decide +kernel, by decide +kernel, by decide +kernel⟩ rfl rfl ⟨Nat.le_of_ble_eq_true rfl, Nat.le_of_ble_eq_true rfl⟩), hts _ kw_723⟩ hK hZ hN hA kd_B_amend_73) (wq_xout_ok hnt hlk) ?_
    refine wq_iload_n_ok h0 kd_B_amend_76 rfl ?_
    refine wq_iload_ok h0 kd_B_amend_77 ?_
    refine wq_call_ok hA (wq_runV (ci := 5) ⟨h0.1, h0.2, hml, hown, hts⟩ (kv_D_setField hl) ⟨(wq_cB hts kw_G kw_904 kw_6 kw_901 ⟨by decide +kernel, by decide +kernel, by decide +kernel⟩ rfl rfl ⟨Nat.le_of_ble_eq_true rfl, Nat.le_of_ble_eq_true rfl⟩), hts _ kw_902, hts _ kw_903⟩ rfl rfl hK hZ hN hA kd_B_amend_79) (wq_xout_ok hnt hlk) ?_
    refine wq_aload_n_ok h0 kd_B_amend_82 rfl ?_
    refine wq_get_ok (wq_getOK h0 hts ki_B hown hK (ci := 0) rfl 5 (Nat.le_of_ble_eq_true rfl) kw_375 rfl) kd_B_amend_83 ?_
    refine wq_iload_n_ok h0 kd_B_amend_86 rfl ?_
    refine wq_call_ok hA (wq_runV (ci := 6) ⟨h0.1, h0.2, hml, hown, hts⟩ (kv_A_assessAnew hl) ⟨(wq_cB hts kw_G kw_908 kw_7 kw_905 ⟨by decide +kernel, by decide +kernel, by decide +kernel⟩ rfl rfl ⟨Nat.le_of_ble_eq_true rfl, Nat.le_of_ble_eq_true rfl⟩), hts _ kw_906, hts _ kw_907⟩ rfl rfl hK hZ hN hA kd_B_amend_87) (wq_xout_ok hnt hlk) ?_
    refine wq_aload_n_ok h0 kd_B_amend_90 rfl ?_
    refine wq_get_ok (wq_getOK h0 hts ki_B hown hK (ci := 0) rfl 5 (Nat.le_of_ble_eq_true rfl) kw_375 rfl) kd_B_amend_91 ?_
    refine wq_iload_n_ok h0 kd_B_amend_94 rfl ?_
    refine wq_call_ok hA (wq_runV (ci := 6) ⟨h0.1, h0.2, hml, hown, hts⟩ (kv_A_book hl) ⟨(wq_cB hts kw_G kw_877 kw_7 kw_874 ⟨by decide +kernel, by decide +kernel, by decide +kernel⟩ rfl rfl ⟨Nat.le_of_ble_eq_true rfl, Nat.le_of_ble_eq_true rfl⟩), hts _ kw_875, hts _ kw_876⟩ rfl rfl hK hZ hN hA kd_B_amend_95) (wq_xout_ok hnt hlk) ?_
    refine wq_aload_n_ok h0 kd_B_amend_98 rfl ?_
    refine wq_iload_n_ok h0 kd_B_amend_99 rfl ?_
    refine wq_call_ok hA (wq_runV (ci := 0) ⟨h0.1, h0.2, hml, hown, hts⟩ (kv_B_changeLots hl) ⟨(wq_cB hts kw_G kw_916 kw_1 kw_913 ⟨by decide +kernel, by decide +kernel, by decide +kernel⟩ rfl rfl ⟨Nat.le_of_ble_eq_true rfl, Nat.le_of_ble_eq_true rfl⟩), hts _ kw_915, hts _ kw_s26⟩ rfl rfl hK hZ hN hA kd_B_amend_100) (wq_xout_ok hnt hlk) ?_
    refine wq_aload_n_ok h0 kd_B_amend_103 rfl ?_
    refine wq_get_ok (wq_getOK h0 hts ki_B hown hK (ci := 0) rfl 4 (Nat.le_of_ble_eq_true rfl) kw_374 rfl) kd_B_amend_104 ?_
    refine wq_iload_n_ok h0 kd_B_amend_107 rfl ?_
    refine wq_call_ok hA (wq_runV (ci := 5) ⟨h0.1, h0.2, hml, hown, hts⟩ (kv_D_dutyOfAll hl) ⟨(wq_cB hts kw_G kw_889 kw_6 kw_886 ⟨by decide +kernel, by decide +kernel, by decide +kernel⟩ rfl rfl ⟨Nat.le_of_ble_eq_true rfl, Nat.le_of_ble_eq_true rfl⟩), hts _ kw_887, hts _ kw_888⟩ rfl rfl hK hZ hN hA kd_B_amend_108) (wq_xout_ok hnt hlk) ?_
    refine wq_lload_ok h0 kd_B_amend_111 ?_
    refine wq_lsub_ok h0 kd_B_amend_113 ?_
    exact wq_lreturn_ok h0 hr hlk kd_B_amend_114
  have hb_42 : wq_Snd p l e ({ frames := 7, cells := 5, slots := 30, locals := 147 } : Room) s m args below meth c 7 cs D kz_cl A (wq_G0 ad w) (wq_Q cs D kz_cl A (wq_G0 ad w) rt xt below s 5 30) 42 (kt_B_amend_42 rt xt) := by
    refine wq_iconst_ok h0 kd_B_amend_42 (by decide +kernel) ?_
    exact hb_43
  have hb_0 : wq_Snd p l e ({ frames := 7, cells := 5, slots := 30, locals := 147 } : Room) s m args below meth c 7 cs D kz_cl A (wq_G0 ad w) (wq_Q cs D kz_cl A (wq_G0 ad w) rt xt below s 5 30) 0 (kt_B_amend_0 rt xt) := by
    refine wq_aload_n_ok h0 kd_B_amend_0 rfl ?_
    refine wq_iload_n_ok h0 kd_B_amend_1 rfl ?_
    refine wq_iload_n_ok h0 kd_B_amend_2 rfl ?_
    refine wq_call_ok hA (wq_runV (ci := 0) ⟨h0.1, h0.2, hml, hown, hts⟩ (kv_B_isLine hl) ⟨(wq_cB hts kw_G kw_744 kw_1 kw_741 ⟨by decide +kernel, by decide +kernel, by decide +kernel⟩ rfl rfl ⟨Nat.le_of_ble_eq_true rfl, Nat.le_of_ble_eq_true rfl⟩), hts _ kw_743, hts _ kw_s13⟩ rfl rfl hK hZ hN hA kd_B_amend_3) (wq_xout_ok hnt hlk) ?_
    refine wq_call_ok hA (wq_runS ⟨h0.1, h0.2, hml, hown, hts⟩ (kv_B_requireArgument hl) ⟨(wq_cB hts kw_G kw_413 kw_1 kw_411 ⟨by decide +kernel, by decide +kernel, by decide +kernel⟩ rfl rfl ⟨Nat.le_of_ble_eq_true rfl, Nat.le_of_ble_eq_true rfl⟩), hts _ kw_412⟩ hK hZ hN hA kd_B_amend_6) (wq_xout_ok hnt hlk) ?_
    refine wq_iload_n_ok h0 kd_B_amend_9 rfl ?_
    refine wq_iload_ok h0 kd_B_amend_10 ?_
    refine wq_call_ok hA (wq_runS ⟨h0.1, h0.2, hml, hown, hts⟩ (kv_D_isInBounds hl) ⟨(wq_cB hts kw_G kw_714 kw_6 kw_712 ⟨by decide +kernel, by decide +kernel, by decide +kernel⟩ rfl rfl ⟨Nat.le_of_ble_eq_true rfl, Nat.le_of_ble_eq_true rfl⟩), hts _ kw_713⟩ hK hZ hN hA kd_B_amend_12) (wq_xout_ok hnt hlk) ?_
    refine wq_call_ok hA (wq_runS ⟨h0.1, h0.2, hml, hown, hts⟩ (kv_B_requireArgument hl) ⟨(wq_cB hts kw_G kw_413 kw_1 kw_411 ⟨by decide +kernel, by decide +kernel, by decide +kernel⟩ rfl rfl ⟨Nat.le_of_ble_eq_true rfl, Nat.le_of_ble_eq_true rfl⟩), hts _ kw_412⟩ hK hZ hN hA kd_B_amend_15) (wq_xout_ok hnt hlk) ?_
    refine wq_aload_n_ok h0 kd_B_amend_18 rfl ?_
    refine wq_get_ok (wq_getOK h0 hts ki_B hown hK (ci := 0) rfl 4 (Nat.le_of_ble_eq_true rfl) kw_374 rfl) kd_B_amend_19 ?_
    refine wq_get_ok (wq_getOK h0 hts ki_D hown hK (ci := 5) rfl 5 (Nat.le_of_ble_eq_true rfl) kw_207 rfl) kd_B_amend_22 ?_
    refine wq_iload_n_ok h0 kd_B_amend_25 rfl ?_
    refine wq_zald_ok h0 hK kd_B_amend_26 ?_
    refine wq_call_ok hA (wq_runS ⟨h0.1, h0.2, hml, hown, hts⟩ (kv_B_requireState hl) ⟨(wq_cB hts kw_G kw_480 kw_1 kw_478 ⟨by decide +kernel, by decide +kernel, by decide +kernel⟩ rfl rfl ⟨Nat.le_of_ble_eq_true rfl, Nat.le_of_ble_eq_true rfl⟩), hts _ kw_479⟩ hK hZ hN hA kd_B_amend_27) (wq_xout_ok hnt hlk) ?_
    refine wq_aload_n_ok h0 kd_B_amend_30 rfl ?_
    refine wq_iload_n_ok h0 kd_B_amend_31 rfl ?_
    refine wq_call_ok hA (wq_runV (ci := 0) ⟨h0.1, h0.2, hml, hown, hts⟩ (kv_B_hasGoneUnits hl) ⟨(wq_cB hts kw_G kw_900 kw_1 kw_897 ⟨by decide +kernel, by decide +kernel, by decide +kernel⟩ rfl rfl ⟨Nat.le_of_ble_eq_true rfl, Nat.le_of_ble_eq_true rfl⟩), hts _ kw_899, hts _ kw_s24⟩ rfl rfl hK hZ hN hA kd_B_amend_32) (wq_xout_ok hnt hlk) ?_
    refine wq_if_ne_ok (tgt := 42) h0 kd_B_amend_35 (by decide) ?_ ?_
    · exact hb_42
    refine wq_iconst_ok h0 kd_B_amend_38 (by decide +kernel) ?_
    refine wq_goto_ok (tgt := 43) h0 kd_B_amend_39 (by decide) ?_
    exact hb_43
  exact hb_0 _ _ _ _ _ (wq_sp_t hsp)
set_option maxRecDepth 100000 in
set_option maxHeartbeats 4000000 in
theorem kv_B_release {l : Launch} (hl : l.stackTraces = false) : wq_Vld l kz_cl ky_B_release kw_T ({ frames := 7, cells := 3, slots := 18, locals := 101 }) wq_G0 ks_B_release 3 18 := by
  refine wq_method (cc := kc_B_release) (maxL := 5) (ret := (some .long)) (by decide) kw_923 (fun _ _ => rfl) wq_sp_sz ?_
  intro p e s m args below meth c cs D ad as w rt xt hF hnt hsp
  obtain ⟨h0, hr, hts, hown, hlk, hnm, hml, hK, hZ, hN, hA⟩ := hF
  have hown : s.vm.findClass "BorderDesk" = some m.cls := hown
  obtain ⟨A, hAe⟩ : ∃ A, A = wq_A ad w s.heap.size := ⟨_, rfl⟩
  rw [← hAe] at hZ hA ⊢
  have hb_36 : wq_Snd p l e ({ frames := 7, cells := 3, slots := 18, locals := 101 } : Room) s m args below meth c 5 cs D kz_cl A (wq_G0 ad w) (wq_Q cs D kz_cl A (wq_G0 ad w) rt xt below s 3 18) 36 (kt_B_release_36 rt xt) := by
    refine wq_call_ok hA (wq_runS ⟨h0.1, h0.2, hml, hown, hts⟩ (kv_B_requireState hl) ⟨(wq_cB hts kw_G kw_480 kw_1 kw_478 ⟨by decide +kernel, by decide +kernel, by decide +kernel⟩ rfl rfl ⟨Nat.le_of_ble_eq_true rfl, Nat.le_of_ble_eq_true rfl⟩), hts _ kw_479⟩ hK hZ hN hA kd_B_release_36) (wq_xout_ok hnt hlk) ?_
    refine wq_aload_n_ok h0 kd_B_release_39 rfl ?_
    refine wq_get_ok (wq_getOK h0 hts ki_B hown hK (ci := 0) rfl 6 (Nat.le_of_ble_eq_true rfl) kw_376 rfl) kd_B_release_40 ?_
    refine wq_iload_n_ok h0 kd_B_release_43 rfl ?_
    refine wq_iload_n_ok h0 kd_B_release_44 rfl ?_
    refine wq_iconst_ok h0 kd_B_release_45 (by decide +kernel) ?_
    refine wq_call_ok hA (wq_runV (ci := 7) ⟨h0.1, h0.2, hml, hown, hts⟩ (kv_L_takeUnits hl) ⟨(wq_cB hts kw_G kw_931 kw_8 kw_928 ⟨by decide +kernel, by decide +kernel, by decide +kernel⟩ rfl rfl ⟨Nat.le_of_ble_eq_true rfl, Nat.le_of_ble_eq_true rfl⟩), hts _ kw_929, hts _ kw_930⟩ rfl rfl hK hZ hN hA kd_B_release_46) (wq_xout_ok hnt hlk) ?_
    refine wq_lstore_n_ok h0 kd_B_release_49 rfl (Nat.le_of_ble_eq_true rfl) ?_
    refine wq_aload_n_ok h0 kd_B_release_50 rfl ?_
    refine wq_get_ok (wq_getOK h0 hts ki_B hown hK (ci := 0) rfl 7 (Nat.le_of_ble_eq_true rfl) kw_377 rfl) kd_B_release_51 ?_
    refine wq_dup_ok h0 kd_B_release_54 ?_
    refine wq_get_ok (wq_getOK h0 hts ki_G hown hK (ci := 8) rfl 0 (Nat.le_of_ble_eq_true rfl) kw_351 rfl) kd_B_release_55 ?_
    refine wq_lload_n_ok h0 kd_B_release_58 rfl ?_
    refine wq_ladd_ok h0 kd_B_release_59 ?_
    refine wq_put_ok (wq_putOK h0 hts ki_G ka_G kb_G kn_G hown hK (ci := 8) rfl 0 (Nat.le_of_ble_eq_true rfl) kw_351 rfl (Or.inl rfl) wq_okL) kd_B_release_60 ?_
    refine wq_aload_n_ok h0 kd_B_release_63 rfl ?_
    refine wq_get_ok (wq_getOK h0 hts ki_B hown hK (ci := 0) rfl 7 (Nat.le_of_ble_eq_true rfl) kw_377 rfl) kd_B_release_64 ?_
    refine wq_get_ok (wq_getOK h0 hts ki_G hown hK (ci := 8) rfl 2 (Nat.le_of_ble_eq_true rfl) kw_354 rfl) kd_B_release_67 ?_
    refine wq_iload_n_ok h0 kd_B_release_70 rfl ?_
    refine wq_dup2_ok h0 kd_B_release_71 ?_
    refine wq_iald_ok h0 hK kd_B_release_72 ?_
    refine wq_iload_n_ok h0 kd_B_release_73 rfl ?_
    refine wq_iadd_ok h0 kd_B_release_74 ?_
    refine wq_iast_ok h0 hK kd_B_release_75 ?_
    refine wq_lload_n_ok h0 kd_B_release_76 rfl ?_
    exact wq_lreturn_ok h0 hr hlk kd_B_release_77
  have hb_35 : wq_Snd p l e ({ frames := 7, cells := 3, slots := 18, locals := 101 } : Room) s m args below meth c 5 cs D kz_cl A (wq_G0 ad w) (wq_Q cs D kz_cl A (wq_G0 ad w) rt xt below s 3 18) 35 (kt_B_release_35 rt xt) := by
    refine wq_iconst_ok h0 kd_B_release_35 (by decide +kernel) ?_
    exact hb_36
  have hb_0 : wq_Snd p l e ({ frames := 7, cells := 3, slots := 18, locals := 101 } : Room) s m args below meth c 5 cs D kz_cl A (wq_G0 ad w) (wq_Q cs D kz_cl A (wq_G0 ad w) rt xt below s 3 18) 0 (kt_B_release_0 rt xt) := by
    refine wq_iload_n_ok h0 kd_B_release_0 rfl ?_
    refine wq_call_ok hA (wq_runS ⟨h0.1, h0.2, hml, hown, hts⟩ (kv_B_isGood hl) ⟨(wq_cB hts kw_G kw_531 kw_1 kw_529 ⟨by decide +kernel, by decide +kernel, by decide +kernel⟩ rfl rfl ⟨Nat.le_of_ble_eq_true rfl, Nat.le_of_ble_eq_true rfl⟩), hts _ kw_530⟩ hK hZ hN hA kd_B_release_1) (wq_xout_ok hnt hlk) ?_
    refine wq_call_ok hA (wq_runS ⟨h0.1, h0.2, hml, hown, hts⟩ (kv_B_requireArgument hl) ⟨(wq_cB hts kw_G kw_413 kw_1 kw_411 ⟨by decide +kernel, by decide +kernel, by decide +kernel⟩ rfl rfl ⟨Nat.le_of_ble_eq_true rfl, Nat.le_of_ble_eq_true rfl⟩), hts _ kw_412⟩ hK hZ hN hA kd_B_release_4) (wq_xout_ok hnt hlk) ?_
    refine wq_iload_n_ok h0 kd_B_release_7 rfl ?_
    refine wq_iconst_ok h0 kd_B_release_8 (by decide +kernel) ?_
    refine wq_sipush_ok h0 kd_B_release_9 (by decide +kernel) ?_
    refine wq_call_ok hA (wq_runS ⟨h0.1, h0.2, hml, hown, hts⟩ (kv_B_isWithin hl) ⟨(wq_cB hts kw_G kw_517 kw_1 kw_515 ⟨by decide +kernel, by decide +kernel, by decide +kernel⟩ rfl rfl ⟨Nat.le_of_ble_eq_true rfl, Nat.le_of_ble_eq_true rfl⟩), hts _ kw_516⟩ hK hZ hN hA kd_B_release_12) (wq_xout_ok hnt hlk) ?_
    refine wq_call_ok hA (wq_runS ⟨h0.1, h0.2, hml, hown, hts⟩ (kv_B_requireArgument hl) ⟨(wq_cB hts kw_G kw_413 kw_1 kw_411 ⟨by decide +kernel, by decide +kernel, by decide +kernel⟩ rfl rfl ⟨Nat.le_of_ble_eq_true rfl, Nat.le_of_ble_eq_true rfl⟩), hts _ kw_412⟩ hK hZ hN hA kd_B_release_15) (wq_xout_ok hnt hlk) ?_
    refine wq_aload_n_ok h0 kd_B_release_18 rfl ?_
    refine wq_get_ok (wq_getOK h0 hts ki_B hown hK (ci := 0) rfl 6 (Nat.le_of_ble_eq_true rfl) kw_376 rfl) kd_B_release_19 ?_
    refine wq_iload_n_ok h0 kd_B_release_22 rfl ?_
    refine wq_iconst_ok h0 kd_B_release_23 (by decide +kernel) ?_
    refine wq_call_ok hA (wq_runV (ci := 7) ⟨h0.1, h0.2, hml, hown, hts⟩ (kv_L_unitsLeft hl) ⟨(wq_cB hts kw_G kw_927 kw_8 kw_924 ⟨by decide +kernel, by decide +kernel, by decide +kernel⟩ rfl rfl ⟨Nat.le_of_ble_eq_true rfl, Nat.le_of_ble_eq_true rfl⟩), hts _ kw_925, hts _ kw_926⟩ rfl rfl hK hZ hN hA kd_B_release_24) (wq_xout_ok hnt hlk) ?_
    refine wq_iload_n_ok h0 kd_B_release_27 rfl ?_
    refine wq_icmp_lt_ok (tgt := 35) h0 kd_B_release_28 (by decide) ?_ ?_
    · exact hb_35
    refine wq_iconst_ok h0 kd_B_release_31 (by decide +kernel) ?_
    refine wq_goto_ok (tgt := 36) h0 kd_B_release_32 (by decide) ?_
    exact hb_36
  exact hb_0 _ _ _ _ _ (wq_sp_t hsp)
set_option maxRecDepth 100000 in
set_option maxHeartbeats 4000000 in
theorem kv_B_export {l : Launch} (hl : l.stackTraces = false) : wq_Vld l kz_cl ky_B_export kw_T ({ frames := 7, cells := 3, slots := 18, locals := 101 }) wq_G0 ks_B_export 3 18 := by
  refine wq_method (cc := kc_B_export) (maxL := 5) (ret := (some .long)) (by decide) kw_943 (fun _ _ => rfl) wq_sp_sz ?_
  intro p e s m args below meth c cs D ad as w rt xt hF hnt hsp
  obtain ⟨h0, hr, hts, hown, hlk, hnm, hml, hK, hZ, hN, hA⟩ := hF
  have hown : s.vm.findClass "BorderDesk" = some m.cls := hown
  obtain ⟨A, hAe⟩ : ∃ A, A = wq_A ad w s.heap.size := ⟨_, rfl⟩
  rw [← hAe] at hZ hA ⊢
  have hb_36 : wq_Snd p l e ({ frames := 7, cells := 3, slots := 18, locals := 101 } : Room) s m args below meth c 5 cs D kz_cl A (wq_G0 ad w) (wq_Q cs D kz_cl A (wq_G0 ad w) rt xt below s 3 18) 36 (kt_B_export_36 rt xt) := by
    refine wq_call_ok hA (wq_runS ⟨h0.1, h0.2, hml, hown, hts⟩ (kv_B_requireState hl) ⟨(wq_cB hts kw_G kw_480 kw_1 kw_478 ⟨by decide +kernel, by decide +kernel, by decide +kernel⟩ rfl rfl ⟨Nat.le_of_ble_eq_true rfl, Nat.le_of_ble_eq_true rfl⟩), hts _ kw_479⟩ hK hZ hN hA kd_B_export_36) (wq_xout_ok hnt hlk) ?_
    refine wq_aload_n_ok h0 kd_B_export_39 rfl ?_
    refine wq_get_ok (wq_getOK h0 hts ki_B hown hK (ci := 0) rfl 6 (Nat.le_of_ble_eq_true rfl) kw_376 rfl) kd_B_export_40 ?_
    refine wq_iload_n_ok h0 kd_B_export_43 rfl ?_
    refine wq_iload_n_ok h0 kd_B_export_44 rfl ?_
    refine wq_iconst_ok h0 kd_B_export_45 (by decide +kernel) ?_
    refine wq_call_ok hA (wq_runV (ci := 7) ⟨h0.1, h0.2, hml, hown, hts⟩ (kv_L_takeUnits hl) ⟨(wq_cB hts kw_G kw_931 kw_8 kw_928 ⟨by decide +kernel, by decide +kernel, by decide +kernel⟩ rfl rfl ⟨Nat.le_of_ble_eq_true rfl, Nat.le_of_ble_eq_true rfl⟩), hts _ kw_929, hts _ kw_930⟩ rfl rfl hK hZ hN hA kd_B_export_46) (wq_xout_ok hnt hlk) ?_
    refine wq_lstore_n_ok h0 kd_B_export_49 rfl (Nat.le_of_ble_eq_true rfl) ?_
    refine wq_aload_n_ok h0 kd_B_export_50 rfl ?_
    refine wq_get_ok (wq_getOK h0 hts ki_B hown hK (ci := 0) rfl 7 (Nat.le_of_ble_eq_true rfl) kw_377 rfl) kd_B_export_51 ?_
    refine wq_dup_ok h0 kd_B_export_54 ?_
    refine wq_get_ok (wq_getOK h0 hts ki_G hown hK (ci := 8) rfl 1 (Nat.le_of_ble_eq_true rfl) kw_352 rfl) kd_B_export_55 ?_
    refine wq_lload_n_ok h0 kd_B_export_58 rfl ?_
    refine wq_ladd_ok h0 kd_B_export_59 ?_
    refine wq_put_ok (wq_putOK h0 hts ki_G ka_G kb_G kn_G hown hK (ci := 8) rfl 1 (Nat.le_of_ble_eq_true rfl) kw_352 rfl (Or.inl rfl) wq_okL) kd_B_export_60 ?_
    refine wq_lload_n_ok h0 kd_B_export_63 rfl ?_
    exact wq_lreturn_ok h0 hr hlk kd_B_export_64
  have hb_35 : wq_Snd p l e ({ frames := 7, cells := 3, slots := 18, locals := 101 } : Room) s m args below meth c 5 cs D kz_cl A (wq_G0 ad w) (wq_Q cs D kz_cl A (wq_G0 ad w) rt xt below s 3 18) 35 (kt_B_export_35 rt xt) := by
    refine wq_iconst_ok h0 kd_B_export_35 (by decide +kernel) ?_
    exact hb_36
  have hb_0 : wq_Snd p l e ({ frames := 7, cells := 3, slots := 18, locals := 101 } : Room) s m args below meth c 5 cs D kz_cl A (wq_G0 ad w) (wq_Q cs D kz_cl A (wq_G0 ad w) rt xt below s 3 18) 0 (kt_B_export_0 rt xt) := by
    refine wq_iload_n_ok h0 kd_B_export_0 rfl ?_
    refine wq_call_ok hA (wq_runS ⟨h0.1, h0.2, hml, hown, hts⟩ (kv_B_isGood hl) ⟨(wq_cB hts kw_G kw_531 kw_1 kw_529 ⟨by decide +kernel, by decide +kernel, by decide +kernel⟩ rfl rfl ⟨Nat.le_of_ble_eq_true rfl, Nat.le_of_ble_eq_true rfl⟩), hts _ kw_530⟩ hK hZ hN hA kd_B_export_1) (wq_xout_ok hnt hlk) ?_
    refine wq_call_ok hA (wq_runS ⟨h0.1, h0.2, hml, hown, hts⟩ (kv_B_requireArgument hl) ⟨(wq_cB hts kw_G kw_413 kw_1 kw_411 ⟨by decide +kernel, by decide +kernel, by decide +kernel⟩ rfl rfl ⟨Nat.le_of_ble_eq_true rfl, Nat.le_of_ble_eq_true rfl⟩), hts _ kw_412⟩ hK hZ hN hA kd_B_export_4) (wq_xout_ok hnt hlk) ?_
    refine wq_iload_n_ok h0 kd_B_export_7 rfl ?_
    refine wq_iconst_ok h0 kd_B_export_8 (by decide +kernel) ?_
    refine wq_sipush_ok h0 kd_B_export_9 (by decide +kernel) ?_
    refine wq_call_ok hA (wq_runS ⟨h0.1, h0.2, hml, hown, hts⟩ (kv_B_isWithin hl) ⟨(wq_cB hts kw_G kw_517 kw_1 kw_515 ⟨by decide +kernel, by decide +kernel, by decide +kernel⟩ rfl rfl ⟨Nat.le_of_ble_eq_true rfl, Nat.le_of_ble_eq_true rfl⟩), hts _ kw_516⟩ hK hZ hN hA kd_B_export_12) (wq_xout_ok hnt hlk) ?_
    refine wq_call_ok hA (wq_runS ⟨h0.1, h0.2, hml, hown, hts⟩ (kv_B_requireArgument hl) ⟨(wq_cB hts kw_G kw_413 kw_1 kw_411 ⟨by decide +kernel, by decide +kernel, by decide +kernel⟩ rfl rfl ⟨Nat.le_of_ble_eq_true rfl, Nat.le_of_ble_eq_true rfl⟩), hts _ kw_412⟩ hK hZ hN hA kd_B_export_15) (wq_xout_ok hnt hlk) ?_
    refine wq_aload_n_ok h0 kd_B_export_18 rfl ?_
    refine wq_get_ok (wq_getOK h0 hts ki_B hown hK (ci := 0) rfl 6 (Nat.le_of_ble_eq_true rfl) kw_376 rfl) kd_B_export_19 ?_
    refine wq_iload_n_ok h0 kd_B_export_22 rfl ?_
    refine wq_iconst_ok h0 kd_B_export_23 (by decide +kernel) ?_
    refine wq_call_ok hA (wq_runV (ci := 7) ⟨h0.1, h0.2, hml, hown, hts⟩ (kv_L_unitsLeft hl) ⟨(wq_cB hts kw_G kw_927 kw_8 kw_924 ⟨by decide +kernel, by decide +kernel, by decide +kernel⟩ rfl rfl ⟨Nat.le_of_ble_eq_true rfl, Nat.le_of_ble_eq_true rfl⟩), hts _ kw_925, hts _ kw_926⟩ rfl rfl hK hZ hN hA kd_B_export_24) (wq_xout_ok hnt hlk) ?_
    refine wq_iload_n_ok h0 kd_B_export_27 rfl ?_
    refine wq_icmp_lt_ok (tgt := 35) h0 kd_B_export_28 (by decide) ?_ ?_
    · exact hb_35
    refine wq_iconst_ok h0 kd_B_export_31 (by decide +kernel) ?_
    refine wq_goto_ok (tgt := 36) h0 kd_B_export_32 (by decide) ?_
    exact hb_36
  exact hb_0 _ _ _ _ _ (wq_sp_t hsp)
set_option maxRecDepth 100000 in
set_option maxHeartbeats 4000000 in
theorem kv_B_work {l : Launch} (hl : l.stackTraces = false) : wq_Vld l kz_cl ky_B_work kw_T ({ frames := 7, cells := 4, slots := 24, locals := 101 }) wq_G0 ks_B_work 4 24 := by
  refine wq_method (cc := kc_B_work) (maxL := 7) (ret := (some .int)) (by decide) kw_950 (fun _ _ => rfl) wq_sp_sz ?_
  intro p e s m args below meth c cs D ad as w rt xt hF hnt hsp
  obtain ⟨h0, hr, hts, hown, hlk, hnm, hml, hK, hZ, hN, hA⟩ := hF
  have hown : s.vm.findClass "BorderDesk" = some m.cls := hown
  obtain ⟨A, hAe⟩ : ∃ A, A = wq_A ad w s.heap.size := ⟨_, rfl⟩
  rw [← hAe] at hZ hA ⊢
  have hb_72 : wq_Snd p l e ({ frames := 7, cells := 4, slots := 24, locals := 101 } : Room) s m args below meth c 7 cs D kz_cl A (wq_G0 ad w) (wq_Q cs D kz_cl A (wq_G0 ad w) rt xt below s 4 24) 72 (kt_B_work_72 rt xt) := by
    refine wq_call_ok hA (wq_runS ⟨h0.1, h0.2, hml, hown, hts⟩ (kv_B_requireState hl) ⟨(wq_cB hts kw_G kw_480 kw_1 kw_478 ⟨by decide +kernel, by decide +kernel, by decide +kernel⟩ rfl rfl ⟨Nat.le_of_ble_eq_true rfl, Nat.le_of_ble_eq_true rfl⟩), hts _ kw_479⟩ hK hZ hN hA kd_B_work_72) (wq_xout_ok hnt hlk) ?_
    refine wq_aload_n_ok h0 kd_B_work_75 rfl ?_
    refine wq_get_ok (wq_getOK h0 hts ki_B hown hK (ci := 0) rfl 6 (Nat.le_of_ble_eq_true rfl) kw_376 rfl) kd_B_work_76 ?_
    refine wq_get_ok (wq_getOK h0 hts ki_L hown hK (ci := 7) rfl 0 (Nat.le_of_ble_eq_true rfl) kw_318 rfl) kd_B_work_79 ?_
    refine wq_iconst_ok h0 kd_B_work_82 (by decide +kernel) ?_
    refine wq_iadd_ok h0 kd_B_work_83 ?_
    refine wq_call_ok hA (wq_runS ⟨h0.1, h0.2, hml, hown, hts⟩ (kv_B_requireRoom hl) ⟨(wq_cB hts kw_G kw_858 kw_1 kw_856 ⟨by decide +kernel, by decide +kernel, by decide +kernel⟩ rfl rfl ⟨Nat.le_of_ble_eq_true rfl, Nat.le_of_ble_eq_true rfl⟩), hts _ kw_857⟩ hK hZ hN hA kd_B_work_84) (wq_xout_ok hnt hlk) ?_
    refine wq_aload_n_ok h0 kd_B_work_87 rfl ?_
    refine wq_get_ok (wq_getOK h0 hts ki_B hown hK (ci := 0) rfl 6 (Nat.le_of_ble_eq_true rfl) kw_376 rfl) kd_B_work_88 ?_
    refine wq_iload_n_ok h0 kd_B_work_91 rfl ?_
    refine wq_iload_n_ok h0 kd_B_work_92 rfl ?_
    refine wq_iconst_ok h0 kd_B_work_93 (by decide +kernel) ?_
    refine wq_call_ok hA (wq_runV (ci := 7) ⟨h0.1, h0.2, hml, hown, hts⟩ (kv_L_takeUnits hl) ⟨(wq_cB hts kw_G kw_931 kw_8 kw_928 ⟨by decide +kernel, by decide +kernel, by decide +kernel⟩ rfl rfl ⟨Nat.le_of_ble_eq_true rfl, Nat.le_of_ble_eq_true rfl⟩), hts _ kw_929, hts _ kw_930⟩ rfl rfl hK hZ hN hA kd_B_work_94) (wq_xout_ok hnt hlk) ?_
    refine wq_lstore_ok h0 kd_B_work_97 (Nat.le_of_ble_eq_true rfl) ?_
    refine wq_aload_n_ok h0 kd_B_work_99 rfl ?_
    refine wq_get_ok (wq_getOK h0 hts ki_B hown hK (ci := 0) rfl 7 (Nat.le_of_ble_eq_true rfl) kw_377 rfl) kd_B_work_100 ?_
    refine wq_get_ok (wq_getOK h0 hts ki_G hown hK (ci := 8) rfl 3 (Nat.le_of_ble_eq_true rfl) kw_356 rfl) kd_B_work_103 ?_
    refine wq_iload_n_ok h0 kd_B_work_106 rfl ?_
    refine wq_dup2_ok h0 kd_B_work_107 ?_
    refine wq_iald_ok h0 hK kd_B_work_108 ?_
    refine wq_iload_n_ok h0 kd_B_work_109 rfl ?_
    refine wq_iadd_ok h0 kd_B_work_110 ?_
    refine wq_iast_ok h0 hK kd_B_work_111 ?_
    refine wq_aload_n_ok h0 kd_B_work_112 rfl ?_
    refine wq_get_ok (wq_getOK h0 hts ki_B hown hK (ci := 0) rfl 7 (Nat.le_of_ble_eq_true rfl) kw_377 rfl) kd_B_work_113 ?_
    refine wq_get_ok (wq_getOK h0 hts ki_G hown hK (ci := 8) rfl 4 (Nat.le_of_ble_eq_true rfl) kw_358 rfl) kd_B_work_116 ?_
    refine wq_iload_n_ok h0 kd_B_work_119 rfl ?_
    refine wq_dup2_ok h0 kd_B_work_120 ?_
    refine wq_iald_ok h0 hK kd_B_work_121 ?_
    refine wq_iload_n_ok h0 kd_B_work_122 rfl ?_
    refine wq_iload_ok h0 kd_B_work_123 ?_
    refine wq_isub_ok h0 kd_B_work_125 ?_
    refine wq_iadd_ok h0 kd_B_work_126 ?_
    refine wq_iast_ok h0 hK kd_B_work_127 ?_
    refine wq_aload_n_ok h0 kd_B_work_128 rfl ?_
    refine wq_get_ok (wq_getOK h0 hts ki_B hown hK (ci := 0) rfl 6 (Nat.le_of_ble_eq_true rfl) kw_376 rfl) kd_B_work_129 ?_
    refine wq_iload_n_ok h0 kd_B_work_132 rfl ?_
    refine wq_iload_ok h0 kd_B_work_133 ?_
    refine wq_lload_ok h0 kd_B_work_135 ?_
    refine wq_iconst_ok h0 kd_B_work_137 (by decide +kernel) ?_
    refine wq_iconst_ok h0 kd_B_work_138 (by decide +kernel) ?_
    refine wq_call_ok hA (wq_runV (ci := 7) ⟨h0.1, h0.2, hml, hown, hts⟩ (kv_L_add hl) ⟨(wq_cB hts kw_G kw_885 kw_8 kw_882 ⟨by decide +kernel, by decide +kernel, by decide +kernel⟩ rfl rfl ⟨Nat.le_of_ble_eq_true rfl, Nat.le_of_ble_eq_true rfl⟩), hts _ kw_883, hts _ kw_884⟩ rfl rfl hK hZ hN hA kd_B_work_139) (wq_xout_ok hnt hlk) ?_
    exact wq_ireturn_ok h0 hr hlk kd_B_work_142
  have hb_71 : wq_Snd p l e ({ frames := 7, cells := 4, slots := 24, locals := 101 } : Room) s m args below meth c 7 cs D kz_cl A (wq_G0 ad w) (wq_Q cs D kz_cl A (wq_G0 ad w) rt xt below s 4 24) 71 (kt_B_work_71 rt xt) := by
    refine wq_iconst_ok h0 kd_B_work_71 (by decide +kernel) ?_
    exact hb_72
  have hb_51 : wq_Snd p l e ({ frames := 7, cells := 4, slots := 24, locals := 101 } : Room) s m args below meth c 7 cs D kz_cl A (wq_G0 ad w) (wq_Q cs D kz_cl A (wq_G0 ad w) rt xt below s 4 24) 51 (kt_B_work_51 rt xt) := by
    refine wq_call_ok hA (wq_runS ⟨h0.1, h0.2, hml, hown, hts⟩ (kv_B_requireArgument hl) ⟨(wq_cB hts kw_G kw_413 kw_1 kw_411 ⟨by decide +kernel, by decide +kernel, by decide +kernel⟩ rfl rfl ⟨Nat.le_of_ble_eq_true rfl, Nat.le_of_ble_eq_true rfl⟩), hts _ kw_412⟩ hK hZ hN hA kd_B_work_51) (wq_xout_ok hnt hlk) ?_
    refine wq_aload_n_ok h0 kd_B_work_54 rfl ?_
    refine wq_get_ok (wq_getOK h0 hts ki_B hown hK (ci := 0) rfl 6 (Nat.le_of_ble_eq_true rfl) kw_376 rfl) kd_B_work_55 ?_
    refine wq_iload_n_ok h0 kd_B_work_58 rfl ?_
    refine wq_iconst_ok h0 kd_B_work_59 (by decide +kernel) ?_
    refine wq_call_ok hA (wq_runV (ci := 7) ⟨h0.1, h0.2, hml, hown, hts⟩ (kv_L_unitsLeft hl) ⟨(wq_cB hts kw_G kw_927 kw_8 kw_924 ⟨by decide +kernel, by decide +kernel, by decide +kernel⟩ rfl rfl ⟨Nat.le_of_ble_eq_true rfl, Nat.le_of_ble_eq_true rfl⟩), hts _ kw_925, hts _ kw_926⟩ rfl rfl hK hZ hN hA kd_B_work_60) (wq_xout_ok hnt hlk) ?_
    refine wq_iload_n_ok h0 kd_B_work_63 rfl ?_
    refine wq_icmp_lt_ok (tgt := 71) h0 kd_B_work_64 (by decide) ?_ ?_
    · exact hb_71
    refine wq_iconst_ok h0 kd_B_work_67 (by decide +kernel) ?_
    refine wq_goto_ok (tgt := 72) h0 kd_B_work_68 (by decide) ?_
    exact hb_72
  have hb_50 : wq_Snd p l e ({ frames := 7, cells := 4, slots := 24, locals := 101 } : Room) s m args below meth c 7 cs D kz_cl A (wq_G0 ad w) (wq_Q cs D kz_cl A (wq_G0 ad w) rt xt below s 4 24) 50 (kt_B_work_50 rt xt) := by
    refine wq_iconst_ok h0 kd_B_work_50 (by decide +kernel) ?_
    exact hb_51
  have hb_24 : wq_Snd p l e ({ frames := 7, cells := 4, slots := 24, locals := 101 } : Room) s m args below meth c 7 cs D kz_cl A (wq_G0 ad w) (wq_Q cs D kz_cl A (wq_G0 ad w) rt xt below s 4 24) 24 (kt_B_work_24 rt xt) := by
    refine wq_call_ok hA (wq_runS ⟨h0.1, h0.2, hml, hown, hts⟩ (kv_B_requireArgument hl) ⟨(wq_cB hts kw_G kw_413 kw_1 kw_411 ⟨by decide +kernel, by decide +kernel, by decide +kernel⟩ rfl rfl ⟨Nat.le_of_ble_eq_true rfl, Nat.le_of_ble_eq_true rfl⟩), hts _ kw_412⟩ hK hZ hN hA kd_B_work_24) (wq_xout_ok hnt hlk) ?_
    refine wq_iconst_ok h0 kd_B_work_27 (by decide +kernel) ?_
    refine wq_iload_ok h0 kd_B_work_28 ?_
    refine wq_icmp_gt_ok (tgt := 50) h0 kd_B_work_30 (by decide) ?_ ?_
    · exact hb_50
    refine wq_iload_ok h0 kd_B_work_33 ?_
    refine wq_iload_n_ok h0 kd_B_work_35 rfl ?_
    refine wq_icmp_gt_ok (tgt := 50) h0 kd_B_work_36 (by decide) ?_ ?_
    · exact hb_50
    refine wq_iload_n_ok h0 kd_B_work_39 rfl ?_
    refine wq_sipush_ok h0 kd_B_work_40 (by decide +kernel) ?_
    refine wq_icmp_gt_ok (tgt := 50) h0 kd_B_work_43 (by decide) ?_ ?_
    · exact hb_50
    refine wq_iconst_ok h0 kd_B_work_46 (by decide +kernel) ?_
    refine wq_goto_ok (tgt := 51) h0 kd_B_work_47 (by decide) ?_
    exact hb_51
  have hb_23 : wq_Snd p l e ({ frames := 7, cells := 4, slots := 24, locals := 101 } : Room) s m args below meth c 7 cs D kz_cl A (wq_G0 ad w) (wq_Q cs D kz_cl A (wq_G0 ad w) rt xt below s 4 24) 23 (kt_B_work_23 rt xt) := by
    refine wq_iconst_ok h0 kd_B_work_23 (by decide +kernel) ?_
    exact hb_24
  have hb_0 : wq_Snd p l e ({ frames := 7, cells := 4, slots := 24, locals := 101 } : Room) s m args below meth c 7 cs D kz_cl A (wq_G0 ad w) (wq_Q cs D kz_cl A (wq_G0 ad w) rt xt below s 4 24) 0 (kt_B_work_0 rt xt) := by
    refine wq_iload_n_ok h0 kd_B_work_0 rfl ?_
    refine wq_call_ok hA (wq_runS ⟨h0.1, h0.2, hml, hown, hts⟩ (kv_B_isGood hl) ⟨(wq_cB hts kw_G kw_531 kw_1 kw_529 ⟨by decide +kernel, by decide +kernel, by decide +kernel⟩ rfl rfl ⟨Nat.le_of_ble_eq_true rfl, Nat.le_of_ble_eq_true rfl⟩), hts _ kw_530⟩ hK hZ hN hA kd_B_work_1) (wq_xout_ok hnt hlk) ?_
    refine wq_if_eq_ok (tgt := 23) h0 kd_B_work_4 (by decide) ?_ ?_
    · exact hb_23
    refine wq_iload_n_ok h0 kd_B_work_7 rfl ?_
    refine wq_call_ok hA (wq_runS ⟨h0.1, h0.2, hml, hown, hts⟩ (kv_B_isGood hl) ⟨(wq_cB hts kw_G kw_531 kw_1 kw_529 ⟨by decide +kernel, by decide +kernel, by decide +kernel⟩ rfl rfl ⟨Nat.le_of_ble_eq_true rfl, Nat.le_of_ble_eq_true rfl⟩), hts _ kw_530⟩ hK hZ hN hA kd_B_work_8) (wq_xout_ok hnt hlk) ?_
    refine wq_if_eq_ok (tgt := 23) h0 kd_B_work_11 (by decide) ?_ ?_
    · exact hb_23
    refine wq_iload_n_ok h0 kd_B_work_14 rfl ?_
    refine wq_iload_n_ok h0 kd_B_work_15 rfl ?_
    refine wq_icmp_eq_ok (tgt := 23) h0 kd_B_work_16 (by decide) ?_ ?_
    · exact hb_23
    refine wq_iconst_ok h0 kd_B_work_19 (by decide +kernel) ?_
    refine wq_goto_ok (tgt := 24) h0 kd_B_work_20 (by decide) ?_
    exact hb_24
  exact hb_0 _ _ _ _ _ (wq_sp_t hsp)
set_option maxRecDepth 100000 in
set_option maxHeartbeats 4000000 in
theorem kv_B_lot {l : Launch} (hl : l.stackTraces = false) : wq_Vld l kz_cl ky_B_lot kw_T ({ frames := 7, cells := 2, slots := 12, locals := 101 }) wq_G0 ks_B_lot 2 12 := by
  refine wq_method (cc := kc_B_lot) (maxL := 3) (ret := (some .long)) (by decide) kw_957 (fun _ _ => rfl) wq_sp_sz ?_
  intro p e s m args below meth c cs D ad as w rt xt hF hnt hsp
  obtain ⟨h0, hr, hts, hown, hlk, hnm, hml, hK, hZ, hN, hA⟩ := hF
  have hown : s.vm.findClass "BorderDesk" = some m.cls := hown
  obtain ⟨A, hAe⟩ : ∃ A, A = wq_A ad w s.heap.size := ⟨_, rfl⟩
  rw [← hAe] at hZ hA ⊢
  have hb_56 : wq_Snd p l e ({ frames := 7, cells := 2, slots := 12, locals := 101 } : Room) s m args below meth c 3 cs D kz_cl A (wq_G0 ad w) (wq_Q cs D kz_cl A (wq_G0 ad w) rt xt below s 2 12) 56 (kt_B_lot_56 rt xt) := by
    refine wq_aload_n_ok h0 kd_B_lot_56 rfl ?_
    refine wq_get_ok (wq_getOK h0 hts ki_B hown hK (ci := 0) rfl 6 (Nat.le_of_ble_eq_true rfl) kw_376 rfl) kd_B_lot_57 ?_
    refine wq_get_ok (wq_getOK h0 hts ki_L hown hK (ci := 7) rfl 1 (Nat.le_of_ble_eq_true rfl) kw_320 rfl) kd_B_lot_60 ?_
    refine wq_iload_n_ok h0 kd_B_lot_63 rfl ?_
    refine wq_iald_ok h0 hK kd_B_lot_64 ?_
    refine wq_i2l_ok h0 kd_B_lot_65 ?_
    exact wq_lreturn_ok h0 hr hlk kd_B_lot_66
  have hb_67 : wq_Snd p l e ({ frames := 7, cells := 2, slots := 12, locals := 101 } : Room) s m args below meth c 3 cs D kz_cl A (wq_G0 ad w) (wq_Q cs D kz_cl A (wq_G0 ad w) rt xt below s 2 12) 67 (kt_B_lot_67 rt xt) := by
    refine wq_aload_n_ok h0 kd_B_lot_67 rfl ?_
    refine wq_get_ok (wq_getOK h0 hts ki_B hown hK (ci := 0) rfl 6 (Nat.le_of_ble_eq_true rfl) kw_376 rfl) kd_B_lot_68 ?_
    refine wq_get_ok (wq_getOK h0 hts ki_L hown hK (ci := 7) rfl 2 (Nat.le_of_ble_eq_true rfl) kw_322 rfl) kd_B_lot_71 ?_
    refine wq_iload_n_ok h0 kd_B_lot_74 rfl ?_
    refine wq_iald_ok h0 hK kd_B_lot_75 ?_
    refine wq_i2l_ok h0 kd_B_lot_76 ?_
    exact wq_lreturn_ok h0 hr hlk kd_B_lot_77
  have hb_78 : wq_Snd p l e ({ frames := 7, cells := 2, slots := 12, locals := 101 } : Room) s m args below meth c 3 cs D kz_cl A (wq_G0 ad w) (wq_Q cs D kz_cl A (wq_G0 ad w) rt xt below s 2 12) 78 (kt_B_lot_78 rt xt) := by
    refine wq_aload_n_ok h0 kd_B_lot_78 rfl ?_
    refine wq_get_ok (wq_getOK h0 hts ki_B hown hK (ci := 0) rfl 6 (Nat.le_of_ble_eq_true rfl) kw_376 rfl) kd_B_lot_79 ?_
    refine wq_get_ok (wq_getOK h0 hts ki_L hown hK (ci := 7) rfl 3 (Nat.le_of_ble_eq_true rfl) kw_324 rfl) kd_B_lot_82 ?_
    refine wq_iload_n_ok h0 kd_B_lot_85 rfl ?_
    refine wq_iald_ok h0 hK kd_B_lot_86 ?_
    refine wq_i2l_ok h0 kd_B_lot_87 ?_
    exact wq_lreturn_ok h0 hr hlk kd_B_lot_88
  have hb_89 : wq_Snd p l e ({ frames := 7, cells := 2, slots := 12, locals := 101 } : Room) s m args below meth c 3 cs D kz_cl A (wq_G0 ad w) (wq_Q cs D kz_cl A (wq_G0 ad w) rt xt below s 2 12) 89 (kt_B_lot_89 rt xt) := by
    refine wq_aload_n_ok h0 kd_B_lot_89 rfl ?_
    refine wq_get_ok (wq_getOK h0 hts ki_B hown hK (ci := 0) rfl 6 (Nat.le_of_ble_eq_true rfl) kw_376 rfl) kd_B_lot_90 ?_
    refine wq_get_ok (wq_getOK h0 hts ki_L hown hK (ci := 7) rfl 4 (Nat.le_of_ble_eq_true rfl) kw_326 rfl) kd_B_lot_93 ?_
    refine wq_iload_n_ok h0 kd_B_lot_96 rfl ?_
    refine wq_lald_ok h0 hK kd_B_lot_97 ?_
    exact wq_lreturn_ok h0 hr hlk kd_B_lot_98
  have hb_116 : wq_Snd p l e ({ frames := 7, cells := 2, slots := 12, locals := 101 } : Room) s m args below meth c 3 cs D kz_cl A (wq_G0 ad w) (wq_Q cs D kz_cl A (wq_G0 ad w) rt xt below s 2 12) 116 (kt_B_lot_116 rt xt) := by
    exact wq_lreturn_ok h0 hr hlk kd_B_lot_116
  have hb_115 : wq_Snd p l e ({ frames := 7, cells := 2, slots := 12, locals := 101 } : Room) s m args below meth c 3 cs D kz_cl A (wq_G0 ad w) (wq_Q cs D kz_cl A (wq_G0 ad w) rt xt below s 2 12) 115 (kt_B_lot_115 rt xt) := by
    refine wq_lconst_ok h0 kd_B_lot_115 (by decide +kernel) ?_
    exact hb_116
  have hb_99 : wq_Snd p l e ({ frames := 7, cells := 2, slots := 12, locals := 101 } : Room) s m args below meth c 3 cs D kz_cl A (wq_G0 ad w) (wq_Q cs D kz_cl A (wq_G0 ad w) rt xt below s 2 12) 99 (kt_B_lot_99 rt xt) := by
    refine wq_aload_n_ok h0 kd_B_lot_99 rfl ?_
    refine wq_get_ok (wq_getOK h0 hts ki_B hown hK (ci := 0) rfl 6 (Nat.le_of_ble_eq_true rfl) kw_376 rfl) kd_B_lot_100 ?_
    refine wq_get_ok (wq_getOK h0 hts ki_L hown hK (ci := 7) rfl 5 (Nat.le_of_ble_eq_true rfl) kw_328 rfl) kd_B_lot_103 ?_
    refine wq_iload_n_ok h0 kd_B_lot_106 rfl ?_
    refine wq_zald_ok h0 hK kd_B_lot_107 ?_
    refine wq_if_eq_ok (tgt := 115) h0 kd_B_lot_108 (by decide) ?_ ?_
    · exact hb_115
    refine wq_lconst_ok h0 kd_B_lot_111 (by decide +kernel) ?_
    refine wq_goto_ok (tgt := 116) h0 kd_B_lot_112 (by decide) ?_
    exact hb_116
  have hb_0 : wq_Snd p l e ({ frames := 7, cells := 2, slots := 12, locals := 101 } : Room) s m args below meth c 3 cs D kz_cl A (wq_G0 ad w) (wq_Q cs D kz_cl A (wq_G0 ad w) rt xt below s 2 12) 0 (kt_B_lot_0 rt xt) := by
    refine wq_iload_n_ok h0 kd_B_lot_0 rfl ?_
    refine wq_aload_n_ok h0 kd_B_lot_1 rfl ?_
    refine wq_get_ok (wq_getOK h0 hts ki_B hown hK (ci := 0) rfl 6 (Nat.le_of_ble_eq_true rfl) kw_376 rfl) kd_B_lot_2 ?_
    refine wq_get_ok (wq_getOK h0 hts ki_L hown hK (ci := 7) rfl 0 (Nat.le_of_ble_eq_true rfl) kw_318 rfl) kd_B_lot_5 ?_
    refine wq_call_ok hA (wq_runS ⟨h0.1, h0.2, hml, hown, hts⟩ (kv_B_isBelow hl) ⟨(wq_cB hts kw_G kw_410 kw_1 kw_408 ⟨by decide +kernel, by decide +kernel, by decide +kernel⟩ rfl rfl ⟨Nat.le_of_ble_eq_true rfl, Nat.le_of_ble_eq_true rfl⟩), hts _ kw_409⟩ hK hZ hN hA kd_B_lot_8) (wq_xout_ok hnt hlk) ?_
    refine wq_call_ok hA (wq_runS ⟨h0.1, h0.2, hml, hown, hts⟩ (kv_B_requireArgument hl) ⟨(wq_cB hts kw_G kw_413 kw_1 kw_411 ⟨by decide +kernel, by decide +kernel, by decide +kernel⟩ rfl rfl ⟨Nat.le_of_ble_eq_true rfl, Nat.le_of_ble_eq_true rfl⟩), hts _ kw_412⟩ hK hZ hN hA kd_B_lot_11) (wq_xout_ok hnt hlk) ?_
    refine wq_iload_n_ok h0 kd_B_lot_14 rfl ?_
    refine wq_iconst_ok h0 kd_B_lot_15 (by decide +kernel) ?_
    refine wq_iconst_ok h0 kd_B_lot_16 (by decide +kernel) ?_
    refine wq_call_ok hA (wq_runS ⟨h0.1, h0.2, hml, hown, hts⟩ (kv_B_isWithin hl) ⟨(wq_cB hts kw_G kw_517 kw_1 kw_515 ⟨by decide +kernel, by decide +kernel, by decide +kernel⟩ rfl rfl ⟨Nat.le_of_ble_eq_true rfl, Nat.le_of_ble_eq_true rfl⟩), hts _ kw_516⟩ hK hZ hN hA kd_B_lot_17) (wq_xout_ok hnt hlk) ?_
    refine wq_call_ok hA (wq_runS ⟨h0.1, h0.2, hml, hown, hts⟩ (kv_B_requireArgument hl) ⟨(wq_cB hts kw_G kw_413 kw_1 kw_411 ⟨by decide +kernel, by decide +kernel, by decide +kernel⟩ rfl rfl ⟨Nat.le_of_ble_eq_true rfl, Nat.le_of_ble_eq_true rfl⟩), hts _ kw_412⟩ hK hZ hN hA kd_B_lot_20) (wq_xout_ok hnt hlk) ?_
    refine wq_iload_n_ok h0 kd_B_lot_23 rfl ?_
    refine wq_sw_ok ?_ ?_
    · exact List.forall_mem_cons.mpr ⟨⟨56, (by exact hb_56), fun H locs n1 n2 ls rest hw => lv_tableIn (tgt := 56) (off := 32) h0.1 h0.2 kd_B_lot_24 (show ¬ (nI 0).toInt < 0 by decide +kernel) (show ¬ 3 < (nI 0).toInt by decide +kernel) (show (#[32, 43, 54, 65] : Array Int)[((nI 0).toInt - 0).toNat]? = some 32 by decide +kernel) (by decide) hw⟩, List.forall_mem_cons.mpr ⟨⟨67, (by exact hb_67), fun H locs n1 n2 ls rest hw => lv_tableIn (tgt := 67) (off := 43) h0.1 h0.2 kd_B_lot_24 (show ¬ (nI 1).toInt < 0 by decide +kernel) (show ¬ 3 < (nI 1).toInt by decide +kernel) (show (#[32, 43, 54, 65] : Array Int)[((nI 1).toInt - 0).toNat]? = some 43 by decide +kernel) (by decide) hw⟩, List.forall_mem_cons.mpr ⟨⟨78, (by exact hb_78), fun H locs n1 n2 ls rest hw => lv_tableIn (tgt := 78) (off := 54) h0.1 h0.2 kd_B_lot_24 (show ¬ (nI 2).toInt < 0 by decide +kernel) (show ¬ 3 < (nI 2).toInt by decide +kernel) (show (#[32, 43, 54, 65] : Array Int)[((nI 2).toInt - 0).toNat]? = some 54 by decide +kernel) (by decide) hw⟩, List.forall_mem_cons.mpr ⟨⟨89, (by exact hb_89), fun H locs n1 n2 ls rest hw => lv_tableIn (tgt := 89) (off := 65) h0.1 h0.2 kd_B_lot_24 (show ¬ (nI 3).toInt < 0 by decide +kernel) (show ¬ 3 < (nI 3).toInt by decide +kernel) (show (#[32, 43, 54, 65] : Array Int)[((nI 3).toInt - 0).toNat]? = some 65 by decide +kernel) (by decide) hw⟩, fun _ h => absurd h List.not_mem_nil⟩⟩⟩⟩
    · exact ⟨99, (by exact hb_99), fun H locs n1 n2 ls rest x hq hw => lv_tableOut (tgt := 99) h0.1 h0.2 kd_B_lot_24 (wq_tabO 0 3 (by decide) (fun k h1 h2 => by rcases (show k = 0 ∨ k = 1 ∨ k = 2 ∨ k = 3 by omega) with rfl | rfl | rfl | rfl <;> first | exact hq _ List.mem_cons_self | exact hq _ (List.mem_cons_of_mem _ List.mem_cons_self) | exact hq _ (List.mem_cons_of_mem _ (List.mem_cons_of_mem _ List.mem_cons_self)) | exact hq _ (List.mem_cons_of_mem _ (List.mem_cons_of_mem _ (List.mem_cons_of_mem _ List.mem_cons_self))))) (by decide) hw⟩
  exact hb_0 _ _ _ _ _ (wq_sp_t hsp)
set_option maxRecDepth 100000 in
set_option maxHeartbeats 4000000 in
theorem kv_B_account {l : Launch} (hl : l.stackTraces = false) : wq_Vld l kz_cl ky_B_account kw_T ({ frames := 7, cells := 2, slots := 12, locals := 101 }) wq_G0 ks_B_account 2 12 := by
  refine wq_method (cc := kc_B_account) (maxL := 3) (ret := (some .long)) (by decide) kw_964 (fun _ _ => rfl) wq_sp_sz ?_
  intro p e s m args below meth c cs D ad as w rt xt hF hnt hsp
  obtain ⟨h0, hr, hts, hown, hlk, hnm, hml, hK, hZ, hN, hA⟩ := hF
  have hown : s.vm.findClass "BorderDesk" = some m.cls := hown
  obtain ⟨A, hAe⟩ : ∃ A, A = wq_A ad w s.heap.size := ⟨_, rfl⟩
  rw [← hAe] at hZ hA ⊢
  have hb_52 : wq_Snd p l e ({ frames := 7, cells := 2, slots := 12, locals := 101 } : Room) s m args below meth c 3 cs D kz_cl A (wq_G0 ad w) (wq_Q cs D kz_cl A (wq_G0 ad w) rt xt below s 2 12) 52 (kt_B_account_52 rt xt) := by
    refine wq_aload_n_ok h0 kd_B_account_52 rfl ?_
    refine wq_get_ok (wq_getOK h0 hts ki_B hown hK (ci := 0) rfl 6 (Nat.le_of_ble_eq_true rfl) kw_376 rfl) kd_B_account_53 ?_
    refine wq_iload_n_ok h0 kd_B_account_56 rfl ?_
    refine wq_iconst_ok h0 kd_B_account_57 (by decide +kernel) ?_
    refine wq_call_ok hA (wq_runV (ci := 7) ⟨h0.1, h0.2, hml, hown, hts⟩ (kv_L_heldUnitsThatCame hl) ⟨(wq_cB hts kw_G kw_968 kw_8 kw_965 ⟨by decide +kernel, by decide +kernel, by decide +kernel⟩ rfl rfl ⟨Nat.le_of_ble_eq_true rfl, Nat.le_of_ble_eq_true rfl⟩), hts _ kw_966, hts _ kw_967⟩ rfl rfl hK hZ hN hA kd_B_account_58) (wq_xout_ok hnt hlk) ?_
    refine wq_i2l_ok h0 kd_B_account_61 ?_
    exact wq_lreturn_ok h0 hr hlk kd_B_account_62
  have hb_63 : wq_Snd p l e ({ frames := 7, cells := 2, slots := 12, locals := 101 } : Room) s m args below meth c 3 cs D kz_cl A (wq_G0 ad w) (wq_Q cs D kz_cl A (wq_G0 ad w) rt xt below s 2 12) 63 (kt_B_account_63 rt xt) := by
    refine wq_aload_n_ok h0 kd_B_account_63 rfl ?_
    refine wq_get_ok (wq_getOK h0 hts ki_B hown hK (ci := 0) rfl 6 (Nat.le_of_ble_eq_true rfl) kw_376 rfl) kd_B_account_64 ?_
    refine wq_iload_n_ok h0 kd_B_account_67 rfl ?_
    refine wq_iconst_ok h0 kd_B_account_68 (by decide +kernel) ?_
    refine wq_call_ok hA (wq_runV (ci := 7) ⟨h0.1, h0.2, hml, hown, hts⟩ (kv_L_heldUnitsThatCame hl) ⟨(wq_cB hts kw_G kw_968 kw_8 kw_965 ⟨by decide +kernel, by decide +kernel, by decide +kernel⟩ rfl rfl ⟨Nat.le_of_ble_eq_true rfl, Nat.le_of_ble_eq_true rfl⟩), hts _ kw_966, hts _ kw_967⟩ rfl rfl hK hZ hN hA kd_B_account_69) (wq_xout_ok hnt hlk) ?_
    refine wq_i2l_ok h0 kd_B_account_72 ?_
    exact wq_lreturn_ok h0 hr hlk kd_B_account_73
  have hb_74 : wq_Snd p l e ({ frames := 7, cells := 2, slots := 12, locals := 101 } : Room) s m args below meth c 3 cs D kz_cl A (wq_G0 ad w) (wq_Q cs D kz_cl A (wq_G0 ad w) rt xt below s 2 12) 74 (kt_B_account_74 rt xt) := by
    refine wq_aload_n_ok h0 kd_B_account_74 rfl ?_
    refine wq_get_ok (wq_getOK h0 hts ki_B hown hK (ci := 0) rfl 7 (Nat.le_of_ble_eq_true rfl) kw_377 rfl) kd_B_account_75 ?_
    refine wq_get_ok (wq_getOK h0 hts ki_G hown hK (ci := 8) rfl 2 (Nat.le_of_ble_eq_true rfl) kw_354 rfl) kd_B_account_78 ?_
    refine wq_iload_n_ok h0 kd_B_account_81 rfl ?_
    refine wq_iald_ok h0 hK kd_B_account_82 ?_
    refine wq_i2l_ok h0 kd_B_account_83 ?_
    exact wq_lreturn_ok h0 hr hlk kd_B_account_84
  have hb_85 : wq_Snd p l e ({ frames := 7, cells := 2, slots := 12, locals := 101 } : Room) s m args below meth c 3 cs D kz_cl A (wq_G0 ad w) (wq_Q cs D kz_cl A (wq_G0 ad w) rt xt below s 2 12) 85 (kt_B_account_85 rt xt) := by
    refine wq_aload_n_ok h0 kd_B_account_85 rfl ?_
    refine wq_get_ok (wq_getOK h0 hts ki_B hown hK (ci := 0) rfl 7 (Nat.le_of_ble_eq_true rfl) kw_377 rfl) kd_B_account_86 ?_
    refine wq_get_ok (wq_getOK h0 hts ki_G hown hK (ci := 8) rfl 3 (Nat.le_of_ble_eq_true rfl) kw_356 rfl) kd_B_account_89 ?_
    refine wq_iload_n_ok h0 kd_B_account_92 rfl ?_
    refine wq_iald_ok h0 hK kd_B_account_93 ?_
    refine wq_i2l_ok h0 kd_B_account_94 ?_
    exact wq_lreturn_ok h0 hr hlk kd_B_account_95
  have hb_96 : wq_Snd p l e ({ frames := 7, cells := 2, slots := 12, locals := 101 } : Room) s m args below meth c 3 cs D kz_cl A (wq_G0 ad w) (wq_Q cs D kz_cl A (wq_G0 ad w) rt xt below s 2 12) 96 (kt_B_account_96 rt xt) := by
    refine wq_aload_n_ok h0 kd_B_account_96 rfl ?_
    refine wq_get_ok (wq_getOK h0 hts ki_B hown hK (ci := 0) rfl 7 (Nat.le_of_ble_eq_true rfl) kw_377 rfl) kd_B_account_97 ?_
    refine wq_get_ok (wq_getOK h0 hts ki_G hown hK (ci := 8) rfl 4 (Nat.le_of_ble_eq_true rfl) kw_358 rfl) kd_B_account_100 ?_
    refine wq_iload_n_ok h0 kd_B_account_103 rfl ?_
    refine wq_iald_ok h0 hK kd_B_account_104 ?_
    refine wq_i2l_ok h0 kd_B_account_105 ?_
    exact wq_lreturn_ok h0 hr hlk kd_B_account_106
  have hb_107 : wq_Snd p l e ({ frames := 7, cells := 2, slots := 12, locals := 101 } : Room) s m args below meth c 3 cs D kz_cl A (wq_G0 ad w) (wq_Q cs D kz_cl A (wq_G0 ad w) rt xt below s 2 12) 107 (kt_B_account_107 rt xt) := by
    refine wq_aload_n_ok h0 kd_B_account_107 rfl ?_
    refine wq_get_ok (wq_getOK h0 hts ki_B hown hK (ci := 0) rfl 6 (Nat.le_of_ble_eq_true rfl) kw_376 rfl) kd_B_account_108 ?_
    refine wq_iload_n_ok h0 kd_B_account_111 rfl ?_
    refine wq_iconst_ok h0 kd_B_account_112 (by decide +kernel) ?_
    refine wq_call_ok hA (wq_runV (ci := 7) ⟨h0.1, h0.2, hml, hown, hts⟩ (kv_L_unitsLeft hl) ⟨(wq_cB hts kw_G kw_927 kw_8 kw_924 ⟨by decide +kernel, by decide +kernel, by decide +kernel⟩ rfl rfl ⟨Nat.le_of_ble_eq_true rfl, Nat.le_of_ble_eq_true rfl⟩), hts _ kw_925, hts _ kw_926⟩ rfl rfl hK hZ hN hA kd_B_account_113) (wq_xout_ok hnt hlk) ?_
    refine wq_i2l_ok h0 kd_B_account_116 ?_
    exact wq_lreturn_ok h0 hr hlk kd_B_account_117
  have hb_0 : wq_Snd p l e ({ frames := 7, cells := 2, slots := 12, locals := 101 } : Room) s m args below meth c 3 cs D kz_cl A (wq_G0 ad w) (wq_Q cs D kz_cl A (wq_G0 ad w) rt xt below s 2 12) 0 (kt_B_account_0 rt xt) := by
    refine wq_iload_n_ok h0 kd_B_account_0 rfl ?_
    refine wq_call_ok hA (wq_runS ⟨h0.1, h0.2, hml, hown, hts⟩ (kv_B_isGood hl) ⟨(wq_cB hts kw_G kw_531 kw_1 kw_529 ⟨by decide +kernel, by decide +kernel, by decide +kernel⟩ rfl rfl ⟨Nat.le_of_ble_eq_true rfl, Nat.le_of_ble_eq_true rfl⟩), hts _ kw_530⟩ hK hZ hN hA kd_B_account_1) (wq_xout_ok hnt hlk) ?_
    refine wq_call_ok hA (wq_runS ⟨h0.1, h0.2, hml, hown, hts⟩ (kv_B_requireArgument hl) ⟨(wq_cB hts kw_G kw_413 kw_1 kw_411 ⟨by decide +kernel, by decide +kernel, by decide +kernel⟩ rfl rfl ⟨Nat.le_of_ble_eq_true rfl, Nat.le_of_ble_eq_true rfl⟩), hts _ kw_412⟩ hK hZ hN hA kd_B_account_4) (wq_xout_ok hnt hlk) ?_
    refine wq_iload_n_ok h0 kd_B_account_7 rfl ?_
    refine wq_iconst_ok h0 kd_B_account_8 (by decide +kernel) ?_
    refine wq_iconst_ok h0 kd_B_account_9 (by decide +kernel) ?_
    refine wq_call_ok hA (wq_runS ⟨h0.1, h0.2, hml, hown, hts⟩ (kv_B_isWithin hl) ⟨(wq_cB hts kw_G kw_517 kw_1 kw_515 ⟨by decide +kernel, by decide +kernel, by decide +kernel⟩ rfl rfl ⟨Nat.le_of_ble_eq_true rfl, Nat.le_of_ble_eq_true rfl⟩), hts _ kw_516⟩ hK hZ hN hA kd_B_account_10) (wq_xout_ok hnt hlk) ?_
    refine wq_call_ok hA (wq_runS ⟨h0.1, h0.2, hml, hown, hts⟩ (kv_B_requireArgument hl) ⟨(wq_cB hts kw_G kw_413 kw_1 kw_411 ⟨by decide +kernel, by decide +kernel, by decide +kernel⟩ rfl rfl ⟨Nat.le_of_ble_eq_true rfl, Nat.le_of_ble_eq_true rfl⟩), hts _ kw_412⟩ hK hZ hN hA kd_B_account_13) (wq_xout_ok hnt hlk) ?_
    refine wq_iload_n_ok h0 kd_B_account_16 rfl ?_
    refine wq_sw_ok ?_ ?_
    · exact List.forall_mem_cons.mpr ⟨⟨52, (by exact hb_52), fun H locs n1 n2 ls rest hw => lv_tableIn (tgt := 52) (off := 35) h0.1 h0.2 kd_B_account_17 (show ¬ (nI 0).toInt < 0 by decide +kernel) (show ¬ 4 < (nI 0).toInt by decide +kernel) (show (#[35, 46, 57, 68, 79] : Array Int)[((nI 0).toInt - 0).toNat]? = some 35 by decide +kernel) (by decide) hw⟩, List.forall_mem_cons.mpr ⟨⟨63, (by exact hb_63), fun H locs n1 n2 ls rest hw => lv_tableIn (tgt := 63) (off := 46) h0.1 h0.2 kd_B_account_17 (show ¬ (nI 1).toInt < 0 by decide +kernel) (show ¬ 4 < (nI 1).toInt by decide +kernel) (show (#[35, 46, 57, 68, 79] : Array Int)[((nI 1).toInt - 0).toNat]? = some 46 by decide +kernel) (by decide) hw⟩, List.forall_mem_cons.mpr ⟨⟨74, (by exact hb_74), fun H locs n1 n2 ls rest hw => lv_tableIn (tgt := 74) (off := 57) h0.1 h0.2 kd_B_account_17 (show ¬ (nI 2).toInt < 0 by decide +kernel) (show ¬ 4 < (nI 2).toInt by decide +kernel) (show (#[35, 46, 57, 68, 79] : Array Int)[((nI 2).toInt - 0).toNat]? = some 57 by decide +kernel) (by decide) hw⟩, List.forall_mem_cons.mpr ⟨⟨85, (by exact hb_85), fun H locs n1 n2 ls rest hw => lv_tableIn (tgt := 85) (off := 68) h0.1 h0.2 kd_B_account_17 (show ¬ (nI 3).toInt < 0 by decide +kernel) (show ¬ 4 < (nI 3).toInt by decide +kernel) (show (#[35, 46, 57, 68, 79] : Array Int)[((nI 3).toInt - 0).toNat]? = some 68 by decide +kernel) (by decide) hw⟩, List.forall_mem_cons.mpr ⟨⟨96, (by exact hb_96), fun H locs n1 n2 ls rest hw => lv_tableIn (tgt := 96) (off := 79) h0.1 h0.2 kd_B_account_17 (show ¬ (nI 4).toInt < 0 by decide +kernel) (show ¬ 4 < (nI 4).toInt by decide +kernel) (show (#[35, 46, 57, 68, 79] : Array Int)[((nI 4).toInt - 0).toNat]? = some 79 by decide +kernel) (by decide) hw⟩, fun _ h => absurd h List.not_mem_nil⟩⟩⟩⟩⟩
    · exact ⟨107, (by exact hb_107), fun H locs n1 n2 ls rest x hq hw => lv_tableOut (tgt := 107) h0.1 h0.2 kd_B_account_17 (wq_tabO 0 4 (by decide) (fun k h1 h2 => by rcases (show k = 0 ∨ k = 1 ∨ k = 2 ∨ k = 3 ∨ k = 4 by omega) with rfl | rfl | rfl | rfl | rfl <;> first | exact hq _ List.mem_cons_self | exact hq _ (List.mem_cons_of_mem _ List.mem_cons_self) | exact hq _ (List.mem_cons_of_mem _ (List.mem_cons_of_mem _ List.mem_cons_self)) | exact hq _ (List.mem_cons_of_mem _ (List.mem_cons_of_mem _ (List.mem_cons_of_mem _ List.mem_cons_self))) | exact hq _ (List.mem_cons_of_mem _ (List.mem_cons_of_mem _ (List.mem_cons_of_mem _ (List.mem_cons_of_mem _ List.mem_cons_self)))))) (by decide) hw⟩
  exact hb_0 _ _ _ _ _ (wq_sp_t hsp)
set_option maxRecDepth 100000 in
set_option maxHeartbeats 4000000 in
theorem kv_B_books {l : Launch} (hl : l.stackTraces = false) : wq_Vld l kz_cl ky_B_books kw_T ({ frames := 7, cells := 1, slots := 6, locals := 101 }) wq_G0 ks_B_books 1 6 := by
  refine wq_method (cc := kc_B_books) (maxL := 2) (ret := (some .long)) (by decide) kw_975 (fun _ _ => rfl) wq_sp_sz ?_
  intro p e s m args below meth c cs D ad as w rt xt hF hnt hsp
  obtain ⟨h0, hr, hts, hown, hlk, hnm, hml, hK, hZ, hN, hA⟩ := hF
  have hown : s.vm.findClass "BorderDesk" = some m.cls := hown
  obtain ⟨A, hAe⟩ : ∃ A, A = wq_A ad w s.heap.size := ⟨_, rfl⟩
  rw [← hAe] at hZ hA ⊢
  have hb_30 : wq_Snd p l e ({ frames := 7, cells := 1, slots := 6, locals := 101 } : Room) s m args below meth c 2 cs D kz_cl A (wq_G0 ad w) (wq_Q cs D kz_cl A (wq_G0 ad w) rt xt below s 1 6) 30 (kt_B_books_30 rt xt) := by
    exact wq_lreturn_ok h0 hr hlk kd_B_books_30
  have hb_23 : wq_Snd p l e ({ frames := 7, cells := 1, slots := 6, locals := 101 } : Room) s m args below meth c 2 cs D kz_cl A (wq_G0 ad w) (wq_Q cs D kz_cl A (wq_G0 ad w) rt xt below s 1 6) 23 (kt_B_books_23 rt xt) := by
    refine wq_aload_n_ok h0 kd_B_books_23 rfl ?_
    refine wq_get_ok (wq_getOK h0 hts ki_B hown hK (ci := 0) rfl 7 (Nat.le_of_ble_eq_true rfl) kw_377 rfl) kd_B_books_24 ?_
    refine wq_get_ok (wq_getOK h0 hts ki_G hown hK (ci := 8) rfl 1 (Nat.le_of_ble_eq_true rfl) kw_352 rfl) kd_B_books_27 ?_
    exact hb_30
  have hb_0 : wq_Snd p l e ({ frames := 7, cells := 1, slots := 6, locals := 101 } : Room) s m args below meth c 2 cs D kz_cl A (wq_G0 ad w) (wq_Q cs D kz_cl A (wq_G0 ad w) rt xt below s 1 6) 0 (kt_B_books_0 rt xt) := by
    refine wq_iload_n_ok h0 kd_B_books_0 rfl ?_
    refine wq_iconst_ok h0 kd_B_books_1 (by decide +kernel) ?_
    refine wq_iconst_ok h0 kd_B_books_2 (by decide +kernel) ?_
    refine wq_call_ok hA (wq_runS ⟨h0.1, h0.2, hml, hown, hts⟩ (kv_B_isWithin hl) ⟨(wq_cB hts kw_G kw_517 kw_1 kw_515 ⟨by decide +kernel, by decide +kernel, by decide +kernel⟩ rfl rfl ⟨Nat.le_of_ble_eq_true rfl, Nat.le_of_ble_eq_true rfl⟩), hts _ kw_516⟩ hK hZ hN hA kd_B_books_3) (wq_xout_ok hnt hlk) ?_
    refine wq_call_ok hA (wq_runS ⟨h0.1, h0.2, hml, hown, hts⟩ (kv_B_requireArgument hl) ⟨(wq_cB hts kw_G kw_413 kw_1 kw_411 ⟨by decide +kernel, by decide +kernel, by decide +kernel⟩ rfl rfl ⟨Nat.le_of_ble_eq_true rfl, Nat.le_of_ble_eq_true rfl⟩), hts _ kw_412⟩ hK hZ hN hA kd_B_books_6) (wq_xout_ok hnt hlk) ?_
    refine wq_iload_n_ok h0 kd_B_books_9 rfl ?_
    refine wq_if_ne_ok (tgt := 23) h0 kd_B_books_10 (by decide) ?_ ?_
    · exact hb_23
    refine wq_aload_n_ok h0 kd_B_books_13 rfl ?_
    refine wq_get_ok (wq_getOK h0 hts ki_B hown hK (ci := 0) rfl 7 (Nat.le_of_ble_eq_true rfl) kw_377 rfl) kd_B_books_14 ?_
    refine wq_get_ok (wq_getOK h0 hts ki_G hown hK (ci := 8) rfl 0 (Nat.le_of_ble_eq_true rfl) kw_351 rfl) kd_B_books_17 ?_
    refine wq_goto_ok (tgt := 30) h0 kd_B_books_20 (by decide) ?_
    exact hb_30
  exact hb_0 _ _ _ _ _ (wq_sp_t hsp)
