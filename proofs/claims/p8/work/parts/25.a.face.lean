set_option maxRecDepth 100000 in
set_option maxHeartbeats 4000000 in
theorem kv_B_heading {l : Launch} (hl : l.stackTraces = false) : wq_Vld l kz_cl ky_B_heading kw_T ({ frames := 7, cells := 3, slots := 18, locals := 101 }) wq_G0 ks_B_heading 3 18 := by
  refine wq_method (cc := kc_B_heading) (maxL := 2) (ret := (some .int)) (by decide) kw_403 (fun _ _ => rfl) wq_sp_sz ?_
  intro p e s m args below meth c cs D ad as w rt xt hF hnt hsp
  obtain ⟨h0, hr, hts, hown, hlk, hnm, hml, hK, hZ, hN, hA⟩ := hF
  have hown : s.vm.findClass "BorderDesk" = some m.cls := hown
  obtain ⟨A, hAe⟩ : ∃ A, A = wq_A ad w s.heap.size := ⟨_, rfl⟩
  rw [← hAe] at hZ hA ⊢
  have hb_58 : wq_Snd p l e ({ frames := 7, cells := 3, slots := 18, locals := 101 } : Room) s m args below meth c 2 cs D kz_cl A (wq_G0 ad w) (wq_Q cs D kz_cl A (wq_G0 ad w) rt xt below s 3 18) 58 (kt_B_heading_58 rt xt) := by
    refine wq_call_ok hA (wq_runS ⟨h0.1, h0.2, hml, hown, hts⟩ (kv_B_requireState hl) ⟨(wq_cB hts kw_G kw_480 kw_1 kw_478 ⟨by decide +kernel, by decide +kernel, by decide +kernel⟩ rfl rfl ⟨Nat.le_of_ble_eq_true rfl, Nat.le_of_ble_eq_true rfl⟩), hts _ kw_479⟩ hK hZ hN hA kd_B_heading_58) (wq_xout_ok hnt hlk) ?_
    refine wq_aload_n_ok h0 kd_B_heading_61 rfl ?_
    refine wq_get_ok (wq_getOK h0 hts ki_B hown hK (ci := 0) rfl 0 (Nat.le_of_ble_eq_true rfl) kw_370 rfl) kd_B_heading_62 ?_
    refine wq_iload_n_ok h0 kd_B_heading_65 rfl ?_
    refine wq_call_ok hA (wq_runV (ci := 1) ⟨h0.1, h0.2, hml, hown, hts⟩ (kv_T_addHeading hl) ⟨(wq_cB hts kw_G kw_503 kw_2 kw_500 ⟨by decide +kernel, by decide +kernel, by decide +kernel⟩ rfl rfl ⟨Nat.le_of_ble_eq_true rfl, Nat.le_of_ble_eq_true rfl⟩), hts _ kw_501, hts _ kw_502⟩ rfl rfl hK hZ hN hA kd_B_heading_66) (wq_xout_ok hnt hlk) ?_
    exact wq_ireturn_ok h0 hr hlk kd_B_heading_69
  have hb_57 : wq_Snd p l e ({ frames := 7, cells := 3, slots := 18, locals := 101 } : Room) s m args below meth c 2 cs D kz_cl A (wq_G0 ad w) (wq_Q cs D kz_cl A (wq_G0 ad w) rt xt below s 3 18) 57 (kt_B_heading_57 rt xt) := by
    refine wq_iconst_ok h0 kd_B_heading_57 (by decide +kernel) ?_
    exact hb_58
  have hb_38 : wq_Snd p l e ({ frames := 7, cells := 3, slots := 18, locals := 101 } : Room) s m args below meth c 2 cs D kz_cl A (wq_G0 ad w) (wq_Q cs D kz_cl A (wq_G0 ad w) rt xt below s 3 18) 38 (kt_B_heading_38 rt xt) := by
    refine wq_call_ok hA (wq_runS ⟨h0.1, h0.2, hml, hown, hts⟩ (kv_B_requireState hl) ⟨(wq_cB hts kw_G kw_480 kw_1 kw_478 ⟨by decide +kernel, by decide +kernel, by decide +kernel⟩ rfl rfl ⟨Nat.le_of_ble_eq_true rfl, Nat.le_of_ble_eq_true rfl⟩), hts _ kw_479⟩ hK hZ hN hA kd_B_heading_38) (wq_xout_ok hnt hlk) ?_
    refine wq_aload_n_ok h0 kd_B_heading_41 rfl ?_
    refine wq_get_ok (wq_getOK h0 hts ki_B hown hK (ci := 0) rfl 0 (Nat.le_of_ble_eq_true rfl) kw_370 rfl) kd_B_heading_42 ?_
    refine wq_iload_n_ok h0 kd_B_heading_45 rfl ?_
    refine wq_call_ok hA (wq_runV (ci := 1) ⟨h0.1, h0.2, hml, hown, hts⟩ (kv_T_depthUnder hl) ⟨(wq_cB hts kw_G kw_499 kw_2 kw_496 ⟨by decide +kernel, by decide +kernel, by decide +kernel⟩ rfl rfl ⟨Nat.le_of_ble_eq_true rfl, Nat.le_of_ble_eq_true rfl⟩), hts _ kw_497, hts _ kw_498⟩ rfl rfl hK hZ hN hA kd_B_heading_46) (wq_xout_ok hnt hlk) ?_
    refine wq_iconst_ok h0 kd_B_heading_49 (by decide +kernel) ?_
    refine wq_icmp_gt_ok (tgt := 57) h0 kd_B_heading_50 (by decide) ?_ ?_
    · exact hb_57
    refine wq_iconst_ok h0 kd_B_heading_53 (by decide +kernel) ?_
    refine wq_goto_ok (tgt := 58) h0 kd_B_heading_54 (by decide) ?_
    exact hb_58
  have hb_37 : wq_Snd p l e ({ frames := 7, cells := 3, slots := 18, locals := 101 } : Room) s m args below meth c 2 cs D kz_cl A (wq_G0 ad w) (wq_Q cs D kz_cl A (wq_G0 ad w) rt xt below s 3 18) 37 (kt_B_heading_37 rt xt) := by
    refine wq_iconst_ok h0 kd_B_heading_37 (by decide +kernel) ?_
    exact hb_38
  have hb_18 : wq_Snd p l e ({ frames := 7, cells := 3, slots := 18, locals := 101 } : Room) s m args below meth c 2 cs D kz_cl A (wq_G0 ad w) (wq_Q cs D kz_cl A (wq_G0 ad w) rt xt below s 3 18) 18 (kt_B_heading_18 rt xt) := by
    refine wq_call_ok hA (wq_runS ⟨h0.1, h0.2, hml, hown, hts⟩ (kv_B_requireArgument hl) ⟨(wq_cB hts kw_G kw_413 kw_1 kw_411 ⟨by decide +kernel, by decide +kernel, by decide +kernel⟩ rfl rfl ⟨Nat.le_of_ble_eq_true rfl, Nat.le_of_ble_eq_true rfl⟩), hts _ kw_412⟩ hK hZ hN hA kd_B_heading_18) (wq_xout_ok hnt hlk) ?_
    refine wq_aload_n_ok h0 kd_B_heading_21 rfl ?_
    refine wq_get_ok (wq_getOK h0 hts ki_B hown hK (ci := 0) rfl 0 (Nat.le_of_ble_eq_true rfl) kw_370 rfl) kd_B_heading_22 ?_
    refine wq_get_ok (wq_getOK h0 hts ki_T hown hK (ci := 1) rfl 0 (Nat.le_of_ble_eq_true rfl) kw_37 rfl) kd_B_heading_25 ?_
    refine wq_bipush_ok h0 kd_B_heading_28 (by decide +kernel) ?_
    refine wq_icmp_ge_ok (tgt := 37) h0 kd_B_heading_30 (by decide) ?_ ?_
    · exact hb_37
    refine wq_iconst_ok h0 kd_B_heading_33 (by decide +kernel) ?_
    refine wq_goto_ok (tgt := 38) h0 kd_B_heading_34 (by decide) ?_
    exact hb_38
  have hb_13 : wq_Snd p l e ({ frames := 7, cells := 3, slots := 18, locals := 101 } : Room) s m args below meth c 2 cs D kz_cl A (wq_G0 ad w) (wq_Q cs D kz_cl A (wq_G0 ad w) rt xt below s 3 18) 13 (kt_B_heading_13 rt xt) := by
    refine wq_iconst_ok h0 kd_B_heading_13 (by decide +kernel) ?_
    refine wq_goto_ok (tgt := 18) h0 kd_B_heading_14 (by decide) ?_
    exact hb_18
  have hb_17 : wq_Snd p l e ({ frames := 7, cells := 3, slots := 18, locals := 101 } : Room) s m args below meth c 2 cs D kz_cl A (wq_G0 ad w) (wq_Q cs D kz_cl A (wq_G0 ad w) rt xt below s 3 18) 17 (kt_B_heading_17 rt xt) := by
    refine wq_iconst_ok h0 kd_B_heading_17 (by decide +kernel) ?_
    exact hb_18
  have hb_0 : wq_Snd p l e ({ frames := 7, cells := 3, slots := 18, locals := 101 } : Room) s m args below meth c 2 cs D kz_cl A (wq_G0 ad w) (wq_Q cs D kz_cl A (wq_G0 ad w) rt xt below s 3 18) 0 (kt_B_heading_0 rt xt) := by
    refine wq_iload_n_ok h0 kd_B_heading_0 rfl ?_
    refine wq_iconst_ok h0 kd_B_heading_1 (by decide +kernel) ?_
    refine wq_icmp_eq_ok (tgt := 13) h0 kd_B_heading_2 (by decide) ?_ ?_
    · exact hb_13
    refine wq_aload_n_ok h0 kd_B_heading_5 rfl ?_
    refine wq_iload_n_ok h0 kd_B_heading_6 rfl ?_
    refine wq_call_ok hA (wq_runV (ci := 0) ⟨h0.1, h0.2, hml, hown, hts⟩ (kv_B_isHeading hl) ⟨(wq_cB hts kw_G kw_407 kw_1 kw_404 ⟨by decide +kernel, by decide +kernel, by decide +kernel⟩ rfl rfl ⟨Nat.le_of_ble_eq_true rfl, Nat.le_of_ble_eq_true rfl⟩), hts _ kw_406, hts _ kw_s0⟩ rfl rfl hK hZ hN hA kd_B_heading_7) (wq_xout_ok hnt hlk) ?_
    refine wq_if_eq_ok (tgt := 17) h0 kd_B_heading_10 (by decide) ?_ ?_
    · exact hb_17
    exact hb_13
  exact hb_0 _ _ _ _ _ (wq_sp_t hsp)
set_option maxRecDepth 100000 in
set_option maxHeartbeats 4000000 in
theorem kv_B_note {l : Launch} (hl : l.stackTraces = false) : wq_Vld l kz_cl ky_B_note kw_T ({ frames := 7, cells := 5, slots := 30, locals := 101 }) wq_G0 ks_B_note 5 30 := by
  refine wq_method (cc := kc_B_note) (maxL := 5) (ret := (some .int)) (by decide) kw_511 (fun _ _ => rfl) wq_sp_sz ?_
  intro p e s m args below meth c cs D ad as w rt xt hF hnt hsp
  obtain ⟨h0, hr, hts, hown, hlk, hnm, hml, hK, hZ, hN, hA⟩ := hF
  have hown : s.vm.findClass "BorderDesk" = some m.cls := hown
  obtain ⟨A, hAe⟩ : ∃ A, A = wq_A ad w s.heap.size := ⟨_, rfl⟩
  rw [← hAe] at hZ hA ⊢
  have hb_79 : wq_Snd p l e ({ frames := 7, cells := 5, slots := 30, locals := 101 } : Room) s m args below meth c 5 cs D kz_cl A (wq_G0 ad w) (wq_Q cs D kz_cl A (wq_G0 ad w) rt xt below s 5 30) 79 (kt_B_note_79 rt xt) := by
    refine wq_call_ok hA (wq_runS ⟨h0.1, h0.2, hml, hown, hts⟩ (kv_B_requireState hl) ⟨(wq_cB hts kw_G kw_480 kw_1 kw_478 ⟨by decide +kernel, by decide +kernel, by decide +kernel⟩ rfl rfl ⟨Nat.le_of_ble_eq_true rfl, Nat.le_of_ble_eq_true rfl⟩), hts _ kw_479⟩ hK hZ hN hA kd_B_note_79) (wq_xout_ok hnt hlk) ?_
    refine wq_aload_n_ok h0 kd_B_note_82 rfl ?_
    refine wq_get_ok (wq_getOK h0 hts ki_B hown hK (ci := 0) rfl 0 (Nat.le_of_ble_eq_true rfl) kw_370 rfl) kd_B_note_83 ?_
    refine wq_iload_n_ok h0 kd_B_note_86 rfl ?_
    refine wq_iload_n_ok h0 kd_B_note_87 rfl ?_
    refine wq_iload_n_ok h0 kd_B_note_88 rfl ?_
    refine wq_iload_ok h0 kd_B_note_89 ?_
    refine wq_call_ok hA (wq_runV (ci := 1) ⟨h0.1, h0.2, hml, hown, hts⟩ (kv_T_addNote hl) ⟨(wq_cB hts kw_G kw_521 kw_2 kw_518 ⟨by decide +kernel, by decide +kernel, by decide +kernel⟩ rfl rfl ⟨Nat.le_of_ble_eq_true rfl, Nat.le_of_ble_eq_true rfl⟩), hts _ kw_519, hts _ kw_520⟩ rfl rfl hK hZ hN hA kd_B_note_91) (wq_xout_ok hnt hlk) ?_
    exact wq_ireturn_ok h0 hr hlk kd_B_note_94
  have hb_78 : wq_Snd p l e ({ frames := 7, cells := 5, slots := 30, locals := 101 } : Room) s m args below meth c 5 cs D kz_cl A (wq_G0 ad w) (wq_Q cs D kz_cl A (wq_G0 ad w) rt xt below s 5 30) 78 (kt_B_note_78 rt xt) := by
    refine wq_iconst_ok h0 kd_B_note_78 (by decide +kernel) ?_
    exact hb_79
  have hb_59 : wq_Snd p l e ({ frames := 7, cells := 5, slots := 30, locals := 101 } : Room) s m args below meth c 5 cs D kz_cl A (wq_G0 ad w) (wq_Q cs D kz_cl A (wq_G0 ad w) rt xt below s 5 30) 59 (kt_B_note_59 rt xt) := by
    refine wq_call_ok hA (wq_runS ⟨h0.1, h0.2, hml, hown, hts⟩ (kv_B_requireArgument hl) ⟨(wq_cB hts kw_G kw_413 kw_1 kw_411 ⟨by decide +kernel, by decide +kernel, by decide +kernel⟩ rfl rfl ⟨Nat.le_of_ble_eq_true rfl, Nat.le_of_ble_eq_true rfl⟩), hts _ kw_412⟩ hK hZ hN hA kd_B_note_59) (wq_xout_ok hnt hlk) ?_
    refine wq_aload_n_ok h0 kd_B_note_62 rfl ?_
    refine wq_get_ok (wq_getOK h0 hts ki_B hown hK (ci := 0) rfl 0 (Nat.le_of_ble_eq_true rfl) kw_370 rfl) kd_B_note_63 ?_
    refine wq_get_ok (wq_getOK h0 hts ki_T hown hK (ci := 1) rfl 5 (Nat.le_of_ble_eq_true rfl) kw_48 rfl) kd_B_note_66 ?_
    refine wq_bipush_ok h0 kd_B_note_69 (by decide +kernel) ?_
    refine wq_icmp_ge_ok (tgt := 78) h0 kd_B_note_71 (by decide) ?_ ?_
    · exact hb_78
    refine wq_iconst_ok h0 kd_B_note_74 (by decide +kernel) ?_
    refine wq_goto_ok (tgt := 79) h0 kd_B_note_75 (by decide) ?_
    exact hb_79
  have hb_54 : wq_Snd p l e ({ frames := 7, cells := 5, slots := 30, locals := 101 } : Room) s m args below meth c 5 cs D kz_cl A (wq_G0 ad w) (wq_Q cs D kz_cl A (wq_G0 ad w) rt xt below s 5 30) 54 (kt_B_note_54 rt xt) := by
    refine wq_iconst_ok h0 kd_B_note_54 (by decide +kernel) ?_
    refine wq_goto_ok (tgt := 59) h0 kd_B_note_55 (by decide) ?_
    exact hb_59
  have hb_58 : wq_Snd p l e ({ frames := 7, cells := 5, slots := 30, locals := 101 } : Room) s m args below meth c 5 cs D kz_cl A (wq_G0 ad w) (wq_Q cs D kz_cl A (wq_G0 ad w) rt xt below s 5 30) 58 (kt_B_note_58 rt xt) := by
    refine wq_iconst_ok h0 kd_B_note_58 (by decide +kernel) ?_
    exact hb_59
  have hb_20 : wq_Snd p l e ({ frames := 7, cells := 5, slots := 30, locals := 101 } : Room) s m args below meth c 5 cs D kz_cl A (wq_G0 ad w) (wq_Q cs D kz_cl A (wq_G0 ad w) rt xt below s 5 30) 20 (kt_B_note_20 rt xt) := by
    refine wq_call_ok hA (wq_runS ⟨h0.1, h0.2, hml, hown, hts⟩ (kv_B_requireArgument hl) ⟨(wq_cB hts kw_G kw_413 kw_1 kw_411 ⟨by decide +kernel, by decide +kernel, by decide +kernel⟩ rfl rfl ⟨Nat.le_of_ble_eq_true rfl, Nat.le_of_ble_eq_true rfl⟩), hts _ kw_412⟩ hK hZ hN hA kd_B_note_20) (wq_xout_ok hnt hlk) ?_
    refine wq_iload_n_ok h0 kd_B_note_23 rfl ?_
    refine wq_iconst_ok h0 kd_B_note_24 (by decide +kernel) ?_
    refine wq_iconst_ok h0 kd_B_note_25 (by decide +kernel) ?_
    refine wq_call_ok hA (wq_runS ⟨h0.1, h0.2, hml, hown, hts⟩ (kv_B_isWithin hl) ⟨(wq_cB hts kw_G kw_517 kw_1 kw_515 ⟨by decide +kernel, by decide +kernel, by decide +kernel⟩ rfl rfl ⟨Nat.le_of_ble_eq_true rfl, Nat.le_of_ble_eq_true rfl⟩), hts _ kw_516⟩ hK hZ hN hA kd_B_note_26) (wq_xout_ok hnt hlk) ?_
    refine wq_call_ok hA (wq_runS ⟨h0.1, h0.2, hml, hown, hts⟩ (kv_B_requireArgument hl) ⟨(wq_cB hts kw_G kw_413 kw_1 kw_411 ⟨by decide +kernel, by decide +kernel, by decide +kernel⟩ rfl rfl ⟨Nat.le_of_ble_eq_true rfl, Nat.le_of_ble_eq_true rfl⟩), hts _ kw_412⟩ hK hZ hN hA kd_B_note_29) (wq_xout_ok hnt hlk) ?_
    refine wq_iload_ok h0 kd_B_note_32 ?_
    refine wq_iconst_ok h0 kd_B_note_34 (by decide +kernel) ?_
    refine wq_sipush_ok h0 kd_B_note_35 (by decide +kernel) ?_
    refine wq_call_ok hA (wq_runS ⟨h0.1, h0.2, hml, hown, hts⟩ (kv_B_isWithin hl) ⟨(wq_cB hts kw_G kw_517 kw_1 kw_515 ⟨by decide +kernel, by decide +kernel, by decide +kernel⟩ rfl rfl ⟨Nat.le_of_ble_eq_true rfl, Nat.le_of_ble_eq_true rfl⟩), hts _ kw_516⟩ hK hZ hN hA kd_B_note_38) (wq_xout_ok hnt hlk) ?_
    refine wq_call_ok hA (wq_runS ⟨h0.1, h0.2, hml, hown, hts⟩ (kv_B_requireArgument hl) ⟨(wq_cB hts kw_G kw_413 kw_1 kw_411 ⟨by decide +kernel, by decide +kernel, by decide +kernel⟩ rfl rfl ⟨Nat.le_of_ble_eq_true rfl, Nat.le_of_ble_eq_true rfl⟩), hts _ kw_412⟩ hK hZ hN hA kd_B_note_41) (wq_xout_ok hnt hlk) ?_
    refine wq_iload_n_ok h0 kd_B_note_44 rfl ?_
    refine wq_iconst_ok h0 kd_B_note_45 (by decide +kernel) ?_
    refine wq_icmp_ne_ok (tgt := 54) h0 kd_B_note_46 (by decide) ?_ ?_
    · exact hb_54
    refine wq_iload_n_ok h0 kd_B_note_49 rfl ?_
    refine wq_iconst_ok h0 kd_B_note_50 (by decide +kernel) ?_
    refine wq_icmp_ge_ok (tgt := 58) h0 kd_B_note_51 (by decide) ?_ ?_
    · exact hb_58
    exact hb_54
  have hb_19 : wq_Snd p l e ({ frames := 7, cells := 5, slots := 30, locals := 101 } : Room) s m args below meth c 5 cs D kz_cl A (wq_G0 ad w) (wq_Q cs D kz_cl A (wq_G0 ad w) rt xt below s 5 30) 19 (kt_B_note_19 rt xt) := by
    refine wq_iconst_ok h0 kd_B_note_19 (by decide +kernel) ?_
    exact hb_20
  have hb_0 : wq_Snd p l e ({ frames := 7, cells := 5, slots := 30, locals := 101 } : Room) s m args below meth c 5 cs D kz_cl A (wq_G0 ad w) (wq_Q cs D kz_cl A (wq_G0 ad w) rt xt below s 5 30) 0 (kt_B_note_0 rt xt) := by
    refine wq_aload_n_ok h0 kd_B_note_0 rfl ?_
    refine wq_iload_n_ok h0 kd_B_note_1 rfl ?_
    refine wq_call_ok hA (wq_runV (ci := 0) ⟨h0.1, h0.2, hml, hown, hts⟩ (kv_B_isHeading hl) ⟨(wq_cB hts kw_G kw_407 kw_1 kw_404 ⟨by decide +kernel, by decide +kernel, by decide +kernel⟩ rfl rfl ⟨Nat.le_of_ble_eq_true rfl, Nat.le_of_ble_eq_true rfl⟩), hts _ kw_406, hts _ kw_s0⟩ rfl rfl hK hZ hN hA kd_B_note_2) (wq_xout_ok hnt hlk) ?_
    refine wq_if_eq_ok (tgt := 19) h0 kd_B_note_5 (by decide) ?_ ?_
    · exact hb_19
    refine wq_iload_n_ok h0 kd_B_note_8 rfl ?_
    refine wq_call_ok hA (wq_runS ⟨h0.1, h0.2, hml, hown, hts⟩ (kv_B_isFact hl) ⟨(wq_cB hts kw_G kw_514 kw_1 kw_512 ⟨by decide +kernel, by decide +kernel, by decide +kernel⟩ rfl rfl ⟨Nat.le_of_ble_eq_true rfl, Nat.le_of_ble_eq_true rfl⟩), hts _ kw_513⟩ hK hZ hN hA kd_B_note_9) (wq_xout_ok hnt hlk) ?_
    refine wq_if_eq_ok (tgt := 19) h0 kd_B_note_12 (by decide) ?_ ?_
    · exact hb_19
    refine wq_iconst_ok h0 kd_B_note_15 (by decide +kernel) ?_
    refine wq_goto_ok (tgt := 20) h0 kd_B_note_16 (by decide) ?_
    exact hb_20
  exact hb_0 _ _ _ _ _ (wq_sp_t hsp)
set_option maxRecDepth 100000 in
set_option maxHeartbeats 4000000 in
theorem kv_B_fact {l : Launch} (hl : l.stackTraces = false) : wq_Vld l kz_cl ky_B_fact kw_T ({ frames := 7, cells := 2, slots := 12, locals := 101 }) wq_G0 ks_B_fact 2 12 := by
  refine wq_method (cc := kc_B_fact) (maxL := 5) (ret := (some .int)) (by decide) kw_528 (fun _ _ => rfl) wq_sp_sz ?_
  intro p e s m args below meth c cs D ad as w rt xt hF hnt hsp
  obtain ⟨h0, hr, hts, hown, hlk, hnm, hml, hK, hZ, hN, hA⟩ := hF
  have hown : s.vm.findClass "BorderDesk" = some m.cls := hown
  obtain ⟨A, hAe⟩ : ∃ A, A = wq_A ad w s.heap.size := ⟨_, rfl⟩
  rw [← hAe] at hZ hA ⊢
  have hb_19 : wq_Snd p l e ({ frames := 7, cells := 2, slots := 12, locals := 101 } : Room) s m args below meth c 5 cs D kz_cl A (wq_G0 ad w) (wq_Q cs D kz_cl A (wq_G0 ad w) rt xt below s 2 12) 19 (kt_B_fact_19 rt xt) := by
    refine wq_call_ok hA (wq_runS ⟨h0.1, h0.2, hml, hown, hts⟩ (kv_B_requireArgument hl) ⟨(wq_cB hts kw_G kw_413 kw_1 kw_411 ⟨by decide +kernel, by decide +kernel, by decide +kernel⟩ rfl rfl ⟨Nat.le_of_ble_eq_true rfl, Nat.le_of_ble_eq_true rfl⟩), hts _ kw_412⟩ hK hZ hN hA kd_B_fact_19) (wq_xout_ok hnt hlk) ?_
    refine wq_iload_n_ok h0 kd_B_fact_22 rfl ?_
    refine wq_iconst_ok h0 kd_B_fact_23 (by decide +kernel) ?_
    refine wq_sipush_ok h0 kd_B_fact_24 (by decide +kernel) ?_
    refine wq_call_ok hA (wq_runS ⟨h0.1, h0.2, hml, hown, hts⟩ (kv_B_isWithin hl) ⟨(wq_cB hts kw_G kw_517 kw_1 kw_515 ⟨by decide +kernel, by decide +kernel, by decide +kernel⟩ rfl rfl ⟨Nat.le_of_ble_eq_true rfl, Nat.le_of_ble_eq_true rfl⟩), hts _ kw_516⟩ hK hZ hN hA kd_B_fact_27) (wq_xout_ok hnt hlk) ?_
    refine wq_call_ok hA (wq_runS ⟨h0.1, h0.2, hml, hown, hts⟩ (kv_B_requireArgument hl) ⟨(wq_cB hts kw_G kw_413 kw_1 kw_411 ⟨by decide +kernel, by decide +kernel, by decide +kernel⟩ rfl rfl ⟨Nat.le_of_ble_eq_true rfl, Nat.le_of_ble_eq_true rfl⟩), hts _ kw_412⟩ hK hZ hN hA kd_B_fact_30) (wq_xout_ok hnt hlk) ?_
    refine wq_aload_n_ok h0 kd_B_fact_33 rfl ?_
    refine wq_get_ok (wq_getOK h0 hts ki_B hown hK (ci := 0) rfl 0 (Nat.le_of_ble_eq_true rfl) kw_370 rfl) kd_B_fact_34 ?_
    refine wq_get_ok (wq_getOK h0 hts ki_T hown hK (ci := 1) rfl 10 (Nat.le_of_ble_eq_true rfl) kw_55 rfl) kd_B_fact_37 ?_
    refine wq_iload_n_ok h0 kd_B_fact_40 rfl ?_
    refine wq_aald_ok h0 hK kd_B_fact_41 ?_
    refine wq_iload_n_ok h0 kd_B_fact_42 rfl ?_
    refine wq_iald_ok h0 hK kd_B_fact_43 ?_
    refine wq_istore_ok h0 kd_B_fact_44 (Nat.le_of_ble_eq_true rfl) ?_
    refine wq_aload_n_ok h0 kd_B_fact_46 rfl ?_
    refine wq_get_ok (wq_getOK h0 hts ki_B hown hK (ci := 0) rfl 0 (Nat.le_of_ble_eq_true rfl) kw_370 rfl) kd_B_fact_47 ?_
    refine wq_get_ok (wq_getOK h0 hts ki_T hown hK (ci := 1) rfl 10 (Nat.le_of_ble_eq_true rfl) kw_55 rfl) kd_B_fact_50 ?_
    refine wq_iload_n_ok h0 kd_B_fact_53 rfl ?_
    refine wq_aald_ok h0 hK kd_B_fact_54 ?_
    refine wq_iload_n_ok h0 kd_B_fact_55 rfl ?_
    refine wq_iload_n_ok h0 kd_B_fact_56 rfl ?_
    refine wq_iast_ok h0 hK kd_B_fact_57 ?_
    refine wq_iload_ok h0 kd_B_fact_58 ?_
    exact wq_ireturn_ok h0 hr hlk kd_B_fact_60
  have hb_18 : wq_Snd p l e ({ frames := 7, cells := 2, slots := 12, locals := 101 } : Room) s m args below meth c 5 cs D kz_cl A (wq_G0 ad w) (wq_Q cs D kz_cl A (wq_G0 ad w) rt xt below s 2 12) 18 (kt_B_fact_18 rt xt) := by
    refine wq_iconst_ok h0 kd_B_fact_18 (by decide +kernel) ?_
    exact hb_19
  have hb_0 : wq_Snd p l e ({ frames := 7, cells := 2, slots := 12, locals := 101 } : Room) s m args below meth c 5 cs D kz_cl A (wq_G0 ad w) (wq_Q cs D kz_cl A (wq_G0 ad w) rt xt below s 2 12) 0 (kt_B_fact_0 rt xt) := by
    refine wq_iload_n_ok h0 kd_B_fact_0 rfl ?_
    refine wq_call_ok hA (wq_runS ⟨h0.1, h0.2, hml, hown, hts⟩ (kv_B_isGood hl) ⟨(wq_cB hts kw_G kw_531 kw_1 kw_529 ⟨by decide +kernel, by decide +kernel, by decide +kernel⟩ rfl rfl ⟨Nat.le_of_ble_eq_true rfl, Nat.le_of_ble_eq_true rfl⟩), hts _ kw_530⟩ hK hZ hN hA kd_B_fact_1) (wq_xout_ok hnt hlk) ?_
    refine wq_if_eq_ok (tgt := 18) h0 kd_B_fact_4 (by decide) ?_ ?_
    · exact hb_18
    refine wq_iload_n_ok h0 kd_B_fact_7 rfl ?_
    refine wq_call_ok hA (wq_runS ⟨h0.1, h0.2, hml, hown, hts⟩ (kv_B_isFact hl) ⟨(wq_cB hts kw_G kw_514 kw_1 kw_512 ⟨by decide +kernel, by decide +kernel, by decide +kernel⟩ rfl rfl ⟨Nat.le_of_ble_eq_true rfl, Nat.le_of_ble_eq_true rfl⟩), hts _ kw_513⟩ hK hZ hN hA kd_B_fact_8) (wq_xout_ok hnt hlk) ?_
    refine wq_if_eq_ok (tgt := 18) h0 kd_B_fact_11 (by decide) ?_ ?_
    · exact hb_18
    refine wq_iconst_ok h0 kd_B_fact_14 (by decide +kernel) ?_
    refine wq_goto_ok (tgt := 19) h0 kd_B_fact_15 (by decide) ?_
    exact hb_19
  exact hb_0 _ _ _ _ _ (wq_sp_t hsp)
set_option maxRecDepth 100000 in
set_option maxHeartbeats 4000000 in
theorem kv_B_classify {l : Launch} (hl : l.stackTraces = false) : wq_Vld l kz_cl ky_B_classify kw_T ({ frames := 7, cells := 1, slots := 6, locals := 101 }) wq_G0 ks_B_classify 1 6 := by
  refine wq_method (cc := kc_B_classify) (maxL := 2) (ret := (some .int)) (by decide) kw_538 (fun _ _ => rfl) wq_sp_sz ?_
  intro p e s m args below meth c cs D ad as w rt xt hF hnt hsp
  obtain ⟨h0, hr, hts, hown, hlk, hnm, hml, hK, hZ, hN, hA⟩ := hF
  have hown : s.vm.findClass "BorderDesk" = some m.cls := hown
  obtain ⟨A, hAe⟩ : ∃ A, A = wq_A ad w s.heap.size := ⟨_, rfl⟩
  rw [← hAe] at hZ hA ⊢
  have hb_0 : wq_Snd p l e ({ frames := 7, cells := 1, slots := 6, locals := 101 } : Room) s m args below meth c 2 cs D kz_cl A (wq_G0 ad w) (wq_Q cs D kz_cl A (wq_G0 ad w) rt xt below s 1 6) 0 (kt_B_classify_0 rt xt) := by
    refine wq_iload_n_ok h0 kd_B_classify_0 rfl ?_
    refine wq_call_ok hA (wq_runS ⟨h0.1, h0.2, hml, hown, hts⟩ (kv_B_isGood hl) ⟨(wq_cB hts kw_G kw_531 kw_1 kw_529 ⟨by decide +kernel, by decide +kernel, by decide +kernel⟩ rfl rfl ⟨Nat.le_of_ble_eq_true rfl, Nat.le_of_ble_eq_true rfl⟩), hts _ kw_530⟩ hK hZ hN hA kd_B_classify_1) (wq_xout_ok hnt hlk) ?_
    refine wq_call_ok hA (wq_runS ⟨h0.1, h0.2, hml, hown, hts⟩ (kv_B_requireArgument hl) ⟨(wq_cB hts kw_G kw_413 kw_1 kw_411 ⟨by decide +kernel, by decide +kernel, by decide +kernel⟩ rfl rfl ⟨Nat.le_of_ble_eq_true rfl, Nat.le_of_ble_eq_true rfl⟩), hts _ kw_412⟩ hK hZ hN hA kd_B_classify_4) (wq_xout_ok hnt hlk) ?_
    refine wq_aload_n_ok h0 kd_B_classify_7 rfl ?_
    refine wq_get_ok (wq_getOK h0 hts ki_B hown hK (ci := 0) rfl 0 (Nat.le_of_ble_eq_true rfl) kw_370 rfl) kd_B_classify_8 ?_
    refine wq_iload_n_ok h0 kd_B_classify_11 rfl ?_
    refine wq_call_ok hA (wq_runV (ci := 1) ⟨h0.1, h0.2, hml, hown, hts⟩ (kv_T_classOf hl) ⟨(wq_cB hts kw_G kw_542 kw_2 kw_539 ⟨by decide +kernel, by decide +kernel, by decide +kernel⟩ rfl rfl ⟨Nat.le_of_ble_eq_true rfl, Nat.le_of_ble_eq_true rfl⟩), hts _ kw_540, hts _ kw_541⟩ rfl rfl hK hZ hN hA kd_B_classify_12) (wq_xout_ok hnt hlk) ?_
    exact wq_ireturn_ok h0 hr hlk kd_B_classify_15
  exact hb_0 _ _ _ _ _ (wq_sp_t hsp)
set_option maxRecDepth 100000 in
set_option maxHeartbeats 4000000 in
theorem kv_B_rate {l : Launch} (hl : l.stackTraces = false) : wq_Vld l kz_cl ky_B_rate kw_T ({ frames := 7, cells := 5, slots := 30, locals := 101 }) wq_G0 ks_B_rate 5 30 := by
  refine wq_method (cc := kc_B_rate) (maxL := 8) (ret := (some .int)) (by decide) kw_572 (fun _ _ => rfl) wq_sp_sz ?_
  intro p e s m args below meth c cs D ad as w rt xt hF hnt hsp
  obtain ⟨h0, hr, hts, hown, hlk, hnm, hml, hK, hZ, hN, hA⟩ := hF
  have hown : s.vm.findClass "BorderDesk" = some m.cls := hown
  obtain ⟨A, hAe⟩ : ∃ A, A = wq_A ad w s.heap.size := ⟨_, rfl⟩
  rw [← hAe] at hZ hA ⊢
  have hb_117 : wq_Snd p l e ({ frames := 7, cells := 5, slots := 30, locals := 101 } : Room) s m args below meth c 8 cs D kz_cl A (wq_G0 ad w) (wq_Q cs D kz_cl A (wq_G0 ad w) rt xt below s 5 30) 117 (kt_B_rate_117 rt xt) := by
    refine wq_call_ok hA (wq_runS ⟨h0.1, h0.2, hml, hown, hts⟩ (kv_B_requireState hl) ⟨(wq_cB hts kw_G kw_480 kw_1 kw_478 ⟨by decide +kernel, by decide +kernel, by decide +kernel⟩ rfl rfl ⟨Nat.le_of_ble_eq_true rfl, Nat.le_of_ble_eq_true rfl⟩), hts _ kw_479⟩ hK hZ hN hA kd_B_rate_117) (wq_xout_ok hnt hlk) ?_
    refine wq_aload_n_ok h0 kd_B_rate_120 rfl ?_
    refine wq_get_ok (wq_getOK h0 hts ki_B hown hK (ci := 0) rfl 1 (Nat.le_of_ble_eq_true rfl) kw_371 rfl) kd_B_rate_121 ?_
    refine wq_iload_n_ok h0 kd_B_rate_124 rfl ?_
    refine wq_iload_n_ok h0 kd_B_rate_125 rfl ?_
    refine wq_iload_n_ok h0 kd_B_rate_126 rfl ?_
    refine wq_iload_ok h0 kd_B_rate_127 ?_
    refine wq_iload_ok h0 kd_B_rate_129 ?_
    refine wq_iload_ok h0 kd_B_rate_131 ?_
    refine wq_iload_ok h0 kd_B_rate_133 ?_
    refine wq_call_ok hA (wq_runV (ci := 2) ⟨h0.1, h0.2, hml, hown, hts⟩ (kv_R_add hl) ⟨(wq_cB hts kw_G kw_582 kw_3 kw_579 ⟨by decide +kernel, by decide +kernel, by decide +kernel⟩ rfl rfl ⟨Nat.le_of_ble_eq_true rfl, Nat.le_of_ble_eq_true rfl⟩), hts _ kw_580, hts _ kw_581⟩ rfl rfl hK hZ hN hA kd_B_rate_135) (wq_xout_ok hnt hlk) ?_
    exact wq_ireturn_ok h0 hr hlk kd_B_rate_138
  have hb_116 : wq_Snd p l e ({ frames := 7, cells := 5, slots := 30, locals := 101 } : Room) s m args below meth c 8 cs D kz_cl A (wq_G0 ad w) (wq_Q cs D kz_cl A (wq_G0 ad w) rt xt below s 5 30) 116 (kt_B_rate_116 rt xt) := by
    refine wq_iconst_ok h0 kd_B_rate_116 (by decide +kernel) ?_
    exact hb_117
  have hb_97 : wq_Snd p l e ({ frames := 7, cells := 5, slots := 30, locals := 101 } : Room) s m args below meth c 8 cs D kz_cl A (wq_G0 ad w) (wq_Q cs D kz_cl A (wq_G0 ad w) rt xt below s 5 30) 97 (kt_B_rate_97 rt xt) := by
    refine wq_call_ok hA (wq_runS ⟨h0.1, h0.2, hml, hown, hts⟩ (kv_B_requireArgument hl) ⟨(wq_cB hts kw_G kw_413 kw_1 kw_411 ⟨by decide +kernel, by decide +kernel, by decide +kernel⟩ rfl rfl ⟨Nat.le_of_ble_eq_true rfl, Nat.le_of_ble_eq_true rfl⟩), hts _ kw_412⟩ hK hZ hN hA kd_B_rate_97) (wq_xout_ok hnt hlk) ?_
    refine wq_aload_n_ok h0 kd_B_rate_100 rfl ?_
    refine wq_get_ok (wq_getOK h0 hts ki_B hown hK (ci := 0) rfl 1 (Nat.le_of_ble_eq_true rfl) kw_371 rfl) kd_B_rate_101 ?_
    refine wq_get_ok (wq_getOK h0 hts ki_R hown hK (ci := 2) rfl 1 (Nat.le_of_ble_eq_true rfl) kw_95 rfl) kd_B_rate_104 ?_
    refine wq_bipush_ok h0 kd_B_rate_107 (by decide +kernel) ?_
    refine wq_icmp_ge_ok (tgt := 116) h0 kd_B_rate_109 (by decide) ?_ ?_
    · exact hb_116
    refine wq_iconst_ok h0 kd_B_rate_112 (by decide +kernel) ?_
    refine wq_goto_ok (tgt := 117) h0 kd_B_rate_113 (by decide) ?_
    exact hb_117
  have hb_96 : wq_Snd p l e ({ frames := 7, cells := 5, slots := 30, locals := 101 } : Room) s m args below meth c 8 cs D kz_cl A (wq_G0 ad w) (wq_Q cs D kz_cl A (wq_G0 ad w) rt xt below s 5 30) 96 (kt_B_rate_96 rt xt) := by
    refine wq_iconst_ok h0 kd_B_rate_96 (by decide +kernel) ?_
    exact hb_97
  have hb_66 : wq_Snd p l e ({ frames := 7, cells := 5, slots := 30, locals := 101 } : Room) s m args below meth c 8 cs D kz_cl A (wq_G0 ad w) (wq_Q cs D kz_cl A (wq_G0 ad w) rt xt below s 5 30) 66 (kt_B_rate_66 rt xt) := by
    refine wq_call_ok hA (wq_runS ⟨h0.1, h0.2, hml, hown, hts⟩ (kv_B_requireArgument hl) ⟨(wq_cB hts kw_G kw_413 kw_1 kw_411 ⟨by decide +kernel, by decide +kernel, by decide +kernel⟩ rfl rfl ⟨Nat.le_of_ble_eq_true rfl, Nat.le_of_ble_eq_true rfl⟩), hts _ kw_412⟩ hK hZ hN hA kd_B_rate_66) (wq_xout_ok hnt hlk) ?_
    refine wq_iload_ok h0 kd_B_rate_69 ?_
    refine wq_call_ok hA (wq_runS ⟨h0.1, h0.2, hml, hown, hts⟩ (kv_B_isDay hl) ⟨(wq_cB hts kw_G kw_578 kw_1 kw_576 ⟨by decide +kernel, by decide +kernel, by decide +kernel⟩ rfl rfl ⟨Nat.le_of_ble_eq_true rfl, Nat.le_of_ble_eq_true rfl⟩), hts _ kw_577⟩ hK hZ hN hA kd_B_rate_71) (wq_xout_ok hnt hlk) ?_
    refine wq_if_eq_ok (tgt := 96) h0 kd_B_rate_74 (by decide) ?_ ?_
    · exact hb_96
    refine wq_iload_ok h0 kd_B_rate_77 ?_
    refine wq_call_ok hA (wq_runS ⟨h0.1, h0.2, hml, hown, hts⟩ (kv_B_isDay hl) ⟨(wq_cB hts kw_G kw_578 kw_1 kw_576 ⟨by decide +kernel, by decide +kernel, by decide +kernel⟩ rfl rfl ⟨Nat.le_of_ble_eq_true rfl, Nat.le_of_ble_eq_true rfl⟩), hts _ kw_577⟩ hK hZ hN hA kd_B_rate_79) (wq_xout_ok hnt hlk) ?_
    refine wq_if_eq_ok (tgt := 96) h0 kd_B_rate_82 (by decide) ?_ ?_
    · exact hb_96
    refine wq_iload_ok h0 kd_B_rate_85 ?_
    refine wq_iload_ok h0 kd_B_rate_87 ?_
    refine wq_icmp_gt_ok (tgt := 96) h0 kd_B_rate_89 (by decide) ?_ ?_
    · exact hb_96
    refine wq_iconst_ok h0 kd_B_rate_92 (by decide +kernel) ?_
    refine wq_goto_ok (tgt := 97) h0 kd_B_rate_93 (by decide) ?_
    exact hb_97
  have hb_65 : wq_Snd p l e ({ frames := 7, cells := 5, slots := 30, locals := 101 } : Room) s m args below meth c 8 cs D kz_cl A (wq_G0 ad w) (wq_Q cs D kz_cl A (wq_G0 ad w) rt xt below s 5 30) 65 (kt_B_rate_65 rt xt) := by
    refine wq_iconst_ok h0 kd_B_rate_65 (by decide +kernel) ?_
    exact hb_66
  have hb_25 : wq_Snd p l e ({ frames := 7, cells := 5, slots := 30, locals := 101 } : Room) s m args below meth c 8 cs D kz_cl A (wq_G0 ad w) (wq_Q cs D kz_cl A (wq_G0 ad w) rt xt below s 5 30) 25 (kt_B_rate_25 rt xt) := by
    refine wq_call_ok hA (wq_runS ⟨h0.1, h0.2, hml, hown, hts⟩ (kv_B_requireArgument hl) ⟨(wq_cB hts kw_G kw_413 kw_1 kw_411 ⟨by decide +kernel, by decide +kernel, by decide +kernel⟩ rfl rfl ⟨Nat.le_of_ble_eq_true rfl, Nat.le_of_ble_eq_true rfl⟩), hts _ kw_412⟩ hK hZ hN hA kd_B_rate_25) (wq_xout_ok hnt hlk) ?_
    refine wq_iload_n_ok h0 kd_B_rate_28 rfl ?_
    refine wq_iconst_ok h0 kd_B_rate_29 (by decide +kernel) ?_
    refine wq_iconst_ok h0 kd_B_rate_30 (by decide +kernel) ?_
    refine wq_call_ok hA (wq_runS ⟨h0.1, h0.2, hml, hown, hts⟩ (kv_B_isWithin hl) ⟨(wq_cB hts kw_G kw_517 kw_1 kw_515 ⟨by decide +kernel, by decide +kernel, by decide +kernel⟩ rfl rfl ⟨Nat.le_of_ble_eq_true rfl, Nat.le_of_ble_eq_true rfl⟩), hts _ kw_516⟩ hK hZ hN hA kd_B_rate_31) (wq_xout_ok hnt hlk) ?_
    refine wq_call_ok hA (wq_runS ⟨h0.1, h0.2, hml, hown, hts⟩ (kv_B_requireArgument hl) ⟨(wq_cB hts kw_G kw_413 kw_1 kw_411 ⟨by decide +kernel, by decide +kernel, by decide +kernel⟩ rfl rfl ⟨Nat.le_of_ble_eq_true rfl, Nat.le_of_ble_eq_true rfl⟩), hts _ kw_412⟩ hK hZ hN hA kd_B_rate_34) (wq_xout_ok hnt hlk) ?_
    refine wq_iload_ok h0 kd_B_rate_37 ?_
    refine wq_iconst_ok h0 kd_B_rate_39 (by decide +kernel) ?_
    refine wq_sipush_ok h0 kd_B_rate_40 (by decide +kernel) ?_
    refine wq_call_ok hA (wq_runS ⟨h0.1, h0.2, hml, hown, hts⟩ (kv_B_isWithin hl) ⟨(wq_cB hts kw_G kw_517 kw_1 kw_515 ⟨by decide +kernel, by decide +kernel, by decide +kernel⟩ rfl rfl ⟨Nat.le_of_ble_eq_true rfl, Nat.le_of_ble_eq_true rfl⟩), hts _ kw_516⟩ hK hZ hN hA kd_B_rate_43) (wq_xout_ok hnt hlk) ?_
    refine wq_if_eq_ok (tgt := 65) h0 kd_B_rate_46 (by decide) ?_ ?_
    · exact hb_65
    refine wq_iload_ok h0 kd_B_rate_49 ?_
    refine wq_iconst_ok h0 kd_B_rate_51 (by decide +kernel) ?_
    refine wq_sipush_ok h0 kd_B_rate_52 (by decide +kernel) ?_
    refine wq_call_ok hA (wq_runS ⟨h0.1, h0.2, hml, hown, hts⟩ (kv_B_isWithin hl) ⟨(wq_cB hts kw_G kw_517 kw_1 kw_515 ⟨by decide +kernel, by decide +kernel, by decide +kernel⟩ rfl rfl ⟨Nat.le_of_ble_eq_true rfl, Nat.le_of_ble_eq_true rfl⟩), hts _ kw_516⟩ hK hZ hN hA kd_B_rate_55) (wq_xout_ok hnt hlk) ?_
    refine wq_if_eq_ok (tgt := 65) h0 kd_B_rate_58 (by decide) ?_ ?_
    · exact hb_65
    refine wq_iconst_ok h0 kd_B_rate_61 (by decide +kernel) ?_
    refine wq_goto_ok (tgt := 66) h0 kd_B_rate_62 (by decide) ?_
    exact hb_66
  have hb_24 : wq_Snd p l e ({ frames := 7, cells := 5, slots := 30, locals := 101 } : Room) s m args below meth c 8 cs D kz_cl A (wq_G0 ad w) (wq_Q cs D kz_cl A (wq_G0 ad w) rt xt below s 5 30) 24 (kt_B_rate_24 rt xt) := by
    refine wq_iconst_ok h0 kd_B_rate_24 (by decide +kernel) ?_
    exact hb_25
  have hb_20 : wq_Snd p l e ({ frames := 7, cells := 5, slots := 30, locals := 101 } : Room) s m args below meth c 8 cs D kz_cl A (wq_G0 ad w) (wq_Q cs D kz_cl A (wq_G0 ad w) rt xt below s 5 30) 20 (kt_B_rate_20 rt xt) := by
    refine wq_iconst_ok h0 kd_B_rate_20 (by decide +kernel) ?_
    refine wq_goto_ok (tgt := 25) h0 kd_B_rate_21 (by decide) ?_
    exact hb_25
  have hb_0 : wq_Snd p l e ({ frames := 7, cells := 5, slots := 30, locals := 101 } : Room) s m args below meth c 8 cs D kz_cl A (wq_G0 ad w) (wq_Q cs D kz_cl A (wq_G0 ad w) rt xt below s 5 30) 0 (kt_B_rate_0 rt xt) := by
    refine wq_aload_n_ok h0 kd_B_rate_0 rfl ?_
    refine wq_iload_n_ok h0 kd_B_rate_1 rfl ?_
    refine wq_call_ok hA (wq_runV (ci := 0) ⟨h0.1, h0.2, hml, hown, hts⟩ (kv_B_isHeading hl) ⟨(wq_cB hts kw_G kw_407 kw_1 kw_404 ⟨by decide +kernel, by decide +kernel, by decide +kernel⟩ rfl rfl ⟨Nat.le_of_ble_eq_true rfl, Nat.le_of_ble_eq_true rfl⟩), hts _ kw_406, hts _ kw_s0⟩ rfl rfl hK hZ hN hA kd_B_rate_2) (wq_xout_ok hnt hlk) ?_
    refine wq_if_eq_ok (tgt := 24) h0 kd_B_rate_5 (by decide) ?_ ?_
    · exact hb_24
    refine wq_iload_n_ok h0 kd_B_rate_8 rfl ?_
    refine wq_iconst_ok h0 kd_B_rate_9 (by decide +kernel) ?_
    refine wq_icmp_eq_ok (tgt := 20) h0 kd_B_rate_10 (by decide) ?_ ?_
    · exact hb_20
    refine wq_iload_n_ok h0 kd_B_rate_13 rfl ?_
    refine wq_call_ok hA (wq_runS ⟨h0.1, h0.2, hml, hown, hts⟩ (kv_B_isLand hl) ⟨(wq_cB hts kw_G kw_575 kw_1 kw_573 ⟨by decide +kernel, by decide +kernel, by decide +kernel⟩ rfl rfl ⟨Nat.le_of_ble_eq_true rfl, Nat.le_of_ble_eq_true rfl⟩), hts _ kw_574⟩ hK hZ hN hA kd_B_rate_14) (wq_xout_ok hnt hlk) ?_
    refine wq_if_eq_ok (tgt := 24) h0 kd_B_rate_17 (by decide) ?_ ?_
    · exact hb_24
    exact hb_20
  exact hb_0 _ _ _ _ _ (wq_sp_t hsp)
set_option maxRecDepth 100000 in
set_option maxHeartbeats 4000000 in
theorem kv_B_rateFor {l : Launch} (hl : l.stackTraces = false) : wq_Vld l kz_cl ky_B_rateFor kw_T ({ frames := 7, cells := 1, slots := 6, locals := 101 }) wq_G0 ks_B_rateFor 1 6 := by
  refine wq_method (cc := kc_B_rateFor) (maxL := 4) (ret := (some .int)) (by decide) kw_589 (fun _ _ => rfl) wq_sp_sz ?_
  intro p e s m args below meth c cs D ad as w rt xt hF hnt hsp
  obtain ⟨h0, hr, hts, hown, hlk, hnm, hml, hK, hZ, hN, hA⟩ := hF
  have hown : s.vm.findClass "BorderDesk" = some m.cls := hown
  obtain ⟨A, hAe⟩ : ∃ A, A = wq_A ad w s.heap.size := ⟨_, rfl⟩
  rw [← hAe] at hZ hA ⊢
  have hb_27 : wq_Snd p l e ({ frames := 7, cells := 1, slots := 6, locals := 101 } : Room) s m args below meth c 4 cs D kz_cl A (wq_G0 ad w) (wq_Q cs D kz_cl A (wq_G0 ad w) rt xt below s 1 6) 27 (kt_B_rateFor_27 rt xt) := by
    refine wq_call_ok hA (wq_runS ⟨h0.1, h0.2, hml, hown, hts⟩ (kv_B_requireArgument hl) ⟨(wq_cB hts kw_G kw_413 kw_1 kw_411 ⟨by decide +kernel, by decide +kernel, by decide +kernel⟩ rfl rfl ⟨Nat.le_of_ble_eq_true rfl, Nat.le_of_ble_eq_true rfl⟩), hts _ kw_412⟩ hK hZ hN hA kd_B_rateFor_27) (wq_xout_ok hnt hlk) ?_
    refine wq_aload_n_ok h0 kd_B_rateFor_30 rfl ?_
    refine wq_get_ok (wq_getOK h0 hts ki_B hown hK (ci := 0) rfl 1 (Nat.le_of_ble_eq_true rfl) kw_371 rfl) kd_B_rateFor_31 ?_
    refine wq_iload_n_ok h0 kd_B_rateFor_34 rfl ?_
    refine wq_iload_n_ok h0 kd_B_rateFor_35 rfl ?_
    refine wq_iload_n_ok h0 kd_B_rateFor_36 rfl ?_
    refine wq_call_ok hA (wq_runV (ci := 2) ⟨h0.1, h0.2, hml, hown, hts⟩ (kv_R_find hl) ⟨(wq_cB hts kw_G kw_593 kw_3 kw_590 ⟨by decide +kernel, by decide +kernel, by decide +kernel⟩ rfl rfl ⟨Nat.le_of_ble_eq_true rfl, Nat.le_of_ble_eq_true rfl⟩), hts _ kw_591, hts _ kw_592⟩ rfl rfl hK hZ hN hA kd_B_rateFor_37) (wq_xout_ok hnt hlk) ?_
    exact wq_ireturn_ok h0 hr hlk kd_B_rateFor_40
  have hb_26 : wq_Snd p l e ({ frames := 7, cells := 1, slots := 6, locals := 101 } : Room) s m args below meth c 4 cs D kz_cl A (wq_G0 ad w) (wq_Q cs D kz_cl A (wq_G0 ad w) rt xt below s 1 6) 26 (kt_B_rateFor_26 rt xt) := by
    refine wq_iconst_ok h0 kd_B_rateFor_26 (by decide +kernel) ?_
    exact hb_27
  have hb_0 : wq_Snd p l e ({ frames := 7, cells := 1, slots := 6, locals := 101 } : Room) s m args below meth c 4 cs D kz_cl A (wq_G0 ad w) (wq_Q cs D kz_cl A (wq_G0 ad w) rt xt below s 1 6) 0 (kt_B_rateFor_0 rt xt) := by
    refine wq_aload_n_ok h0 kd_B_rateFor_0 rfl ?_
    refine wq_iload_n_ok h0 kd_B_rateFor_1 rfl ?_
    refine wq_call_ok hA (wq_runV (ci := 0) ⟨h0.1, h0.2, hml, hown, hts⟩ (kv_B_isHeading hl) ⟨(wq_cB hts kw_G kw_407 kw_1 kw_404 ⟨by decide +kernel, by decide +kernel, by decide +kernel⟩ rfl rfl ⟨Nat.le_of_ble_eq_true rfl, Nat.le_of_ble_eq_true rfl⟩), hts _ kw_406, hts _ kw_s0⟩ rfl rfl hK hZ hN hA kd_B_rateFor_2) (wq_xout_ok hnt hlk) ?_
    refine wq_if_eq_ok (tgt := 26) h0 kd_B_rateFor_5 (by decide) ?_ ?_
    · exact hb_26
    refine wq_iload_n_ok h0 kd_B_rateFor_8 rfl ?_
    refine wq_call_ok hA (wq_runS ⟨h0.1, h0.2, hml, hown, hts⟩ (kv_B_isLand hl) ⟨(wq_cB hts kw_G kw_575 kw_1 kw_573 ⟨by decide +kernel, by decide +kernel, by decide +kernel⟩ rfl rfl ⟨Nat.le_of_ble_eq_true rfl, Nat.le_of_ble_eq_true rfl⟩), hts _ kw_574⟩ hK hZ hN hA kd_B_rateFor_9) (wq_xout_ok hnt hlk) ?_
    refine wq_if_eq_ok (tgt := 26) h0 kd_B_rateFor_12 (by decide) ?_ ?_
    · exact hb_26
    refine wq_iload_n_ok h0 kd_B_rateFor_15 rfl ?_
    refine wq_call_ok hA (wq_runS ⟨h0.1, h0.2, hml, hown, hts⟩ (kv_B_isDay hl) ⟨(wq_cB hts kw_G kw_578 kw_1 kw_576 ⟨by decide +kernel, by decide +kernel, by decide +kernel⟩ rfl rfl ⟨Nat.le_of_ble_eq_true rfl, Nat.le_of_ble_eq_true rfl⟩), hts _ kw_577⟩ hK hZ hN hA kd_B_rateFor_16) (wq_xout_ok hnt hlk) ?_
    refine wq_if_eq_ok (tgt := 26) h0 kd_B_rateFor_19 (by decide) ?_ ?_
    · exact hb_26
    refine wq_iconst_ok h0 kd_B_rateFor_22 (by decide +kernel) ?_
    refine wq_goto_ok (tgt := 27) h0 kd_B_rateFor_23 (by decide) ?_
    exact hb_27
  exact hb_0 _ _ _ _ _ (wq_sp_t hsp)
set_option maxRecDepth 100000 in
set_option maxHeartbeats 4000000 in
theorem kv_B_quota {l : Launch} (hl : l.stackTraces = false) : wq_Vld l kz_cl ky_B_quota kw_T ({ frames := 7, cells := 4, slots := 24, locals := 101 }) wq_G0 ks_B_quota 4 24 := by
  refine wq_method (cc := kc_B_quota) (maxL := 7) (ret := (some .int)) (by decide) kw_605 (fun _ _ => rfl) wq_sp_sz ?_
  intro p e s m args below meth c cs D ad as w rt xt hF hnt hsp
  obtain ⟨h0, hr, hts, hown, hlk, hnm, hml, hK, hZ, hN, hA⟩ := hF
  have hown : s.vm.findClass "BorderDesk" = some m.cls := hown
  obtain ⟨A, hAe⟩ : ∃ A, A = wq_A ad w s.heap.size := ⟨_, rfl⟩
  rw [← hAe] at hZ hA ⊢
  have hb_101 : wq_Snd p l e ({ frames := 7, cells := 4, slots := 24, locals := 101 } : Room) s m args below meth c 7 cs D kz_cl A (wq_G0 ad w) (wq_Q cs D kz_cl A (wq_G0 ad w) rt xt below s 4 24) 101 (kt_B_quota_101 rt xt) := by
    refine wq_call_ok hA (wq_runS ⟨h0.1, h0.2, hml, hown, hts⟩ (kv_B_requireState hl) ⟨(wq_cB hts kw_G kw_480 kw_1 kw_478 ⟨by decide +kernel, by decide +kernel, by decide +kernel⟩ rfl rfl ⟨Nat.le_of_ble_eq_true rfl, Nat.le_of_ble_eq_true rfl⟩), hts _ kw_479⟩ hK hZ hN hA kd_B_quota_101) (wq_xout_ok hnt hlk) ?_
    refine wq_aload_n_ok h0 kd_B_quota_104 rfl ?_
    refine wq_get_ok (wq_getOK h0 hts ki_B hown hK (ci := 0) rfl 2 (Nat.le_of_ble_eq_true rfl) kw_372 rfl) kd_B_quota_105 ?_
    refine wq_iload_n_ok h0 kd_B_quota_108 rfl ?_
    refine wq_iload_n_ok h0 kd_B_quota_109 rfl ?_
    refine wq_iload_n_ok h0 kd_B_quota_110 rfl ?_
    refine wq_iload_ok h0 kd_B_quota_111 ?_
    refine wq_iload_ok h0 kd_B_quota_113 ?_
    refine wq_iload_ok h0 kd_B_quota_115 ?_
    refine wq_call_ok hA (wq_runV (ci := 3) ⟨h0.1, h0.2, hml, hown, hts⟩ (kv_Q_add hl) ⟨(wq_cB hts kw_G kw_610 kw_4 kw_607 ⟨by decide +kernel, by decide +kernel, by decide +kernel⟩ rfl rfl ⟨Nat.le_of_ble_eq_true rfl, Nat.le_of_ble_eq_true rfl⟩), hts _ kw_608, hts _ kw_609⟩ rfl rfl hK hZ hN hA kd_B_quota_117) (wq_xout_ok hnt hlk) ?_
    exact wq_ireturn_ok h0 hr hlk kd_B_quota_120
  have hb_100 : wq_Snd p l e ({ frames := 7, cells := 4, slots := 24, locals := 101 } : Room) s m args below meth c 7 cs D kz_cl A (wq_G0 ad w) (wq_Q cs D kz_cl A (wq_G0 ad w) rt xt below s 4 24) 100 (kt_B_quota_100 rt xt) := by
    refine wq_iconst_ok h0 kd_B_quota_100 (by decide +kernel) ?_
    exact hb_101
  have hb_81 : wq_Snd p l e ({ frames := 7, cells := 4, slots := 24, locals := 101 } : Room) s m args below meth c 7 cs D kz_cl A (wq_G0 ad w) (wq_Q cs D kz_cl A (wq_G0 ad w) rt xt below s 4 24) 81 (kt_B_quota_81 rt xt) := by
    refine wq_call_ok hA (wq_runS ⟨h0.1, h0.2, hml, hown, hts⟩ (kv_B_requireArgument hl) ⟨(wq_cB hts kw_G kw_413 kw_1 kw_411 ⟨by decide +kernel, by decide +kernel, by decide +kernel⟩ rfl rfl ⟨Nat.le_of_ble_eq_true rfl, Nat.le_of_ble_eq_true rfl⟩), hts _ kw_412⟩ hK hZ hN hA kd_B_quota_81) (wq_xout_ok hnt hlk) ?_
    refine wq_aload_n_ok h0 kd_B_quota_84 rfl ?_
    refine wq_get_ok (wq_getOK h0 hts ki_B hown hK (ci := 0) rfl 2 (Nat.le_of_ble_eq_true rfl) kw_372 rfl) kd_B_quota_85 ?_
    refine wq_get_ok (wq_getOK h0 hts ki_Q hown hK (ci := 3) rfl 1 (Nat.le_of_ble_eq_true rfl) kw_130 rfl) kd_B_quota_88 ?_
    refine wq_bipush_ok h0 kd_B_quota_91 (by decide +kernel) ?_
    refine wq_icmp_ge_ok (tgt := 100) h0 kd_B_quota_93 (by decide) ?_ ?_
    · exact hb_100
    refine wq_iconst_ok h0 kd_B_quota_96 (by decide +kernel) ?_
    refine wq_goto_ok (tgt := 101) h0 kd_B_quota_97 (by decide) ?_
    exact hb_101
  have hb_80 : wq_Snd p l e ({ frames := 7, cells := 4, slots := 24, locals := 101 } : Room) s m args below meth c 7 cs D kz_cl A (wq_G0 ad w) (wq_Q cs D kz_cl A (wq_G0 ad w) rt xt below s 4 24) 80 (kt_B_quota_80 rt xt) := by
    refine wq_iconst_ok h0 kd_B_quota_80 (by decide +kernel) ?_
    exact hb_81
  have hb_50 : wq_Snd p l e ({ frames := 7, cells := 4, slots := 24, locals := 101 } : Room) s m args below meth c 7 cs D kz_cl A (wq_G0 ad w) (wq_Q cs D kz_cl A (wq_G0 ad w) rt xt below s 4 24) 50 (kt_B_quota_50 rt xt) := by
    refine wq_call_ok hA (wq_runS ⟨h0.1, h0.2, hml, hown, hts⟩ (kv_B_requireArgument hl) ⟨(wq_cB hts kw_G kw_413 kw_1 kw_411 ⟨by decide +kernel, by decide +kernel, by decide +kernel⟩ rfl rfl ⟨Nat.le_of_ble_eq_true rfl, Nat.le_of_ble_eq_true rfl⟩), hts _ kw_412⟩ hK hZ hN hA kd_B_quota_50) (wq_xout_ok hnt hlk) ?_
    refine wq_iload_ok h0 kd_B_quota_53 ?_
    refine wq_call_ok hA (wq_runS ⟨h0.1, h0.2, hml, hown, hts⟩ (kv_B_isDay hl) ⟨(wq_cB hts kw_G kw_578 kw_1 kw_576 ⟨by decide +kernel, by decide +kernel, by decide +kernel⟩ rfl rfl ⟨Nat.le_of_ble_eq_true rfl, Nat.le_of_ble_eq_true rfl⟩), hts _ kw_577⟩ hK hZ hN hA kd_B_quota_55) (wq_xout_ok hnt hlk) ?_
    refine wq_if_eq_ok (tgt := 80) h0 kd_B_quota_58 (by decide) ?_ ?_
    · exact hb_80
    refine wq_iload_ok h0 kd_B_quota_61 ?_
    refine wq_call_ok hA (wq_runS ⟨h0.1, h0.2, hml, hown, hts⟩ (kv_B_isDay hl) ⟨(wq_cB hts kw_G kw_578 kw_1 kw_576 ⟨by decide +kernel, by decide +kernel, by decide +kernel⟩ rfl rfl ⟨Nat.le_of_ble_eq_true rfl, Nat.le_of_ble_eq_true rfl⟩), hts _ kw_577⟩ hK hZ hN hA kd_B_quota_63) (wq_xout_ok hnt hlk) ?_
    refine wq_if_eq_ok (tgt := 80) h0 kd_B_quota_66 (by decide) ?_ ?_
    · exact hb_80
    refine wq_iload_ok h0 kd_B_quota_69 ?_
    refine wq_iload_ok h0 kd_B_quota_71 ?_
    refine wq_icmp_gt_ok (tgt := 80) h0 kd_B_quota_73 (by decide) ?_ ?_
    · exact hb_80
    refine wq_iconst_ok h0 kd_B_quota_76 (by decide +kernel) ?_
    refine wq_goto_ok (tgt := 81) h0 kd_B_quota_77 (by decide) ?_
    exact hb_81
  have hb_49 : wq_Snd p l e ({ frames := 7, cells := 4, slots := 24, locals := 101 } : Room) s m args below meth c 7 cs D kz_cl A (wq_G0 ad w) (wq_Q cs D kz_cl A (wq_G0 ad w) rt xt below s 4 24) 49 (kt_B_quota_49 rt xt) := by
    refine wq_iconst_ok h0 kd_B_quota_49 (by decide +kernel) ?_
    exact hb_50
  have hb_20 : wq_Snd p l e ({ frames := 7, cells := 4, slots := 24, locals := 101 } : Room) s m args below meth c 7 cs D kz_cl A (wq_G0 ad w) (wq_Q cs D kz_cl A (wq_G0 ad w) rt xt below s 4 24) 20 (kt_B_quota_20 rt xt) := by
    refine wq_call_ok hA (wq_runS ⟨h0.1, h0.2, hml, hown, hts⟩ (kv_B_requireArgument hl) ⟨(wq_cB hts kw_G kw_413 kw_1 kw_411 ⟨by decide +kernel, by decide +kernel, by decide +kernel⟩ rfl rfl ⟨Nat.le_of_ble_eq_true rfl, Nat.le_of_ble_eq_true rfl⟩), hts _ kw_412⟩ hK hZ hN hA kd_B_quota_20) (wq_xout_ok hnt hlk) ?_
    refine wq_iload_n_ok h0 kd_B_quota_23 rfl ?_
    refine wq_iconst_ok h0 kd_B_quota_24 (by decide +kernel) ?_
    refine wq_ldc_ok (v := 100000) h0 hown (hts _ kw_606) kd_B_quota_25 ?_
    refine wq_call_ok hA (wq_runS ⟨h0.1, h0.2, hml, hown, hts⟩ (kv_B_isWithin hl) ⟨(wq_cB hts kw_G kw_517 kw_1 kw_515 ⟨by decide +kernel, by decide +kernel, by decide +kernel⟩ rfl rfl ⟨Nat.le_of_ble_eq_true rfl, Nat.le_of_ble_eq_true rfl⟩), hts _ kw_516⟩ hK hZ hN hA kd_B_quota_27) (wq_xout_ok hnt hlk) ?_
    refine wq_if_eq_ok (tgt := 49) h0 kd_B_quota_30 (by decide) ?_ ?_
    · exact hb_49
    refine wq_iload_ok h0 kd_B_quota_33 ?_
    refine wq_iconst_ok h0 kd_B_quota_35 (by decide +kernel) ?_
    refine wq_sipush_ok h0 kd_B_quota_36 (by decide +kernel) ?_
    refine wq_call_ok hA (wq_runS ⟨h0.1, h0.2, hml, hown, hts⟩ (kv_B_isWithin hl) ⟨(wq_cB hts kw_G kw_517 kw_1 kw_515 ⟨by decide +kernel, by decide +kernel, by decide +kernel⟩ rfl rfl ⟨Nat.le_of_ble_eq_true rfl, Nat.le_of_ble_eq_true rfl⟩), hts _ kw_516⟩ hK hZ hN hA kd_B_quota_39) (wq_xout_ok hnt hlk) ?_
    refine wq_if_eq_ok (tgt := 49) h0 kd_B_quota_42 (by decide) ?_ ?_
    · exact hb_49
    refine wq_iconst_ok h0 kd_B_quota_45 (by decide +kernel) ?_
    refine wq_goto_ok (tgt := 50) h0 kd_B_quota_46 (by decide) ?_
    exact hb_50
  have hb_19 : wq_Snd p l e ({ frames := 7, cells := 4, slots := 24, locals := 101 } : Room) s m args below meth c 7 cs D kz_cl A (wq_G0 ad w) (wq_Q cs D kz_cl A (wq_G0 ad w) rt xt below s 4 24) 19 (kt_B_quota_19 rt xt) := by
    refine wq_iconst_ok h0 kd_B_quota_19 (by decide +kernel) ?_
    exact hb_20
  have hb_0 : wq_Snd p l e ({ frames := 7, cells := 4, slots := 24, locals := 101 } : Room) s m args below meth c 7 cs D kz_cl A (wq_G0 ad w) (wq_Q cs D kz_cl A (wq_G0 ad w) rt xt below s 4 24) 0 (kt_B_quota_0 rt xt) := by
    refine wq_aload_n_ok h0 kd_B_quota_0 rfl ?_
    refine wq_iload_n_ok h0 kd_B_quota_1 rfl ?_
    refine wq_call_ok hA (wq_runV (ci := 0) ⟨h0.1, h0.2, hml, hown, hts⟩ (kv_B_isHeading hl) ⟨(wq_cB hts kw_G kw_407 kw_1 kw_404 ⟨by decide +kernel, by decide +kernel, by decide +kernel⟩ rfl rfl ⟨Nat.le_of_ble_eq_true rfl, Nat.le_of_ble_eq_true rfl⟩), hts _ kw_406, hts _ kw_s0⟩ rfl rfl hK hZ hN hA kd_B_quota_2) (wq_xout_ok hnt hlk) ?_
    refine wq_if_eq_ok (tgt := 19) h0 kd_B_quota_5 (by decide) ?_ ?_
    · exact hb_19
    refine wq_iload_n_ok h0 kd_B_quota_8 rfl ?_
    refine wq_call_ok hA (wq_runS ⟨h0.1, h0.2, hml, hown, hts⟩ (kv_B_isLand hl) ⟨(wq_cB hts kw_G kw_575 kw_1 kw_573 ⟨by decide +kernel, by decide +kernel, by decide +kernel⟩ rfl rfl ⟨Nat.le_of_ble_eq_true rfl, Nat.le_of_ble_eq_true rfl⟩), hts _ kw_574⟩ hK hZ hN hA kd_B_quota_9) (wq_xout_ok hnt hlk) ?_
    refine wq_if_eq_ok (tgt := 19) h0 kd_B_quota_12 (by decide) ?_ ?_
    · exact hb_19
    refine wq_iconst_ok h0 kd_B_quota_15 (by decide +kernel) ?_
    refine wq_goto_ok (tgt := 20) h0 kd_B_quota_16 (by decide) ?_
    exact hb_20
  exact hb_0 _ _ _ _ _ (wq_sp_t hsp)
set_option maxRecDepth 100000 in
set_option maxHeartbeats 4000000 in
theorem kv_B_quotaLeft {l : Launch} (hl : l.stackTraces = false) : wq_Vld l kz_cl ky_B_quotaLeft kw_T ({ frames := 7, cells := 1, slots := 6, locals := 101 }) wq_G0 ks_B_quotaLeft 1 6 := by
  refine wq_method (cc := kc_B_quotaLeft) (maxL := 2) (ret := (some .int)) (by decide) kw_617 (fun _ _ => rfl) wq_sp_sz ?_
  intro p e s m args below meth c cs D ad as w rt xt hF hnt hsp
  obtain ⟨h0, hr, hts, hown, hlk, hnm, hml, hK, hZ, hN, hA⟩ := hF
  have hown : s.vm.findClass "BorderDesk" = some m.cls := hown
  obtain ⟨A, hAe⟩ : ∃ A, A = wq_A ad w s.heap.size := ⟨_, rfl⟩
  rw [← hAe] at hZ hA ⊢
  have hb_0 : wq_Snd p l e ({ frames := 7, cells := 1, slots := 6, locals := 101 } : Room) s m args below meth c 2 cs D kz_cl A (wq_G0 ad w) (wq_Q cs D kz_cl A (wq_G0 ad w) rt xt below s 1 6) 0 (kt_B_quotaLeft_0 rt xt) := by
    refine wq_iload_n_ok h0 kd_B_quotaLeft_0 rfl ?_
    refine wq_aload_n_ok h0 kd_B_quotaLeft_1 rfl ?_
    refine wq_get_ok (wq_getOK h0 hts ki_B hown hK (ci := 0) rfl 2 (Nat.le_of_ble_eq_true rfl) kw_372 rfl) kd_B_quotaLeft_2 ?_
    refine wq_get_ok (wq_getOK h0 hts ki_Q hown hK (ci := 3) rfl 1 (Nat.le_of_ble_eq_true rfl) kw_130 rfl) kd_B_quotaLeft_5 ?_
    refine wq_call_ok hA (wq_runS ⟨h0.1, h0.2, hml, hown, hts⟩ (kv_B_isBelow hl) ⟨(wq_cB hts kw_G kw_410 kw_1 kw_408 ⟨by decide +kernel, by decide +kernel, by decide +kernel⟩ rfl rfl ⟨Nat.le_of_ble_eq_true rfl, Nat.le_of_ble_eq_true rfl⟩), hts _ kw_409⟩ hK hZ hN hA kd_B_quotaLeft_8) (wq_xout_ok hnt hlk) ?_
    refine wq_call_ok hA (wq_runS ⟨h0.1, h0.2, hml, hown, hts⟩ (kv_B_requireArgument hl) ⟨(wq_cB hts kw_G kw_413 kw_1 kw_411 ⟨by decide +kernel, by decide +kernel, by decide +kernel⟩ rfl rfl ⟨Nat.le_of_ble_eq_true rfl, Nat.le_of_ble_eq_true rfl⟩), hts _ kw_412⟩ hK hZ hN hA kd_B_quotaLeft_11) (wq_xout_ok hnt hlk) ?_
    refine wq_aload_n_ok h0 kd_B_quotaLeft_14 rfl ?_
    refine wq_get_ok (wq_getOK h0 hts ki_B hown hK (ci := 0) rfl 2 (Nat.le_of_ble_eq_true rfl) kw_372 rfl) kd_B_quotaLeft_15 ?_
    refine wq_get_ok (wq_getOK h0 hts ki_Q hown hK (ci := 3) rfl 2 (Nat.le_of_ble_eq_true rfl) kw_133 rfl) kd_B_quotaLeft_18 ?_
    refine wq_iload_n_ok h0 kd_B_quotaLeft_21 rfl ?_
    refine wq_iald_ok h0 hK kd_B_quotaLeft_22 ?_
    exact wq_ireturn_ok h0 hr hlk kd_B_quotaLeft_23
  exact hb_0 _ _ _ _ _ (wq_sp_t hsp)
set_option maxRecDepth 100000 in
set_option maxHeartbeats 4000000 in
theorem kv_B_part {l : Launch} (hl : l.stackTraces = false) : wq_Vld l kz_cl ky_B_part kw_T ({ frames := 7, cells := 4, slots := 24, locals := 101 }) wq_G0 ks_B_part 4 24 := by
  refine wq_method (cc := kc_B_part) (maxL := 5) (ret := (some .int)) (by decide) kw_624 (fun _ _ => rfl) wq_sp_sz ?_
  intro p e s m args below meth c cs D ad as w rt xt hF hnt hsp
  obtain ⟨h0, hr, hts, hown, hlk, hnm, hml, hK, hZ, hN, hA⟩ := hF
  have hown : s.vm.findClass "BorderDesk" = some m.cls := hown
  obtain ⟨A, hAe⟩ : ∃ A, A = wq_A ad w s.heap.size := ⟨_, rfl⟩
  rw [← hAe] at hZ hA ⊢
  have hb_78 : wq_Snd p l e ({ frames := 7, cells := 4, slots := 24, locals := 101 } : Room) s m args below meth c 5 cs D kz_cl A (wq_G0 ad w) (wq_Q cs D kz_cl A (wq_G0 ad w) rt xt below s 4 24) 78 (kt_B_part_78 rt xt) := by
    refine wq_call_ok hA (wq_runS ⟨h0.1, h0.2, hml, hown, hts⟩ (kv_B_requireState hl) ⟨(wq_cB hts kw_G kw_480 kw_1 kw_478 ⟨by decide +kernel, by decide +kernel, by decide +kernel⟩ rfl rfl ⟨Nat.le_of_ble_eq_true rfl, Nat.le_of_ble_eq_true rfl⟩), hts _ kw_479⟩ hK hZ hN hA kd_B_part_78) (wq_xout_ok hnt hlk) ?_
    refine wq_aload_n_ok h0 kd_B_part_81 rfl ?_
    refine wq_get_ok (wq_getOK h0 hts ki_B hown hK (ci := 0) rfl 3 (Nat.le_of_ble_eq_true rfl) kw_373 rfl) kd_B_part_82 ?_
    refine wq_iload_n_ok h0 kd_B_part_85 rfl ?_
    refine wq_iload_n_ok h0 kd_B_part_86 rfl ?_
    refine wq_iload_n_ok h0 kd_B_part_87 rfl ?_
    refine wq_iload_ok h0 kd_B_part_88 ?_
    refine wq_call_ok hA (wq_runV (ci := 4) ⟨h0.1, h0.2, hml, hown, hts⟩ (kv_O_addPart hl) ⟨(wq_cB hts kw_G kw_636 kw_5 kw_633 ⟨by decide +kernel, by decide +kernel, by decide +kernel⟩ rfl rfl ⟨Nat.le_of_ble_eq_true rfl, Nat.le_of_ble_eq_true rfl⟩), hts _ kw_634, hts _ kw_635⟩ rfl rfl hK hZ hN hA kd_B_part_90) (wq_xout_ok hnt hlk) ?_
    exact wq_ireturn_ok h0 hr hlk kd_B_part_93
  have hb_77 : wq_Snd p l e ({ frames := 7, cells := 4, slots := 24, locals := 101 } : Room) s m args below meth c 5 cs D kz_cl A (wq_G0 ad w) (wq_Q cs D kz_cl A (wq_G0 ad w) rt xt below s 4 24) 77 (kt_B_part_77 rt xt) := by
    refine wq_iconst_ok h0 kd_B_part_77 (by decide +kernel) ?_
    exact hb_78
  have hb_57 : wq_Snd p l e ({ frames := 7, cells := 4, slots := 24, locals := 101 } : Room) s m args below meth c 5 cs D kz_cl A (wq_G0 ad w) (wq_Q cs D kz_cl A (wq_G0 ad w) rt xt below s 4 24) 57 (kt_B_part_57 rt xt) := by
    refine wq_call_ok hA (wq_runS ⟨h0.1, h0.2, hml, hown, hts⟩ (kv_B_requireArgument hl) ⟨(wq_cB hts kw_G kw_413 kw_1 kw_411 ⟨by decide +kernel, by decide +kernel, by decide +kernel⟩ rfl rfl ⟨Nat.le_of_ble_eq_true rfl, Nat.le_of_ble_eq_true rfl⟩), hts _ kw_412⟩ hK hZ hN hA kd_B_part_57) (wq_xout_ok hnt hlk) ?_
    refine wq_aload_n_ok h0 kd_B_part_60 rfl ?_
    refine wq_get_ok (wq_getOK h0 hts ki_B hown hK (ci := 0) rfl 3 (Nat.le_of_ble_eq_true rfl) kw_373 rfl) kd_B_part_61 ?_
    refine wq_get_ok (wq_getOK h0 hts ki_O hown hK (ci := 4) rfl 2 (Nat.le_of_ble_eq_true rfl) kw_168 rfl) kd_B_part_64 ?_
    refine wq_iload_n_ok h0 kd_B_part_67 rfl ?_
    refine wq_iald_ok h0 hK kd_B_part_68 ?_
    refine wq_iconst_ok h0 kd_B_part_69 (by decide +kernel) ?_
    refine wq_icmp_ge_ok (tgt := 77) h0 kd_B_part_70 (by decide) ?_ ?_
    · exact hb_77
    refine wq_iconst_ok h0 kd_B_part_73 (by decide +kernel) ?_
    refine wq_goto_ok (tgt := 78) h0 kd_B_part_74 (by decide) ?_
    exact hb_78
  have hb_56 : wq_Snd p l e ({ frames := 7, cells := 4, slots := 24, locals := 101 } : Room) s m args below meth c 5 cs D kz_cl A (wq_G0 ad w) (wq_Q cs D kz_cl A (wq_G0 ad w) rt xt below s 4 24) 56 (kt_B_part_56 rt xt) := by
    refine wq_iconst_ok h0 kd_B_part_56 (by decide +kernel) ?_
    exact hb_57
  have hb_27 : wq_Snd p l e ({ frames := 7, cells := 4, slots := 24, locals := 101 } : Room) s m args below meth c 5 cs D kz_cl A (wq_G0 ad w) (wq_Q cs D kz_cl A (wq_G0 ad w) rt xt below s 4 24) 27 (kt_B_part_27 rt xt) := by
    refine wq_call_ok hA (wq_runS ⟨h0.1, h0.2, hml, hown, hts⟩ (kv_B_requireArgument hl) ⟨(wq_cB hts kw_G kw_413 kw_1 kw_411 ⟨by decide +kernel, by decide +kernel, by decide +kernel⟩ rfl rfl ⟨Nat.le_of_ble_eq_true rfl, Nat.le_of_ble_eq_true rfl⟩), hts _ kw_412⟩ hK hZ hN hA kd_B_part_27) (wq_xout_ok hnt hlk) ?_
    refine wq_iload_n_ok h0 kd_B_part_30 rfl ?_
    refine wq_iconst_ok h0 kd_B_part_31 (by decide +kernel) ?_
    refine wq_ldc_ok (v := 1000000) h0 hown (hts _ kw_625) kd_B_part_32 ?_
    refine wq_call_ok hA (wq_runS ⟨h0.1, h0.2, hml, hown, hts⟩ (kv_B_isWithin hl) ⟨(wq_cB hts kw_G kw_517 kw_1 kw_515 ⟨by decide +kernel, by decide +kernel, by decide +kernel⟩ rfl rfl ⟨Nat.le_of_ble_eq_true rfl, Nat.le_of_ble_eq_true rfl⟩), hts _ kw_516⟩ hK hZ hN hA kd_B_part_34) (wq_xout_ok hnt hlk) ?_
    refine wq_call_ok hA (wq_runS ⟨h0.1, h0.2, hml, hown, hts⟩ (kv_B_requireArgument hl) ⟨(wq_cB hts kw_G kw_413 kw_1 kw_411 ⟨by decide +kernel, by decide +kernel, by decide +kernel⟩ rfl rfl ⟨Nat.le_of_ble_eq_true rfl, Nat.le_of_ble_eq_true rfl⟩), hts _ kw_412⟩ hK hZ hN hA kd_B_part_37) (wq_xout_ok hnt hlk) ?_
    refine wq_aload_n_ok h0 kd_B_part_40 rfl ?_
    refine wq_get_ok (wq_getOK h0 hts ki_B hown hK (ci := 0) rfl 3 (Nat.le_of_ble_eq_true rfl) kw_373 rfl) kd_B_part_41 ?_
    refine wq_iload_n_ok h0 kd_B_part_44 rfl ?_
    refine wq_iload_n_ok h0 kd_B_part_45 rfl ?_
    refine wq_call_ok hA (wq_runV (ci := 4) ⟨h0.1, h0.2, hml, hown, hts⟩ (kv_O_wouldComeRound hl) ⟨(wq_cB hts kw_G kw_629 kw_5 kw_626 ⟨by decide +kernel, by decide +kernel, by decide +kernel⟩ rfl rfl ⟨Nat.le_of_ble_eq_true rfl, Nat.le_of_ble_eq_true rfl⟩), hts _ kw_627, hts _ kw_628⟩ rfl rfl hK hZ hN hA kd_B_part_46) (wq_xout_ok hnt hlk) ?_
    refine wq_if_ne_ok (tgt := 56) h0 kd_B_part_49 (by decide) ?_ ?_
    · exact hb_56
    refine wq_iconst_ok h0 kd_B_part_52 (by decide +kernel) ?_
    refine wq_goto_ok (tgt := 57) h0 kd_B_part_53 (by decide) ?_
    exact hb_57
  have hb_26 : wq_Snd p l e ({ frames := 7, cells := 4, slots := 24, locals := 101 } : Room) s m args below meth c 5 cs D kz_cl A (wq_G0 ad w) (wq_Q cs D kz_cl A (wq_G0 ad w) rt xt below s 4 24) 26 (kt_B_part_26 rt xt) := by
    refine wq_iconst_ok h0 kd_B_part_26 (by decide +kernel) ?_
    exact hb_27
  have hb_0 : wq_Snd p l e ({ frames := 7, cells := 4, slots := 24, locals := 101 } : Room) s m args below meth c 5 cs D kz_cl A (wq_G0 ad w) (wq_Q cs D kz_cl A (wq_G0 ad w) rt xt below s 4 24) 0 (kt_B_part_0 rt xt) := by
    refine wq_iload_n_ok h0 kd_B_part_0 rfl ?_
    refine wq_call_ok hA (wq_runS ⟨h0.1, h0.2, hml, hown, hts⟩ (kv_B_isGood hl) ⟨(wq_cB hts kw_G kw_531 kw_1 kw_529 ⟨by decide +kernel, by decide +kernel, by decide +kernel⟩ rfl rfl ⟨Nat.le_of_ble_eq_true rfl, Nat.le_of_ble_eq_true rfl⟩), hts _ kw_530⟩ hK hZ hN hA kd_B_part_1) (wq_xout_ok hnt hlk) ?_
    refine wq_if_eq_ok (tgt := 26) h0 kd_B_part_4 (by decide) ?_ ?_
    · exact hb_26
    refine wq_iload_n_ok h0 kd_B_part_7 rfl ?_
    refine wq_call_ok hA (wq_runS ⟨h0.1, h0.2, hml, hown, hts⟩ (kv_B_isGood hl) ⟨(wq_cB hts kw_G kw_531 kw_1 kw_529 ⟨by decide +kernel, by decide +kernel, by decide +kernel⟩ rfl rfl ⟨Nat.le_of_ble_eq_true rfl, Nat.le_of_ble_eq_true rfl⟩), hts _ kw_530⟩ hK hZ hN hA kd_B_part_8) (wq_xout_ok hnt hlk) ?_
    refine wq_if_eq_ok (tgt := 26) h0 kd_B_part_11 (by decide) ?_ ?_
    · exact hb_26
    refine wq_iload_ok h0 kd_B_part_14 ?_
    refine wq_call_ok hA (wq_runS ⟨h0.1, h0.2, hml, hown, hts⟩ (kv_B_isLand hl) ⟨(wq_cB hts kw_G kw_575 kw_1 kw_573 ⟨by decide +kernel, by decide +kernel, by decide +kernel⟩ rfl rfl ⟨Nat.le_of_ble_eq_true rfl, Nat.le_of_ble_eq_true rfl⟩), hts _ kw_574⟩ hK hZ hN hA kd_B_part_16) (wq_xout_ok hnt hlk) ?_
    refine wq_if_eq_ok (tgt := 26) h0 kd_B_part_19 (by decide) ?_ ?_
    · exact hb_26
    refine wq_iconst_ok h0 kd_B_part_22 (by decide +kernel) ?_
    refine wq_goto_ok (tgt := 27) h0 kd_B_part_23 (by decide) ?_
    exact hb_27
  exact hb_0 _ _ _ _ _ (wq_sp_t hsp)
set_option maxRecDepth 100000 in
set_option maxHeartbeats 4000000 in
theorem kv_B_zone {l : Launch} (hl : l.stackTraces = false) : wq_Vld l kz_cl ky_B_zone kw_T ({ frames := 7, cells := 2, slots := 12, locals := 101 }) wq_G0 ks_B_zone 2 12 := by
  refine wq_method (cc := kc_B_zone) (maxL := 3) (ret := none) (by decide) kw_643 (fun _ _ => rfl) wq_sp_sz ?_
  intro p e s m args below meth c cs D ad as w rt xt hF hnt hsp
  obtain ⟨h0, hr, hts, hown, hlk, hnm, hml, hK, hZ, hN, hA⟩ := hF
  have hown : s.vm.findClass "BorderDesk" = some m.cls := hown
  obtain ⟨A, hAe⟩ : ∃ A, A = wq_A ad w s.heap.size := ⟨_, rfl⟩
  rw [← hAe] at hZ hA ⊢
  have hb_0 : wq_Snd p l e ({ frames := 7, cells := 2, slots := 12, locals := 101 } : Room) s m args below meth c 3 cs D kz_cl A (wq_G0 ad w) (wq_Q cs D kz_cl A (wq_G0 ad w) rt xt below s 2 12) 0 (kt_B_zone_0 rt xt) := by
    refine wq_iload_n_ok h0 kd_B_zone_0 rfl ?_
    refine wq_iconst_ok h0 kd_B_zone_1 (by decide +kernel) ?_
    refine wq_call_ok hA (wq_runS ⟨h0.1, h0.2, hml, hown, hts⟩ (kv_B_isBelow hl) ⟨(wq_cB hts kw_G kw_410 kw_1 kw_408 ⟨by decide +kernel, by decide +kernel, by decide +kernel⟩ rfl rfl ⟨Nat.le_of_ble_eq_true rfl, Nat.le_of_ble_eq_true rfl⟩), hts _ kw_409⟩ hK hZ hN hA kd_B_zone_2) (wq_xout_ok hnt hlk) ?_
    refine wq_call_ok hA (wq_runS ⟨h0.1, h0.2, hml, hown, hts⟩ (kv_B_requireArgument hl) ⟨(wq_cB hts kw_G kw_413 kw_1 kw_411 ⟨by decide +kernel, by decide +kernel, by decide +kernel⟩ rfl rfl ⟨Nat.le_of_ble_eq_true rfl, Nat.le_of_ble_eq_true rfl⟩), hts _ kw_412⟩ hK hZ hN hA kd_B_zone_5) (wq_xout_ok hnt hlk) ?_
    refine wq_iload_n_ok h0 kd_B_zone_8 rfl ?_
    refine wq_sipush_ok h0 kd_B_zone_9 (by decide +kernel) ?_
    refine wq_call_ok hA (wq_runS ⟨h0.1, h0.2, hml, hown, hts⟩ (kv_B_isBelow hl) ⟨(wq_cB hts kw_G kw_410 kw_1 kw_408 ⟨by decide +kernel, by decide +kernel, by decide +kernel⟩ rfl rfl ⟨Nat.le_of_ble_eq_true rfl, Nat.le_of_ble_eq_true rfl⟩), hts _ kw_409⟩ hK hZ hN hA kd_B_zone_12) (wq_xout_ok hnt hlk) ?_
    refine wq_call_ok hA (wq_runS ⟨h0.1, h0.2, hml, hown, hts⟩ (kv_B_requireArgument hl) ⟨(wq_cB hts kw_G kw_413 kw_1 kw_411 ⟨by decide +kernel, by decide +kernel, by decide +kernel⟩ rfl rfl ⟨Nat.le_of_ble_eq_true rfl, Nat.le_of_ble_eq_true rfl⟩), hts _ kw_412⟩ hK hZ hN hA kd_B_zone_15) (wq_xout_ok hnt hlk) ?_
    refine wq_aload_n_ok h0 kd_B_zone_18 rfl ?_
    refine wq_get_ok (wq_getOK h0 hts ki_B hown hK (ci := 0) rfl 3 (Nat.le_of_ble_eq_true rfl) kw_373 rfl) kd_B_zone_19 ?_
    refine wq_get_ok (wq_getOK h0 hts ki_O hown hK (ci := 4) rfl 1 (Nat.le_of_ble_eq_true rfl) kw_166 rfl) kd_B_zone_22 ?_
    refine wq_iload_n_ok h0 kd_B_zone_25 rfl ?_
    refine wq_iload_n_ok h0 kd_B_zone_26 rfl ?_
    refine wq_iast_ok h0 hK kd_B_zone_27 ?_
    exact wq_vreturn_ok h0 hr hlk kd_B_zone_28
  exact hb_0 _ _ _ _ _ (wq_sp_t hsp)
set_option maxRecDepth 100000 in
set_option maxHeartbeats 4000000 in
theorem kv_B_rule {l : Launch} (hl : l.stackTraces = false) : wq_Vld l kz_cl ky_B_rule kw_T ({ frames := 7, cells := 3, slots := 18, locals := 101 }) wq_G0 ks_B_rule 3 18 := by
  refine wq_method (cc := kc_B_rule) (maxL := 4) (ret := none) (by decide) kw_650 (fun _ _ => rfl) wq_sp_sz ?_
  intro p e s m args below meth c cs D ad as w rt xt hF hnt hsp
  obtain ⟨h0, hr, hts, hown, hlk, hnm, hml, hK, hZ, hN, hA⟩ := hF
  have hown : s.vm.findClass "BorderDesk" = some m.cls := hown
  obtain ⟨A, hAe⟩ : ∃ A, A = wq_A ad w s.heap.size := ⟨_, rfl⟩
  rw [← hAe] at hZ hA ⊢
  have hb_22 : wq_Snd p l e ({ frames := 7, cells := 3, slots := 18, locals := 101 } : Room) s m args below meth c 4 cs D kz_cl A (wq_G0 ad w) (wq_Q cs D kz_cl A (wq_G0 ad w) rt xt below s 3 18) 22 (kt_B_rule_22 rt xt) := by
    refine wq_call_ok hA (wq_runS ⟨h0.1, h0.2, hml, hown, hts⟩ (kv_B_requireArgument hl) ⟨(wq_cB hts kw_G kw_413 kw_1 kw_411 ⟨by decide +kernel, by decide +kernel, by decide +kernel⟩ rfl rfl ⟨Nat.le_of_ble_eq_true rfl, Nat.le_of_ble_eq_true rfl⟩), hts _ kw_412⟩ hK hZ hN hA kd_B_rule_22) (wq_xout_ok hnt hlk) ?_
    refine wq_iload_n_ok h0 kd_B_rule_25 rfl ?_
    refine wq_iconst_ok h0 kd_B_rule_26 (by decide +kernel) ?_
    refine wq_sipush_ok h0 kd_B_rule_27 (by decide +kernel) ?_
    refine wq_call_ok hA (wq_runS ⟨h0.1, h0.2, hml, hown, hts⟩ (kv_B_isWithin hl) ⟨(wq_cB hts kw_G kw_517 kw_1 kw_515 ⟨by decide +kernel, by decide +kernel, by decide +kernel⟩ rfl rfl ⟨Nat.le_of_ble_eq_true rfl, Nat.le_of_ble_eq_true rfl⟩), hts _ kw_516⟩ hK hZ hN hA kd_B_rule_30) (wq_xout_ok hnt hlk) ?_
    refine wq_call_ok hA (wq_runS ⟨h0.1, h0.2, hml, hown, hts⟩ (kv_B_requireArgument hl) ⟨(wq_cB hts kw_G kw_413 kw_1 kw_411 ⟨by decide +kernel, by decide +kernel, by decide +kernel⟩ rfl rfl ⟨Nat.le_of_ble_eq_true rfl, Nat.le_of_ble_eq_true rfl⟩), hts _ kw_412⟩ hK hZ hN hA kd_B_rule_33) (wq_xout_ok hnt hlk) ?_
    refine wq_aload_n_ok h0 kd_B_rule_36 rfl ?_
    refine wq_get_ok (wq_getOK h0 hts ki_B hown hK (ci := 0) rfl 0 (Nat.le_of_ble_eq_true rfl) kw_370 rfl) kd_B_rule_37 ?_
    refine wq_get_ok (wq_getOK h0 hts ki_T hown hK (ci := 1) rfl 3 (Nat.le_of_ble_eq_true rfl) kw_44 rfl) kd_B_rule_40 ?_
    refine wq_iload_n_ok h0 kd_B_rule_43 rfl ?_
    refine wq_iload_n_ok h0 kd_B_rule_44 rfl ?_
    refine wq_iast_ok h0 hK kd_B_rule_45 ?_
    refine wq_aload_n_ok h0 kd_B_rule_46 rfl ?_
    refine wq_get_ok (wq_getOK h0 hts ki_B hown hK (ci := 0) rfl 0 (Nat.le_of_ble_eq_true rfl) kw_370 rfl) kd_B_rule_47 ?_
    refine wq_get_ok (wq_getOK h0 hts ki_T hown hK (ci := 1) rfl 4 (Nat.le_of_ble_eq_true rfl) kw_47 rfl) kd_B_rule_50 ?_
    refine wq_iload_n_ok h0 kd_B_rule_53 rfl ?_
    refine wq_iload_n_ok h0 kd_B_rule_54 rfl ?_
    refine wq_iast_ok h0 hK kd_B_rule_55 ?_
    exact wq_vreturn_ok h0 hr hlk kd_B_rule_56
  have hb_17 : wq_Snd p l e ({ frames := 7, cells := 3, slots := 18, locals := 101 } : Room) s m args below meth c 4 cs D kz_cl A (wq_G0 ad w) (wq_Q cs D kz_cl A (wq_G0 ad w) rt xt below s 3 18) 17 (kt_B_rule_17 rt xt) := by
    refine wq_iconst_ok h0 kd_B_rule_17 (by decide +kernel) ?_
    refine wq_goto_ok (tgt := 22) h0 kd_B_rule_18 (by decide) ?_
    exact hb_22
  have hb_21 : wq_Snd p l e ({ frames := 7, cells := 3, slots := 18, locals := 101 } : Room) s m args below meth c 4 cs D kz_cl A (wq_G0 ad w) (wq_Q cs D kz_cl A (wq_G0 ad w) rt xt below s 3 18) 21 (kt_B_rule_21 rt xt) := by
    refine wq_iconst_ok h0 kd_B_rule_21 (by decide +kernel) ?_
    exact hb_22
  have hb_0 : wq_Snd p l e ({ frames := 7, cells := 3, slots := 18, locals := 101 } : Room) s m args below meth c 4 cs D kz_cl A (wq_G0 ad w) (wq_Q cs D kz_cl A (wq_G0 ad w) rt xt below s 3 18) 0 (kt_B_rule_0 rt xt) := by
    refine wq_aload_n_ok h0 kd_B_rule_0 rfl ?_
    refine wq_iload_n_ok h0 kd_B_rule_1 rfl ?_
    refine wq_call_ok hA (wq_runV (ci := 0) ⟨h0.1, h0.2, hml, hown, hts⟩ (kv_B_isHeading hl) ⟨(wq_cB hts kw_G kw_407 kw_1 kw_404 ⟨by decide +kernel, by decide +kernel, by decide +kernel⟩ rfl rfl ⟨Nat.le_of_ble_eq_true rfl, Nat.le_of_ble_eq_true rfl⟩), hts _ kw_406, hts _ kw_s0⟩ rfl rfl hK hZ hN hA kd_B_rule_2) (wq_xout_ok hnt hlk) ?_
    refine wq_call_ok hA (wq_runS ⟨h0.1, h0.2, hml, hown, hts⟩ (kv_B_requireArgument hl) ⟨(wq_cB hts kw_G kw_413 kw_1 kw_411 ⟨by decide +kernel, by decide +kernel, by decide +kernel⟩ rfl rfl ⟨Nat.le_of_ble_eq_true rfl, Nat.le_of_ble_eq_true rfl⟩), hts _ kw_412⟩ hK hZ hN hA kd_B_rule_5) (wq_xout_ok hnt hlk) ?_
    refine wq_iload_n_ok h0 kd_B_rule_8 rfl ?_
    refine wq_if_eq_ok (tgt := 17) h0 kd_B_rule_9 (by decide) ?_ ?_
    · exact hb_17
    refine wq_iload_n_ok h0 kd_B_rule_12 rfl ?_
    refine wq_iconst_ok h0 kd_B_rule_13 (by decide +kernel) ?_
    refine wq_icmp_ne_ok (tgt := 21) h0 kd_B_rule_14 (by decide) ?_ ?_
    · exact hb_21
    exact hb_17
  exact hb_0 _ _ _ _ _ (wq_sp_t hsp)
set_option maxRecDepth 100000 in
set_option maxHeartbeats 4000000 in
theorem kv_B_madeIn {l : Launch} (hl : l.stackTraces = false) : wq_Vld l kz_cl ky_B_madeIn kw_T ({ frames := 7, cells := 1, slots := 6, locals := 170 }) wq_G0 ks_B_madeIn 1 6 := by
  refine wq_method (cc := kc_B_madeIn) (maxL := 3) (ret := (some .boolean)) (by decide) kw_657 (fun _ _ => rfl) wq_sp_sz ?_
  intro p e s m args below meth c cs D ad as w rt xt hF hnt hsp
  obtain ⟨h0, hr, hts, hown, hlk, hnm, hml, hK, hZ, hN, hA⟩ := hF
  have hown : s.vm.findClass "BorderDesk" = some m.cls := hown
  obtain ⟨A, hAe⟩ : ∃ A, A = wq_A ad w s.heap.size := ⟨_, rfl⟩
  rw [← hAe] at hZ hA ⊢
  have hb_20 : wq_Snd p l e ({ frames := 7, cells := 1, slots := 6, locals := 170 } : Room) s m args below meth c 3 cs D kz_cl A (wq_G0 ad w) (wq_Q cs D kz_cl A (wq_G0 ad w) rt xt below s 1 6) 20 (kt_B_madeIn_20 rt xt) := by
    refine wq_call_ok hA (wq_runS ⟨h0.1, h0.2, hml, hown, hts⟩ (kv_B_requireArgument hl) ⟨(wq_cB hts kw_G kw_413 kw_1 kw_411 ⟨by decide +kernel, by decide +kernel, by decide +kernel⟩ rfl rfl ⟨Nat.le_of_ble_eq_true rfl, Nat.le_of_ble_eq_true rfl⟩), hts _ kw_412⟩ hK hZ hN hA kd_B_madeIn_20) (wq_xout_ok hnt hlk) ?_
    refine wq_aload_n_ok h0 kd_B_madeIn_23 rfl ?_
    refine wq_get_ok (wq_getOK h0 hts ki_B hown hK (ci := 0) rfl 3 (Nat.le_of_ble_eq_true rfl) kw_373 rfl) kd_B_madeIn_24 ?_
    refine wq_iload_n_ok h0 kd_B_madeIn_27 rfl ?_
    refine wq_iload_n_ok h0 kd_B_madeIn_28 rfl ?_
    refine wq_call_ok hA (wq_runV (ci := 4) ⟨h0.1, h0.2, hml, hown, hts⟩ (kv_O_isMadeIn hl) ⟨(wq_cB hts kw_G kw_661 kw_5 kw_658 ⟨by decide +kernel, by decide +kernel, by decide +kernel⟩ rfl rfl ⟨Nat.le_of_ble_eq_true rfl, Nat.le_of_ble_eq_true rfl⟩), hts _ kw_659, hts _ kw_660⟩ rfl rfl hK hZ hN hA kd_B_madeIn_29) (wq_xout_ok hnt hlk) ?_
    exact wq_zreturn_ok h0 hr hlk kd_B_madeIn_32
  have hb_19 : wq_Snd p l e ({ frames := 7, cells := 1, slots := 6, locals := 170 } : Room) s m args below meth c 3 cs D kz_cl A (wq_G0 ad w) (wq_Q cs D kz_cl A (wq_G0 ad w) rt xt below s 1 6) 19 (kt_B_madeIn_19 rt xt) := by
    refine wq_iconst_ok h0 kd_B_madeIn_19 (by decide +kernel) ?_
    exact hb_20
  have hb_0 : wq_Snd p l e ({ frames := 7, cells := 1, slots := 6, locals := 170 } : Room) s m args below meth c 3 cs D kz_cl A (wq_G0 ad w) (wq_Q cs D kz_cl A (wq_G0 ad w) rt xt below s 1 6) 0 (kt_B_madeIn_0 rt xt) := by
    refine wq_iload_n_ok h0 kd_B_madeIn_0 rfl ?_
    refine wq_call_ok hA (wq_runS ⟨h0.1, h0.2, hml, hown, hts⟩ (kv_B_isGood hl) ⟨(wq_cB hts kw_G kw_531 kw_1 kw_529 ⟨by decide +kernel, by decide +kernel, by decide +kernel⟩ rfl rfl ⟨Nat.le_of_ble_eq_true rfl, Nat.le_of_ble_eq_true rfl⟩), hts _ kw_530⟩ hK hZ hN hA kd_B_madeIn_1) (wq_xout_ok hnt hlk) ?_
    refine wq_if_eq_ok (tgt := 19) h0 kd_B_madeIn_4 (by decide) ?_ ?_
    · exact hb_19
    refine wq_iload_n_ok h0 kd_B_madeIn_7 rfl ?_
    refine wq_iconst_ok h0 kd_B_madeIn_8 (by decide +kernel) ?_
    refine wq_call_ok hA (wq_runS ⟨h0.1, h0.2, hml, hown, hts⟩ (kv_B_isBelow hl) ⟨(wq_cB hts kw_G kw_410 kw_1 kw_408 ⟨by decide +kernel, by decide +kernel, by decide +kernel⟩ rfl rfl ⟨Nat.le_of_ble_eq_true rfl, Nat.le_of_ble_eq_true rfl⟩), hts _ kw_409⟩ hK hZ hN hA kd_B_madeIn_9) (wq_xout_ok hnt hlk) ?_
    refine wq_if_eq_ok (tgt := 19) h0 kd_B_madeIn_12 (by decide) ?_ ?_
    · exact hb_19
    refine wq_iconst_ok h0 kd_B_madeIn_15 (by decide +kernel) ?_
    refine wq_goto_ok (tgt := 20) h0 kd_B_madeIn_16 (by decide) ?_
    exact hb_20
  exact hb_0 _ _ _ _ _ (wq_sp_t hsp)
