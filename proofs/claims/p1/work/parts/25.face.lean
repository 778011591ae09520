-- BorderDesk.heading(I)I
def kt_B_heading_58 (rt : Option wq_V → wq_W → Prop) (xt : Nat → wq_W → Prop) : wq_T := (wq_call ks_B_requireState 1 1 6 3 18 (wq_xout 3 18 xt) (wq_aload 0 (wq_get 0 0 (wq_iload 1 (wq_call (wq_rv 1 ks_T_addHeading) 2 0 0 3 18 (wq_xout 3 18 xt) (wq_ireturn 3 18 rt))))))
def kt_B_heading_57 (rt : Option wq_V → wq_W → Prop) (xt : Nat → wq_W → Prop) : wq_T := (wq_iconst (nI 0) (kt_B_heading_58 rt xt))
def kt_B_heading_38 (rt : Option wq_V → wq_W → Prop) (xt : Nat → wq_W → Prop) : wq_T := (wq_call ks_B_requireState 1 1 6 3 18 (wq_xout 3 18 xt) (wq_aload 0 (wq_get 0 0 (wq_iload 1 (wq_call (wq_rv 1 ks_T_depthUnder) 2 0 0 3 18 (wq_xout 3 18 xt) (wq_iconst (nI 5) (wq_f2 (fun x y => y < x) (kt_B_heading_57 rt xt) (wq_iconst (nI 1) (kt_B_heading_58 rt xt)))))))))
def kt_B_heading_37 (rt : Option wq_V → wq_W → Prop) (xt : Nat → wq_W → Prop) : wq_T := (wq_iconst (nI 0) (kt_B_heading_38 rt xt))
def kt_B_heading_18 (rt : Option wq_V → wq_W → Prop) (xt : Nat → wq_W → Prop) : wq_T := (wq_call ks_B_requireArgument 1 1 6 3 18 (wq_xout 3 18 xt) (wq_aload 0 (wq_get 0 0 (wq_get 1 0 (wq_iconst (nI 24) (wq_f2 (fun x y => y ≤ x) (kt_B_heading_37 rt xt) (wq_iconst (nI 1) (kt_B_heading_38 rt xt))))))))
def kt_B_heading_13 (rt : Option wq_V → wq_W → Prop) (xt : Nat → wq_W → Prop) : wq_T := (wq_iconst (nI 1) (kt_B_heading_18 rt xt))
def kt_B_heading_17 (rt : Option wq_V → wq_W → Prop) (xt : Nat → wq_W → Prop) : wq_T := (wq_iconst (nI 0) (kt_B_heading_18 rt xt))
def kt_B_heading_0 (rt : Option wq_V → wq_W → Prop) (xt : Nat → wq_W → Prop) : wq_T := (wq_iload 1 (wq_iconst (-1) (wq_f2 (fun x y => x = y) (kt_B_heading_13 rt xt) (wq_aload 0 (wq_iload 1 (wq_call (wq_rv 0 ks_B_isHeading) 2 0 0 3 18 (wq_xout 3 18 xt) (wq_f1 (fun x => x = 0) (kt_B_heading_17 rt xt) (kt_B_heading_13 rt xt))))))))
def ks_B_heading : wq_S := wq_sp 2 (fun rt xt => kt_B_heading_0 rt xt)
set_option maxRecDepth 100000 in
set_option maxHeartbeats 4000000 in
theorem kv_B_heading {l : Launch} (hl : l.stackTraces = false) : wq_Vld l kz_cl ky_B_heading kw_T ({ frames := 7, cells := 3, slots := 18, locals := 101 }) wq_G0 ks_B_heading 3 18 := by
  refine wq_method (cc := kc_B_heading) (maxL := 2) (ret := (some .int)) (by decide) kw_403 (fun _ _ => rfl) wq_sp_sz ?_
  intro p e s m args below meth c cs D ad as w rt xt hF hnt hsp
  obtain ⟨h0, hr, hts, hown, hlk, hnm, hml, hK, hZ, hN, hA⟩ := hF
  have hown : s.vm.findClass "BorderDesk" = some m.cls := hown
  obtain ⟨A, hAe⟩ : ∃ A, A = wq_A ad w s.heap.size := ⟨_, rfl⟩
  rw [← hAe] at hZ hA ⊢
  have hb_58 : wq_Snd p l e ({ frames := 7, cells := 3, slots := 18, locals := 101 } : Room) s m args below meth c 2 cs D kz_cl A (wq_G0 ad w) (wq_Q cs D kz_cl A (wq_G0 ad w) rt xt below s 3 18) 58 (kt_B_heading_58 rt xt) := by
    refine wq_call_ok hA (wq_runS ⟨h0.1, h0.2, hml, hown, hts⟩ (kv_B_requireState hl) ⟨(wq_cB hts kw_G kw_480 kw_1 kw_478 ⟨by decide +kernel, by decide +kernel, by decide +kernel⟩ rfl rfl ⟨Nat.le_of_ble_eq_true rfl, Nat.le_of_ble_eq_true rfl⟩), hts _ kw_479⟩ hK hZ hN hA kd_B_heading_58) (wq_xout_ok hnt hlk) ?_
    refine wq_aload_n_ok h0 kd_B_heading_61 rfl ?_
    refine wq_get_ok (wq_getOK h0 hts ki_B hown hK (ci := 0) rfl 0 (Nat.le_of_ble_eq_true rfl) kw_370 rfl) kd_B_heading_62 ?_
    refine wq_iload_n_ok h0 kd_B_heading_65 rfl ?_
    refine wq_call_ok hA (wq_runV (ci := 1) ⟨h0.1, h0.2, hml, hown, hts⟩ (kv_T_addHeading hl) ⟨(wq_cB hts kw_G kw_503 kw_2 kw_500 ⟨by decide +kernel, by decide +kernel, by decide +kernel⟩ rfl rfl ⟨Nat.le_of_ble_eq_true rfl, Nat.le_of_ble_eq_true rfl⟩), hts _ kw_501, hts _ kw_502⟩ rfl rfl hK hZ hN hA kd_B_heading_66) (wq_xout_ok hnt hlk) ?_
    exact wq_ireturn_ok h0 hr hlk kd_B_heading_69
  have hb_57 : wq_Snd p l e ({ frames := 7, cells := 3, slots := 18, locals := 101 } : Room) s m args below meth c 2 cs D kz_cl A (wq_G0 ad w) (wq_Q cs D kz_cl A (wq_G0 ad w) rt xt below s 3 18) 57 (kt_B_heading_57 rt xt) := by
    refine wq_iconst_ok h0 kd_B_heading_57 (by decide +kernel) ?_
    exact hb_58
  have hb_38 : wq_Snd p l e ({ frames := 7, cells := 3, slots := 18, locals := 101 } : Room) s m args below meth c 2 cs D kz_cl A (wq_G0 ad w) (wq_Q cs D kz_cl A (wq_G0 ad w) rt xt below s 3 18) 38 (kt_B_heading_38 rt xt) := by
    refine wq_call_ok hA (wq_runS ⟨h0.1, h0.2, hml, hown, hts⟩ (kv_B_requireState hl) ⟨(wq_cB hts kw_G kw_480 kw_1 kw_478 ⟨by decide +kernel, by decide +kernel, by decide +kernel⟩ rfl rfl ⟨Nat.le_of_ble_eq_true rfl, Nat.le_of_ble_eq_true rfl⟩), hts _ kw_479⟩ hK hZ hN hA kd_B_heading_38) (wq_xout_ok hnt hlk) ?_
    refine wq_aload_n_ok h0 kd_B_heading_41 rfl ?_
    refine wq_get_ok (wq_getOK h0 hts ki_B hown hK (ci := 0) rfl 0 (Nat.le_of_ble_eq_true rfl) kw_370 rfl) kd_B_heading_42 ?_
    refine wq_iload_n_ok h0 kd_B_heading_45 rfl ?_
    refine wq_call_ok hA (wq_runV (ci := 1) ⟨h0.1, h0.2, hml, hown, hts⟩ (kv_T_depthUnder hl) ⟨(wq_cB hts kw_G kw_499 kw_2 kw_496 ⟨by decide +kernel, by decide +kernel, by decide +kernel⟩ rfl rfl ⟨Nat.le_of_ble_eq_true rfl, Nat.le_of_ble_eq_true rfl⟩), hts _ kw_497, hts _ kw_498⟩ rfl rfl hK hZ hN hA kd_B_heading_46) (wq_xout_ok hnt hlk) ?_
    refine wq_iconst_ok h0 kd_B_heading_49 (by decide +kernel) ?_
    refine wq_icmp_gt_ok (tgt := 57) h0 kd_B_heading_50 (by decide) ?_ ?_
    · exact hb_57
    refine wq_iconst_ok h0 kd_B_heading_53 (by decide +kernel) ?_
    refine wq_goto_ok (tgt := 58) h0 kd_B_heading_54 (by decide) ?_
    exact hb_58
  have hb_37 : wq_Snd p l e ({ frames := 7, cells := 3, slots := 18, locals := 101 } : Room) s m args below meth c 2 cs D kz_cl A (wq_G0 ad w) (wq_Q cs D kz_cl A (wq_G0 ad w) rt xt below s 3 18) 37 (kt_B_heading_37 rt xt) := by
    refine wq_iconst_ok h0 kd_B_heading_37 (by decide +kernel) ?_
    exact hb_38
  have hb_18 : wq_Snd p l e ({ frames := 7, cells := 3, slots := 18, locals := 101 } : Room) s m args below meth c 2 cs D kz_cl A (wq_G0 ad w) (wq_Q cs D kz_cl A (wq_G0 ad w) rt xt below s 3 18) 18 (kt_B_heading_18 rt xt) := by
    refine wq_call_ok hA (wq_runS ⟨h0.1, h0.2, hml, hown, hts⟩ (kv_B_requireArgument hl) ⟨(wq_cB hts kw_G kw_413 kw_1 kw_411 ⟨by decide +kernel, by decide +kernel, by decide +kernel⟩ rfl rfl ⟨Nat.le_of_ble_eq_true rfl, Nat.le_of_ble_eq_true rfl⟩), hts _ kw_412⟩ hK hZ hN hA kd_B_heading_18) (wq_xout_ok hnt hlk) ?_
    refine wq_aload_n_ok h0 kd_B_heading_21 rfl ?_
    refine wq_get_ok (wq_getOK h0 hts ki_B hown hK (ci := 0) rfl 0 (Nat.le_of_ble_eq_true rfl) kw_370 rfl) kd_B_heading_22 ?_
    refine wq_get_ok (wq_getOK h0 hts ki_T hown hK (ci := 1) rfl 0 (Nat.le_of_ble_eq_true rfl) kw_37 rfl) kd_B_heading_25 ?_
    refine wq_bipush_ok h0 kd_B_heading_28 (by decide +kernel) ?_
    refine wq_icmp_ge_ok (tgt := 37) h0 kd_B_heading_30 (by decide) ?_ ?_
    · exact hb_37
    refine wq_iconst_ok h0 kd_B_heading_33 (by decide +kernel) ?_
    refine wq_goto_ok (tgt := 38) h0 kd_B_heading_34 (by decide) ?_
    exact hb_38
  have hb_13 : wq_Snd p l e ({ frames := 7, cells := 3, slots := 18, locals := 101 } : Room) s m args below meth c 2 cs D kz_cl A (wq_G0 ad w) (wq_Q cs D kz_cl A (wq_G0 ad w) rt xt below s 3 18) 13 (kt_B_heading_13 rt xt) := by
    refine wq_iconst_ok h0 kd_B_heading_13 (by decide +kernel) ?_
    refine wq_goto_ok (tgt := 18) h0 kd_B_heading_14 (by decide) ?_
    exact hb_18
  have hb_17 : wq_Snd p l e ({ frames := 7, cells := 3, slots := 18, locals := 101 } : Room) s m args below meth c 2 cs D kz_cl A (wq_G0 ad w) (wq_Q cs D kz_cl A (wq_G0 ad w) rt xt below s 3 18) 17 (kt_B_heading_17 rt xt) := by
    refine wq_iconst_ok h0 kd_B_heading_17 (by decide +kernel) ?_
    exact hb_18
  have hb_0 : wq_Snd p l e ({ frames := 7, cells := 3, slots := 18, locals := 101 } : Room) s m args below meth c 2 cs D kz_cl A (wq_G0 ad w) (wq_Q cs D kz_cl A (wq_G0 ad w) rt xt below s 3 18) 0 (kt_B_heading_0 rt xt) := by
    refine wq_iload_n_ok h0 kd_B_heading_0 rfl ?_
    refine wq_iconst_ok h0 kd_B_heading_1 (by decide +kernel) ?_
    refine wq_icmp_eq_ok (tgt := 13) h0 kd_B_heading_2 (by decide) ?_ ?_
    · exact hb_13
    refine wq_aload_n_ok h0 kd_B_heading_5 rfl ?_
    refine wq_iload_n_ok h0 kd_B_heading_6 rfl ?_
    refine wq_call_ok hA (wq_runV (ci := 0) ⟨h0.1, h0.2, hml, hown, hts⟩ (kv_B_isHeading hl) ⟨(wq_cB hts kw_G kw_407 kw_1 kw_404 ⟨by decide +kernel, by decide +kernel, by decide +kernel⟩ rfl rfl ⟨Nat.le_of_ble_eq_true rfl, Nat.le_of_ble_eq_true rfl⟩), hts _ kw_406, hts _ kw_s0⟩ rfl rfl hK hZ hN hA kd_B_heading_7) (wq_xout_ok hnt hlk) ?_
    refine wq_if_eq_ok (tgt := 17) h0 kd_B_heading_10 (by decide) ?_ ?_
    · exact hb_17
    exact hb_13
  exact hb_0 _ _ _ _ _ (wq_sp_t hsp)
-- BorderDesk.note(IIII)I
def kt_B_note_79 (rt : Option wq_V → wq_W → Prop) (xt : Nat → wq_W → Prop) : wq_T := (wq_call ks_B_requireState 1 1 6 5 30 (wq_xout 5 30 xt) (wq_aload 0 (wq_get 0 0 (wq_iload 1 (wq_iload 2 (wq_iload 3 (wq_iload 4 (wq_call (wq_rv 1 ks_T_addNote) 5 0 0 5 30 (wq_xout 5 30 xt) (wq_ireturn 5 30 rt)))))))))
def kt_B_note_78 (rt : Option wq_V → wq_W → Prop) (xt : Nat → wq_W → Prop) : wq_T := (wq_iconst (nI 0) (kt_B_note_79 rt xt))
def kt_B_note_59 (rt : Option wq_V → wq_W → Prop) (xt : Nat → wq_W → Prop) : wq_T := (wq_call ks_B_requireArgument 1 1 6 5 30 (wq_xout 5 30 xt) (wq_aload 0 (wq_get 0 0 (wq_get 1 5 (wq_iconst (nI 40) (wq_f2 (fun x y => y ≤ x) (kt_B_note_78 rt xt) (wq_iconst (nI 1) (kt_B_note_79 rt xt))))))))
def kt_B_note_54 (rt : Option wq_V → wq_W → Prop) (xt : Nat → wq_W → Prop) : wq_T := (wq_iconst (nI 1) (kt_B_note_59 rt xt))
def kt_B_note_58 (rt : Option wq_V → wq_W → Prop) (xt : Nat → wq_W → Prop) : wq_T := (wq_iconst (nI 0) (kt_B_note_59 rt xt))
def kt_B_note_20 (rt : Option wq_V → wq_W → Prop) (xt : Nat → wq_W → Prop) : wq_T := (wq_call ks_B_requireArgument 1 1 6 5 30 (wq_xout 5 30 xt) (wq_iload 2 (wq_iconst (nI 0) (wq_iconst (nI 2) (wq_call ks_B_isWithin 3 0 0 5 30 (wq_xout 5 30 xt) (wq_call ks_B_requireArgument 1 1 6 5 30 (wq_xout 5 30 xt) (wq_iload 4 (wq_iconst (nI 1) (wq_iconst (nI 1000) (wq_call ks_B_isWithin 3 0 0 5 30 (wq_xout 5 30 xt) (wq_call ks_B_requireArgument 1 1 6 5 30 (wq_xout 5 30 xt) (wq_iload 2 (wq_iconst (nI 2) (wq_f2 (fun x y => x = y) (wq_iload 3 (wq_iconst (nI 4) (wq_f2 (fun x y => y ≤ x) (kt_B_note_58 rt xt) (kt_B_note_54 rt xt)))) (kt_B_note_54 rt xt)))))))))))))))
def kt_B_note_19 (rt : Option wq_V → wq_W → Prop) (xt : Nat → wq_W → Prop) : wq_T := (wq_iconst (nI 0) (kt_B_note_20 rt xt))
def kt_B_note_0 (rt : Option wq_V → wq_W → Prop) (xt : Nat → wq_W → Prop) : wq_T := (wq_aload 0 (wq_iload 1 (wq_call (wq_rv 0 ks_B_isHeading) 2 0 0 5 30 (wq_xout 5 30 xt) (wq_f1 (fun x => x = 0) (kt_B_note_19 rt xt) (wq_iload 3 (wq_call ks_B_isFact 1 0 0 5 30 (wq_xout 5 30 xt) (wq_f1 (fun x => x = 0) (kt_B_note_19 rt xt) (wq_iconst (nI 1) (kt_B_note_20 rt xt)))))))))
def ks_B_note : wq_S := wq_sp 5 (fun rt xt => kt_B_note_0 rt xt)
set_option maxRecDepth 100000 in
set_option maxHeartbeats 4000000 in
theorem kv_B_note {l : Launch} (hl : l.stackTraces = false) : wq_Vld l kz_cl ky_B_note kw_T ({ frames := 7, cells := 5, slots := 30, locals := 101 }) wq_G0 ks_B_note 5 30 := by
  refine wq_method (cc := kc_B_note) (maxL := 5) (ret := (some .int)) (by decide) kw_511 (fun _ _ => rfl) wq_sp_sz ?_
  intro p e s m args below meth c cs D ad as w rt xt hF hnt hsp
  obtain ⟨h0, hr, hts, hown, hlk, hnm, hml, hK, hZ, hN, hA⟩ := hF
  have hown : s.vm.findClass "BorderDesk" = some m.cls := hown
  obtain ⟨A, hAe⟩ : ∃ A, A = wq_A ad w s.heap.size := ⟨_, rfl⟩
  rw [← hAe] at hZ hA ⊢
  have hb_79 : wq_Snd p l e ({ frames := 7, cells := 5, slots := 30, locals := 101 } : Room) s m args below meth c 5 cs D kz_cl A (wq_G0 ad w) (wq_Q cs D kz_cl A (wq_G0 ad w) rt xt below s 5 30) 79 (kt_B_note_79 rt xt) := by
    refine wq_call_ok hA (wq_runS ⟨h0.1, h0.2, hml, hown, hts⟩ (kv_B_requireState hl) ⟨(wq_cB hts kw_G kw_480 kw_1 kw_478 ⟨by decide +kernel, by decide +kernel, by decide +kernel⟩ rfl rfl ⟨Nat.le_of_ble_eq_true rfl, Nat.le_of_ble_eq_true rfl⟩), hts _ kw_479⟩ hK hZ hN hA kd_B_note_79) (wq_xout_ok hnt hlk) ?_
    refine wq_aload_n_ok h0 kd_B_note_82 rfl ?_
    refine wq_get_ok (wq_getOK h0 hts ki_B hown hK (ci := 0) rfl 0 (Nat.le_of_ble_eq_true rfl) kw_370 rfl) kd_B_note_83 ?_
    refine wq_iload_n_ok h0 kd_B_note_86 rfl ?_
    refine wq_iload_n_ok h0 kd_B_note_87 rfl ?_
    refine wq_iload_n_ok h0 kd_B_note_88 rfl ?_
    refine wq_iload_ok h0 kd_B_note_89 ?_
    refine wq_call_ok hA (wq_runV (ci := 1) ⟨h0.1, h0.2, hml, hown, hts⟩ (kv_T_addNote hl) ⟨(wq_cB hts kw_G kw_521 kw_2 kw_518 ⟨by decide +kernel, by decide +kernel, by decide +kernel⟩ rfl rfl ⟨Nat.le_of_ble_eq_true rfl, Nat.le_of_ble_eq_true rfl⟩), hts _ kw_519, hts _ kw_520⟩ rfl rfl hK hZ hN hA kd_B_note_91) (wq_xout_ok hnt hlk) ?_
    exact wq_ireturn_ok h0 hr hlk kd_B_note_94
  have hb_78 : wq_Snd p l e ({ frames := 7, cells := 5, slots := 30, locals := 101 } : Room) s m args below meth c 5 cs D kz_cl A (wq_G0 ad w) (wq_Q cs D kz_cl A (wq_G0 ad w) rt xt below s 5 30) 78 (kt_B_note_78 rt xt) := by
    refine wq_iconst_ok h0 kd_B_note_78 (by decide +kernel) ?_
    exact hb_79
  have hb_59 : wq_Snd p l e ({ frames := 7, cells := 5, slots := 30, locals := 101 } : Room) s m args below meth c 5 cs D kz_cl A (wq_G0 ad w) (wq_Q cs D kz_cl A (wq_G0 ad w) rt xt below s 5 30) 59 (kt_B_note_59 rt xt) := by
    refine wq_call_ok hA (wq_runS ⟨h0.1, h0.2, hml, hown, hts⟩ (kv_B_requireArgument hl) ⟨(wq_cB hts kw_G kw_413 kw_1 kw_411 ⟨by decide +kernel, by decide +kernel, by decide +kernel⟩ rfl rfl ⟨Nat.le_of_ble_eq_true rfl, Nat.le_of_ble_eq_true rfl⟩), hts _ kw_412⟩ hK hZ hN hA kd_B_note_59) (wq_xout_ok hnt hlk) ?_
    refine wq_aload_n_ok h0 kd_B_note_62 rfl ?_
    refine wq_get_ok (wq_getOK h0 hts ki_B hown hK (ci := 0) rfl 0 (Nat.le_of_ble_eq_true rfl) kw_370 rfl) kd_B_note_63 ?_
    refine wq_get_ok (wq_getOK h0 hts ki_T hown hK (ci := 1) rfl 5 (Nat.le_of_ble_eq_true rfl) kw_48 rfl) kd_B_note_66 ?_
    refine wq_bipush_ok h0 kd_B_note_69 (by decide +kernel) ?_
    refine wq_icmp_ge_ok (tgt := 78) h0 kd_B_note_71 (by decide) ?_ ?_
    · exact hb_78
    refine wq_iconst_ok h0 kd_B_note_74 (by decide +kernel) ?_
    refine wq_goto_ok (tgt := 79) h0 kd_B_note_75 (by decide) ?_
    exact hb_79
  have hb_54 : wq_Snd p l e ({ frames := 7, cells := 5, slots := 30, locals := 101 } : Room) s m args below meth c 5 cs D kz_cl A (wq_G0 ad w) (wq_Q cs D kz_cl A (wq_G0 ad w) rt xt below s 5 30) 54 (kt_B_note_54 rt xt) := by
    refine wq_iconst_ok h0 kd_B_note_54 (by decide +kernel) ?_
    refine wq_goto_ok (tgt := 59) h0 kd_B_note_55 (by decide) ?_
    exact hb_59
  have hb_58 : wq_Snd p l e ({ frames := 7, cells := 5, slots := 30, locals := 101 } : Room) s m args below meth c 5 cs D kz_cl A (wq_G0 ad w) (wq_Q cs D kz_cl A (wq_G0 ad w) rt xt below s 5 30) 58 (kt_B_note_58 rt xt) := by
    refine wq_iconst_ok h0 kd_B_note_58 (by decide +kernel) ?_
    exact hb_59
  have hb_20 : wq_Snd p l e ({ frames := 7, cells := 5, slots := 30, locals := 101 } : Room) s m args below meth c 5 cs D kz_cl A (wq_G0 ad w) (wq_Q cs D kz_cl A (wq_G0 ad w) rt xt below s 5 30) 20 (kt_B_note_20 rt xt) := by
    refine wq_call_ok hA (wq_runS ⟨h0.1, h0.2, hml, hown, hts⟩ (kv_B_requireArgument hl) ⟨(wq_cB hts kw_G kw_413 kw_1 kw_411 ⟨by decide +kernel, by decide +kernel, by decide +kernel⟩ rfl rfl ⟨Nat.le_of_ble_eq_true rfl, Nat.le_of_ble_eq_true rfl⟩), hts _ kw_412⟩ hK hZ hN hA kd_B_note_20) (wq_xout_ok hnt hlk) ?_
    refine wq_iload_n_ok h0 kd_B_note_23 rfl ?_
    refine wq_iconst_ok h0 kd_B_note_24 (by decide +kernel) ?_
    refine wq_iconst_ok h0 kd_B_note_25 (by decide +kernel) ?_
    refine wq_call_ok hA (wq_runS ⟨h0.1, h0.2, hml, hown, hts⟩ (kv_B_isWithin hl) ⟨(wq_cB hts kw_G kw_517 kw_1 kw_515 ⟨by decide +kernel, by decide +kernel, by decide +kernel⟩ rfl rfl ⟨Nat.le_of_ble_eq_true rfl, Nat.le_of_ble_eq_true rfl⟩), hts _ kw_516⟩ hK hZ hN hA kd_B_note_26) (wq_xout_ok hnt hlk) ?_
    refine wq_call_ok hA (wq_runS ⟨h0.1, h0.2, hml, hown, hts⟩ (kv_B_requireArgument hl) ⟨(wq_cB hts kw_G kw_413 kw_1 kw_411 ⟨by decide +kernel, by decide +kernel, by decide +kernel⟩ rfl rfl ⟨Nat.le_of_ble_eq_true rfl, Nat.le_of_ble_eq_true rfl⟩), hts _ kw_412⟩ hK hZ hN hA kd_B_note_29) (wq_xout_ok hnt hlk) ?_
    refine wq_iload_ok h0 kd_B_note_32 ?_
    refine wq_iconst_ok h0 kd_B_note_34 (by decide +kernel) ?_
    refine wq_sipush_ok h0 kd_B_note_35 (by decide +kernel) ?_
    refine wq_call_ok hA (wq_runS ⟨h0.1, h0.2, hml, hown, hts⟩ (kv_B_isWithin hl) ⟨(wq_cB hts kw_G kw_517 kw_1 kw_515 ⟨by decide +kernel, by decide +kernel, by decide +kernel⟩ rfl rfl ⟨Nat.le_of_ble_eq_true rfl, Nat.le_of_ble_eq_true rfl⟩), hts _ kw_516⟩ hK hZ hN hA kd_B_note_38) (wq_xout_ok hnt hlk) ?_
    refine wq_call_ok hA (wq_runS ⟨h0.1, h0.2, hml, hown, hts⟩ (kv_B_requireArgument hl) ⟨(wq_cB hts kw_G kw_413 kw_1 kw_411 ⟨by decide +kernel, by decide +kernel, by decide +kernel⟩ rfl rfl ⟨Nat.le_of_ble_eq_true rfl, Nat.le_of_ble_eq_true rfl⟩), hts _ kw_412⟩ hK hZ hN hA kd_B_note_41) (wq_xout_ok hnt hlk) ?_
    refine wq_iload_n_ok h0 kd_B_note_44 rfl ?_
    refine wq_iconst_ok h0 kd_B_note_45 (by decide +kernel) ?_
    refine wq_icmp_ne_ok (tgt := 54) h0 kd_B_note_46 (by decide) ?_ ?_
    · exact hb_54
    refine wq_iload_n_ok h0 kd_B_note_49 rfl ?_
    refine wq_iconst_ok h0 kd_B_note_50 (by decide +kernel) ?_
    refine wq_icmp_ge_ok (tgt := 58) h0 kd_B_note_51 (by decide) ?_ ?_
    · exact hb_58
    exact hb_54
  have hb_19 : wq_Snd p l e ({ frames := 7, cells := 5, slots := 30, locals := 101 } : Room) s m args below meth c 5 cs D kz_cl A (wq_G0 ad w) (wq_Q cs D kz_cl A (wq_G0 ad w) rt xt below s 5 30) 19 (kt_B_note_19 rt xt) := by
    refine wq_iconst_ok h0 kd_B_note_19 (by decide +kernel) ?_
    exact hb_20
  have hb_0 : wq_Snd p l e ({ frames := 7, cells := 5, slots := 30, locals := 101 } : Room) s m args below meth c 5 cs D kz_cl A (wq_G0 ad w) (wq_Q cs D kz_cl A (wq_G0 ad w) rt xt below s 5 30) 0 (kt_B_note_0 rt xt) := by
    refine wq_aload_n_ok h0 kd_B_note_0 rfl ?_
    refine wq_iload_n_ok h0 kd_B_note_1 rfl ?_
    refine wq_call_ok hA (wq_runV (ci := 0) ⟨h0.1, h0.2, hml, hown, hts⟩ (kv_B_isHeading hl) ⟨(wq_cB hts kw_G kw_407 kw_1 kw_404 ⟨by decide +kernel, by decide +kernel, by decide +kernel⟩ rfl rfl ⟨Nat.le_of_ble_eq_true rfl, Nat.le_of_ble_eq_true rfl⟩), hts _ kw_406, hts _ kw_s0⟩ rfl rfl hK hZ hN hA kd_B_note_2) (wq_xout_ok hnt hlk) ?_
    refine wq_if_eq_ok (tgt := 19) h0 kd_B_note_5 (by decide) ?_ ?_
    · exact hb_19
    refine wq_iload_n_ok h0 kd_B_note_8 rfl ?_
    refine wq_call_ok hA (wq_runS ⟨h0.1, h0.2, hml, hown, hts⟩ (kv_B_isFact hl) ⟨(wq_cB hts kw_G kw_514 kw_1 kw_512 ⟨by decide +kernel, by decide +kernel, by decide +kernel⟩ rfl rfl ⟨Nat.le_of_ble_eq_true rfl, Nat.le_of_ble_eq_true rfl⟩), hts _ kw_513⟩ hK hZ hN hA kd_B_note_9) (wq_xout_ok hnt hlk) ?_
    refine wq_if_eq_ok (tgt := 19) h0 kd_B_note_12 (by decide) ?_ ?_
    · exact hb_19
    refine wq_iconst_ok h0 kd_B_note_15 (by decide +kernel) ?_
    refine wq_goto_ok (tgt := 20) h0 kd_B_note_16 (by decide) ?_
    exact hb_20
  exact hb_0 _ _ _ _ _ (wq_sp_t hsp)
-- BorderDesk.fact(III)I
def kt_B_fact_19 (rt : Option wq_V → wq_W → Prop) (xt : Nat → wq_W → Prop) : wq_T := (wq_call ks_B_requireArgument 1 1 6 2 12 (wq_xout 2 12 xt) (wq_iload 3 (wq_iconst (nI 0) (wq_iconst (nI 1000) (wq_call ks_B_isWithin 3 0 0 2 12 (wq_xout 2 12 xt) (wq_call ks_B_requireArgument 1 1 6 2 12 (wq_xout 2 12 xt) (wq_aload 0 (wq_get 0 0 (wq_get 1 10 (wq_iload 1 (wq_aald (wq_iload 2 (wq_iald (wq_istore 4 (wq_aload 0 (wq_get 0 0 (wq_get 1 10 (wq_iload 1 (wq_aald (wq_iload 2 (wq_iload 3 (wq_iast (wq_iload 4 (wq_ireturn 2 12 rt))))))))))))))))))))))))
def kt_B_fact_18 (rt : Option wq_V → wq_W → Prop) (xt : Nat → wq_W → Prop) : wq_T := (wq_iconst (nI 0) (kt_B_fact_19 rt xt))
def kt_B_fact_0 (rt : Option wq_V → wq_W → Prop) (xt : Nat → wq_W → Prop) : wq_T := (wq_iload 1 (wq_call ks_B_isGood 1 0 0 2 12 (wq_xout 2 12 xt) (wq_f1 (fun x => x = 0) (kt_B_fact_18 rt xt) (wq_iload 2 (wq_call ks_B_isFact 1 0 0 2 12 (wq_xout 2 12 xt) (wq_f1 (fun x => x = 0) (kt_B_fact_18 rt xt) (wq_iconst (nI 1) (kt_B_fact_19 rt xt))))))))
def ks_B_fact : wq_S := wq_sp 5 (fun rt xt => kt_B_fact_0 rt xt)
set_option maxRecDepth 100000 in
set_option maxHeartbeats 4000000 in
theorem kv_B_fact {l : Launch} (hl : l.stackTraces = false) : wq_Vld l kz_cl ky_B_fact kw_T ({ frames := 7, cells := 2, slots := 12, locals := 101 }) wq_G0 ks_B_fact 2 12 := by
  refine wq_method (cc := kc_B_fact) (maxL := 5) (ret := (some .int)) (by decide) kw_528 (fun _ _ => rfl) wq_sp_sz ?_
  intro p e s m args below meth c cs D ad as w rt xt hF hnt hsp
  obtain ⟨h0, hr, hts, hown, hlk, hnm, hml, hK, hZ, hN, hA⟩ := hF
  have hown : s.vm.findClass "BorderDesk" = some m.cls := hown
  obtain ⟨A, hAe⟩ : ∃ A, A = wq_A ad w s.heap.size := ⟨_, rfl⟩
  rw [← hAe] at hZ hA ⊢
  have hb_19 : wq_Snd p l e ({ frames := 7, cells := 2, slots := 12, locals := 101 } : Room) s m args below meth c 5 cs D kz_cl A (wq_G0 ad w) (wq_Q cs D kz_cl A (wq_G0 ad w) rt xt below s 2 12) 19 (kt_B_fact_19 rt xt) := by
    refine wq_call_ok hA (wq_runS ⟨h0.1, h0.2, hml, hown, hts⟩ (kv_B_requireArgument hl) ⟨(wq_cB hts kw_G kw_413 kw_1 kw_411 ⟨by decide +kernel, by decide +kernel, by decide +kernel⟩ rfl rfl ⟨Nat.le_of_ble_eq_true rfl, Nat.le_of_ble_eq_true rfl⟩), hts _ kw_412⟩ hK hZ hN hA kd_B_fact_19) (wq_xout_ok hnt hlk) ?_
    refine wq_iload_n_ok h0 kd_B_fact_22 rfl ?_
    refine wq_iconst_ok h0 kd_B_fact_23 (by decide +kernel) ?_
    refine wq_sipush_ok h0 kd_B_fact_24 (by decide +kernel) ?_
    refine wq_call_ok hA (wq_runS ⟨h0.1, h0.2, hml, hown, hts⟩ (kv_B_isWithin hl) ⟨(wq_cB hts kw_G kw_517 kw_1 kw_515 ⟨by decide +kernel, by decide +kernel, by decide +kernel⟩ rfl rfl ⟨Nat.le_of_ble_eq_true rfl, Nat.le_of_ble_eq_true rfl⟩), hts _ kw_516⟩ hK hZ hN hA kd_B_fact_27) (wq_xout_ok hnt hlk) ?_
    refine wq_call_ok hA (wq_runS ⟨h0.1, h0.2, hml, hown, hts⟩ (kv_B_requireArgument hl) ⟨(wq_cB hts kw_G kw_413 kw_1 kw_411 ⟨by decide +kernel, by decide +kernel, by decide +kernel⟩ rfl rfl ⟨Nat.le_of_ble_eq_true rfl, Nat.le_of_ble_eq_true rfl⟩), hts _ kw_412⟩ hK hZ hN hA kd_B_fact_30) (wq_xout_ok hnt hlk) ?_
    refine wq_aload_n_ok h0 kd_B_fact_33 rfl ?_
    refine wq_get_ok (wq_getOK h0 hts ki_B hown hK (ci := 0) rfl 0 (Nat.le_of_ble_eq_true rfl) kw_370 rfl) kd_B_fact_34 ?_
    refine wq_get_ok (wq_getOK h0 hts ki_T hown hK (ci := 1) rfl 10 (Nat.le_of_ble_eq_true rfl) kw_55 rfl) kd_B_fact_37 ?_
    refine wq_iload_n_ok h0 kd_B_fact_40 rfl ?_
    refine wq_aald_ok h0 hK kd_B_fact_41 ?_
    refine wq_iload_n_ok h0 kd_B_fact_42 rfl ?_
    refine wq_iald_ok h0 hK kd_B_fact_43 ?_
    refine wq_istore_ok h0 kd_B_fact_44 (Nat.le_of_ble_eq_true rfl) ?_
    refine wq_aload_n_ok h0 kd_B_fact_46 rfl ?_
    refine wq_get_ok (wq_getOK h0 hts ki_B hown hK (ci := 0) rfl 0 (Nat.le_of_ble_eq_true rfl) kw_370 rfl) kd_B_fact_47 ?_
    refine wq_get_ok (wq_getOK h0 hts ki_T hown hK (ci := 1) rfl 10 (Nat.le_of_ble_eq_true rfl) kw_55 rfl) kd_B_fact_50 ?_
    refine wq_iload_n_ok h0 kd_B_fact_53 rfl ?_
    refine wq_aald_ok h0 hK kd_B_fact_54 ?_
    refine wq_iload_n_ok h0 kd_B_fact_55 rfl ?_
    refine wq_iload_n_ok h0 kd_B_fact_56 rfl ?_
    refine wq_iast_ok h0 hK kd_B_fact_57 ?_
    refine wq_iload_ok h0 kd_B_fact_58 ?_
    exact wq_ireturn_ok h0 hr hlk kd_B_fact_60
  have hb_18 : wq_Snd p l e ({ frames := 7, cells := 2, slots := 12, locals := 101 } : Room) s m args below meth c 5 cs D kz_cl A (wq_G0 ad w) (wq_Q cs D kz_cl A (wq_G0 ad w) rt xt below s 2 12) 18 (kt_B_fact_18 rt xt) := by
    refine wq_iconst_ok h0 kd_B_fact_18 (by decide +kernel) ?_
    exact hb_19
  have hb_0 : wq_Snd p l e ({ frames := 7, cells := 2, slots := 12, locals := 101 } : Room) s m args below meth c 5 cs D kz_cl A (wq_G0 ad w) (wq_Q cs D kz_cl A (wq_G0 ad w) rt xt below s 2 12) 0 (kt_B_fact_0 rt xt) := by
    refine wq_iload_n_ok h0 kd_B_fact_0 rfl ?_
    refine wq_call_ok hA (wq_runS ⟨h0.1, h0.2, hml, hown, hts⟩ (kv_B_isGood hl) ⟨(wq_cB hts kw_G kw_531 kw_1 kw_529 ⟨by decide +kernel, by decide +kernel, by decide +kernel⟩ rfl rfl ⟨Nat.le_of_ble_eq_true rfl, Nat.le_of_ble_eq_true rfl⟩), hts _ kw_530⟩ hK hZ hN hA kd_B_fact_1) (wq_xout_ok hnt hlk) ?_
    refine wq_if_eq_ok (tgt := 18) h0 kd_B_fact_4 (by decide) ?_ ?_
    · exact hb_18
    refine wq_iload_n_ok h0 kd_B_fact_7 rfl ?_
    refine wq_call_ok hA (wq_runS ⟨h0.1, h0.2, hml, hown, hts⟩ (kv_B_isFact hl) ⟨(wq_cB hts kw_G kw_514 kw_1 kw_512 ⟨by decide +kernel, by decide +kernel, by decide +kernel⟩ rfl rfl ⟨Nat.le_of_ble_eq_true rfl, Nat.le_of_ble_eq_true rfl⟩), hts _ kw_513⟩ hK hZ hN hA kd_B_fact_8) (wq_xout_ok hnt hlk) ?_
    refine wq_if_eq_ok (tgt := 18) h0 kd_B_fact_11 (by decide) ?_ ?_
    · exact hb_18
    refine wq_iconst_ok h0 kd_B_fact_14 (by decide +kernel) ?_
    refine wq_goto_ok (tgt := 19) h0 kd_B_fact_15 (by decide) ?_
    exact hb_19
  exact hb_0 _ _ _ _ _ (wq_sp_t hsp)
-- BorderDesk.classify(I)I
def kt_B_classify_0 (rt : Option wq_V → wq_W → Prop) (xt : Nat → wq_W → Prop) : wq_T := (wq_iload 1 (wq_call ks_B_isGood 1 0 0 1 6 (wq_xout 1 6 xt) (wq_call ks_B_requireArgument 1 1 6 1 6 (wq_xout 1 6 xt) (wq_aload 0 (wq_get 0 0 (wq_iload 1 (wq_call (wq_rv 1 ks_T_classOf) 2 0 0 1 6 (wq_xout 1 6 xt) (wq_ireturn 1 6 rt))))))))
def ks_B_classify : wq_S := wq_sp 2 (fun rt xt => kt_B_classify_0 rt xt)
set_option maxRecDepth 100000 in
set_option maxHeartbeats 4000000 in
theorem kv_B_classify {l : Launch} (hl : l.stackTraces = false) : wq_Vld l kz_cl ky_B_classify kw_T ({ frames := 7, cells := 1, slots := 6, locals := 101 }) wq_G0 ks_B_classify 1 6 := by
  refine wq_method (cc := kc_B_classify) (maxL := 2) (ret := (some .int)) (by decide) kw_538 (fun _ _ => rfl) wq_sp_sz ?_
  intro p e s m args below meth c cs D ad as w rt xt hF hnt hsp
  obtain ⟨h0, hr, hts, hown, hlk, hnm, hml, hK, hZ, hN, hA⟩ := hF
  have hown : s.vm.findClass "BorderDesk" = some m.cls := hown
  obtain ⟨A, hAe⟩ : ∃ A, A = wq_A ad w s.heap.size := ⟨_, rfl⟩
  rw [← hAe] at hZ hA ⊢
  have hb_0 : wq_Snd p l e ({ frames := 7, cells := 1, slots := 6, locals := 101 } : Room) s m args below meth c 2 cs D kz_cl A (wq_G0 ad w) (wq_Q cs D kz_cl A (wq_G0 ad w) rt xt below s 1 6) 0 (kt_B_classify_0 rt xt) := by
    refine wq_iload_n_ok h0 kd_B_classify_0 rfl ?_
    refine wq_call_ok hA (wq_runS ⟨h0.1, h0.2, hml, hown, hts⟩ (kv_B_isGood hl) ⟨(wq_cB hts kw_G kw_531 kw_1 kw_529 ⟨by decide +kernel, by decide +kernel, by decide +kernel⟩ rfl rfl ⟨Nat.le_of_ble_eq_true rfl, Nat.le_of_ble_eq_true rfl⟩), hts _ kw_530⟩ hK hZ hN hA kd_B_classify_1) (wq_xout_ok hnt hlk) ?_
    refine wq_call_ok hA (wq_runS ⟨h0.1, h0.2, hml, hown, hts⟩ (kv_B_requireArgument hl) ⟨(wq_cB hts kw_G kw_413 kw_1 kw_411 ⟨by decide +kernel, by decide +kernel, by decide +kernel⟩ rfl rfl ⟨Nat.le_of_ble_eq_true rfl, Nat.le_of_ble_eq_true rfl⟩), hts _ kw_412⟩ hK hZ hN hA kd_B_classify_4) (wq_xout_ok hnt hlk) ?_
    refine wq_aload_n_ok h0 kd_B_classify_7 rfl ?_
    refine wq_get_ok (wq_getOK h0 hts ki_B hown hK (ci := 0) rfl 0 (Nat.le_of_ble_eq_true rfl) kw_370 rfl) kd_B_classify_8 ?_
    refine wq_iload_n_ok h0 kd_B_classify_11 rfl ?_
    refine wq_call_ok hA (wq_runV (ci := 1) ⟨h0.1, h0.2, hml, hown, hts⟩ (kv_T_classOf hl) ⟨(wq_cB hts kw_G kw_542 kw_2 kw_539 ⟨by decide +kernel, by decide +kernel, by decide +kernel⟩ rfl rfl ⟨Nat.le_of_ble_eq_true rfl, Nat.le_of_ble_eq_true rfl⟩), hts _ kw_540, hts _ kw_541⟩ rfl rfl hK hZ hN hA kd_B_classify_12) (wq_xout_ok hnt hlk) ?_
    exact wq_ireturn_ok h0 hr hlk kd_B_classify_15
  exact hb_0 _ _ _ _ _ (wq_sp_t hsp)
-- BorderDesk.rate(IIIIIII)I
def kt_B_rate_117 (rt : Option wq_V → wq_W → Prop) (xt : Nat → wq_W → Prop) : wq_T := (wq_call ks_B_requireState 1 1 6 5 30 (wq_xout 5 30 xt) (wq_aload 0 (wq_get 0 1 (wq_iload 1 (wq_iload 2 (wq_iload 3 (wq_iload 4 (wq_iload 5 (wq_iload 6 (wq_iload 7 (wq_call (wq_rv 2 wq_no) 8 0 0 5 30 (wq_xout 5 30 xt) (wq_ireturn 5 30 rt))))))))))))
def kt_B_rate_116 (rt : Option wq_V → wq_W → Prop) (xt : Nat → wq_W → Prop) : wq_T := (wq_iconst (nI 0) (kt_B_rate_117 rt xt))
def kt_B_rate_97 (rt : Option wq_V → wq_W → Prop) (xt : Nat → wq_W → Prop) : wq_T := (wq_call ks_B_requireArgument 1 1 6 5 30 (wq_xout 5 30 xt) (wq_aload 0 (wq_get 0 1 (wq_get 2 1 (wq_iconst (nI 40) (wq_f2 (fun x y => y ≤ x) (kt_B_rate_116 rt xt) (wq_iconst (nI 1) (kt_B_rate_117 rt xt))))))))
def kt_B_rate_96 (rt : Option wq_V → wq_W → Prop) (xt : Nat → wq_W → Prop) : wq_T := (wq_iconst (nI 0) (kt_B_rate_97 rt xt))
def kt_B_rate_66 (rt : Option wq_V → wq_W → Prop) (xt : Nat → wq_W → Prop) : wq_T := (wq_call ks_B_requireArgument 1 1 6 5 30 (wq_xout 5 30 xt) (wq_iload 6 (wq_call ks_B_isDay 1 0 0 5 30 (wq_xout 5 30 xt) (wq_f1 (fun x => x = 0) (kt_B_rate_96 rt xt) (wq_iload 7 (wq_call ks_B_isDay 1 0 0 5 30 (wq_xout 5 30 xt) (wq_f1 (fun x => x = 0) (kt_B_rate_96 rt xt) (wq_iload 6 (wq_iload 7 (wq_f2 (fun x y => y < x) (kt_B_rate_96 rt xt) (wq_iconst (nI 1) (kt_B_rate_97 rt xt))))))))))))
def kt_B_rate_65 (rt : Option wq_V → wq_W → Prop) (xt : Nat → wq_W → Prop) : wq_T := (wq_iconst (nI 0) (kt_B_rate_66 rt xt))
def kt_B_rate_25 (rt : Option wq_V → wq_W → Prop) (xt : Nat → wq_W → Prop) : wq_T := (wq_call ks_B_requireArgument 1 1 6 5 30 (wq_xout 5 30 xt) (wq_iload 3 (wq_iconst (nI 0) (wq_iconst (nI 3) (wq_call ks_B_isWithin 3 0 0 5 30 (wq_xout 5 30 xt) (wq_call ks_B_requireArgument 1 1 6 5 30 (wq_xout 5 30 xt) (wq_iload 4 (wq_iconst (nI 0) (wq_iconst (nI 10000) (wq_call ks_B_isWithin 3 0 0 5 30 (wq_xout 5 30 xt) (wq_f1 (fun x => x = 0) (kt_B_rate_65 rt xt) (wq_iload 5 (wq_iconst (nI 0) (wq_iconst (nI 10000) (wq_call ks_B_isWithin 3 0 0 5 30 (wq_xout 5 30 xt) (wq_f1 (fun x => x = 0) (kt_B_rate_65 rt xt) (wq_iconst (nI 1) (kt_B_rate_66 rt xt))))))))))))))))))
def kt_B_rate_24 (rt : Option wq_V → wq_W → Prop) (xt : Nat → wq_W → Prop) : wq_T := (wq_iconst (nI 0) (kt_B_rate_25 rt xt))
def kt_B_rate_20 (rt : Option wq_V → wq_W → Prop) (xt : Nat → wq_W → Prop) : wq_T := (wq_iconst (nI 1) (kt_B_rate_25 rt xt))
def kt_B_rate_0 (rt : Option wq_V → wq_W → Prop) (xt : Nat → wq_W → Prop) : wq_T := (wq_aload 0 (wq_iload 1 (wq_call (wq_rv 0 ks_B_isHeading) 2 0 0 5 30 (wq_xout 5 30 xt) (wq_f1 (fun x => x = 0) (kt_B_rate_24 rt xt) (wq_iload 2 (wq_iconst (-1) (wq_f2 (fun x y => x = y) (kt_B_rate_20 rt xt) (wq_iload 2 (wq_call ks_B_isLand 1 0 0 5 30 (wq_xout 5 30 xt) (wq_f1 (fun x => x = 0) (kt_B_rate_24 rt xt) (kt_B_rate_20 rt xt)))))))))))
def ks_B_rate : wq_S := wq_sp 8 (fun rt xt => kt_B_rate_0 rt xt)
set_option maxRecDepth 100000 in
set_option maxHeartbeats 4000000 in
theorem kv_B_rate {l : Launch} (hl : l.stackTraces = false) : wq_Vld l kz_cl ky_B_rate kw_T ({ frames := 7, cells := 5, slots := 30, locals := 101 }) wq_G0 ks_B_rate 5 30 := by
  refine wq_method (cc := kc_B_rate) (maxL := 8) (ret := (some .int)) (by decide) kw_572 (fun _ _ => rfl) wq_sp_sz ?_
  intro p e s m args below meth c cs D ad as w rt xt hF hnt hsp
  obtain ⟨h0, hr, hts, hown, hlk, hnm, hml, hK, hZ, hN, hA⟩ := hF
  have hown : s.vm.findClass "BorderDesk" = some m.cls := hown
  obtain ⟨A, hAe⟩ : ∃ A, A = wq_A ad w s.heap.size := ⟨_, rfl⟩
  rw [← hAe] at hZ hA ⊢
  have hb_117 : wq_Snd p l e ({ frames := 7, cells := 5, slots := 30, locals := 101 } : Room) s m args below meth c 8 cs D kz_cl A (wq_G0 ad w) (wq_Q cs D kz_cl A (wq_G0 ad w) rt xt below s 5 30) 117 (kt_B_rate_117 rt xt) := by
    refine wq_call_ok hA (wq_runS ⟨h0.1, h0.2, hml, hown, hts⟩ (kv_B_requireState hl) ⟨(wq_cB hts kw_G kw_480 kw_1 kw_478 ⟨by decide +kernel, by decide +kernel, by decide +kernel⟩ rfl rfl ⟨Nat.le_of_ble_eq_true rfl, Nat.le_of_ble_eq_true rfl⟩), hts _ kw_479⟩ hK hZ hN hA kd_B_rate_117) (wq_xout_ok hnt hlk) ?_
    refine wq_aload_n_ok h0 kd_B_rate_120 rfl ?_
    refine wq_get_ok (wq_getOK h0 hts ki_B hown hK (ci := 0) rfl 1 (Nat.le_of_ble_eq_true rfl) kw_371 rfl) kd_B_rate_121 ?_
    refine wq_iload_n_ok h0 kd_B_rate_124 rfl ?_
    refine wq_iload_n_ok h0 kd_B_rate_125 rfl ?_
    refine wq_iload_n_ok h0 kd_B_rate_126 rfl ?_
    refine wq_iload_ok h0 kd_B_rate_127 ?_
    refine wq_iload_ok h0 kd_B_rate_129 ?_
    refine wq_iload_ok h0 kd_B_rate_131 ?_
    refine wq_iload_ok h0 kd_B_rate_133 ?_
    refine wq_call_ok hA (wq_runV (ci := 2) ⟨h0.1, h0.2, hml, hown, hts⟩ (wq_no_ok (y := ({ cls := "BorderDesk$Rates", name := "add", desc := "(IIIIIII)I" } : Jvm.MethodName)) (ws := kw_T) (rm := { frames := 0, cells := 0, slots := 0, locals := 0 }) (mc := 0) (ms := 0)) ⟨(wq_cB hts kw_G kw_582 kw_3 kw_579 ⟨by decide +kernel, by decide +kernel, by decide +kernel⟩ rfl rfl ⟨Nat.le_of_ble_eq_true rfl, Nat.le_of_ble_eq_true rfl⟩), hts _ kw_580, hts _ kw_581⟩ rfl rfl hK hZ hN hA kd_B_rate_135) (wq_xout_ok hnt hlk) ?_
    exact wq_ireturn_ok h0 hr hlk kd_B_rate_138
  have hb_116 : wq_Snd p l e ({ frames := 7, cells := 5, slots := 30, locals := 101 } : Room) s m args below meth c 8 cs D kz_cl A (wq_G0 ad w) (wq_Q cs D kz_cl A (wq_G0 ad w) rt xt below s 5 30) 116 (kt_B_rate_116 rt xt) := by
    refine wq_iconst_ok h0 kd_B_rate_116 (by decide +kernel) ?_
    exact hb_117
  have hb_97 : wq_Snd p l e ({ frames := 7, cells := 5, slots := 30, locals := 101 } : Room) s m args below meth c 8 cs D kz_cl A (wq_G0 ad w) (wq_Q cs D kz_cl A (wq_G0 ad w) rt xt below s 5 30) 97 (kt_B_rate_97 rt xt) := by
    refine wq_call_ok hA (wq_runS ⟨h0.1, h0.2, hml, hown, hts⟩ (kv_B_requireArgument hl) ⟨(wq_cB hts kw_G kw_413 kw_1 kw_411 ⟨by decide +kernel, by decide +kernel, by decide +kernel⟩ rfl rfl ⟨Nat.le_of_ble_eq_true rfl, Nat.le_of_ble_eq_true rfl⟩), hts _ kw_412⟩ hK hZ hN hA kd_B_rate_97) (wq_xout_ok hnt hlk) ?_
    refine wq_aload_n_ok h0 kd_B_rate_100 rfl ?_
    refine wq_get_ok (wq_getOK h0 hts ki_B hown hK (ci := 0) rfl 1 (Nat.le_of_ble_eq_true rfl) kw_371 rfl) kd_B_rate_101 ?_
    refine wq_get_ok (wq_getOK h0 hts ki_R hown hK (ci := 2) rfl 1 (Nat.le_of_ble_eq_true rfl) kw_95 rfl) kd_B_rate_104 ?_
    refine wq_bipush_ok h0 kd_B_rate_107 (by decide +kernel) ?_
    refine wq_icmp_ge_ok (tgt := 116) h0 kd_B_rate_109 (by decide) ?_ ?_
    · exact hb_116
    refine wq_iconst_ok h0 kd_B_rate_112 (by decide +kernel) ?_
    refine wq_goto_ok (tgt := 117) h0 kd_B_rate_113 (by decide) ?_
    exact hb_117
  have hb_96 : wq_Snd p l e ({ frames := 7, cells := 5, slots := 30, locals := 101 } : Room) s m args below meth c 8 cs D kz_cl A (wq_G0 ad w) (wq_Q cs D kz_cl A (wq_G0 ad w) rt xt below s 5 30) 96 (kt_B_rate_96 rt xt) := by
    refine wq_iconst_ok h0 kd_B_rate_96 (by decide +kernel) ?_
    exact hb_97
  have hb_66 : wq_Snd p l e ({ frames := 7, cells := 5, slots := 30, locals := 101 } : Room) s m args below meth c 8 cs D kz_cl A (wq_G0 ad w) (wq_Q cs D kz_cl A (wq_G0 ad w) rt xt below s 5 30) 66 (kt_B_rate_66 rt xt) := by
    refine wq_call_ok hA (wq_runS ⟨h0.1, h0.2, hml, hown, hts⟩ (kv_B_requireArgument hl) ⟨(wq_cB hts kw_G kw_413 kw_1 kw_411 ⟨by decide +kernel, by decide +kernel, by decide +kernel⟩ rfl rfl ⟨Nat.le_of_ble_eq_true rfl, Nat.le_of_ble_eq_true rfl⟩), hts _ kw_412⟩ hK hZ hN hA kd_B_rate_66) (wq_xout_ok hnt hlk) ?_
    refine wq_iload_ok h0 kd_B_rate_69 ?_
    refine wq_call_ok hA (wq_runS ⟨h0.1, h0.2, hml, hown, hts⟩ (kv_B_isDay hl) ⟨(wq_cB hts kw_G kw_578 kw_1 kw_576 ⟨by decide +kernel, by decide +kernel, by decide +kernel⟩ rfl rfl ⟨Nat.le_of_ble_eq_true rfl, Nat.le_of_ble_eq_true rfl⟩), hts _ kw_577⟩ hK hZ hN hA kd_B_rate_71) (wq_xout_ok hnt hlk) ?_
    refine wq_if_eq_ok (tgt := 96) h0 kd_B_rate_74 (by decide) ?_ ?_
    · exact hb_96
    refine wq_iload_ok h0 kd_B_rate_77 ?_
    refine wq_call_ok hA (wq_runS ⟨h0.1, h0.2, hml, hown, hts⟩ (kv_B_isDay hl) ⟨(wq_cB hts kw_G kw_578 kw_1 kw_576 ⟨by decide +kernel, by decide +kernel, by decide +kernel⟩ rfl rfl ⟨Nat.le_of_ble_eq_true rfl, Nat.le_of_ble_eq_true rfl⟩), hts _ kw_577⟩ hK hZ hN hA kd_B_rate_79) (wq_xout_ok hnt hlk) ?_
    refine wq_if_eq_ok (tgt := 96) h0 kd_B_rate_82 (by decide) ?_ ?_
    · exact hb_96
    refine wq_iload_ok h0 kd_B_rate_85 ?_
    refine wq_iload_ok h0 kd_B_rate_87 ?_
    refine wq_icmp_gt_ok (tgt := 96) h0 kd_B_rate_89 (by decide) ?_ ?_
    · exact hb_96
    refine wq_iconst_ok h0 kd_B_rate_92 (by decide +kernel) ?_
    refine wq_goto_ok (tgt := 97) h0 kd_B_rate_93 (by decide) ?_
    exact hb_97
  have hb_65 : wq_Snd p l e ({ frames := 7, cells := 5, slots := 30, locals := 101 } : Room) s m args below meth c 8 cs D kz_cl A (wq_G0 ad w) (wq_Q cs D kz_cl A (wq_G0 ad w) rt xt below s 5 30) 65 (kt_B_rate_65 rt xt) := by
    refine wq_iconst_ok h0 kd_B_rate_65 (by decide +kernel) ?_
    exact hb_66
  have hb_25 : wq_Snd p l e ({ frames := 7, cells := 5, slots := 30, locals := 101 } : Room) s m args below meth c 8 cs D kz_cl A (wq_G0 ad w) (wq_Q cs D kz_cl A (wq_G0 ad w) rt xt below s 5 30) 25 (kt_B_rate_25 rt xt) := by
    refine wq_call_ok hA (wq_runS ⟨h0.1, h0.2, hml, hown, hts⟩ (kv_B_requireArgument hl) ⟨(wq_cB hts kw_G kw_413 kw_1 kw_411 ⟨by decide +kernel, by decide +kernel, by decide +kernel⟩ rfl rfl ⟨Nat.le_of_ble_eq_true rfl, Nat.le_of_ble_eq_true rfl⟩), hts _ kw_412⟩ hK hZ hN hA kd_B_rate_25) (wq_xout_ok hnt hlk) ?_
    refine wq_iload_n_ok h0 kd_B_rate_28 rfl ?_
    refine wq_iconst_ok h0 kd_B_rate_29 (by decide +kernel) ?_
    refine wq_iconst_ok h0 kd_B_rate_30 (by decide +kernel) ?_
    refine wq_call_ok hA (wq_runS ⟨h0.1, h0.2, hml, hown, hts⟩ (kv_B_isWithin hl) ⟨(wq_cB hts kw_G kw_517 kw_1 kw_515 ⟨by decide +kernel, by decide +kernel, by decide +kernel⟩ rfl rfl ⟨Nat.le_of_ble_eq_true rfl, Nat.le_of_ble_eq_true rfl⟩), hts _ kw_516⟩ hK hZ hN hA kd_B_rate_31) (wq_xout_ok hnt hlk) ?_
    refine wq_call_ok hA (wq_runS ⟨h0.1, h0.2, hml, hown, hts⟩ (kv_B_requireArgument hl) ⟨(wq_cB hts kw_G kw_413 kw_1 kw_411 ⟨by decide +kernel, by decide +kernel, by decide +kernel⟩ rfl rfl ⟨Nat.le_of_ble_eq_true rfl, Nat.le_of_ble_eq_true rfl⟩), hts _ kw_412⟩ hK hZ hN hA kd_B_rate_34) (wq_xout_ok hnt hlk) ?_
    refine wq_iload_ok h0 kd_B_rate_37 ?_
    refine wq_iconst_ok h0 kd_B_rate_39 (by decide +kernel) ?_
    refine wq_sipush_ok h0 kd_B_rate_40 (by decide +kernel) ?_
    refine wq_call_ok hA (wq_runS ⟨h0.1, h0.2, hml, hown, hts⟩ (kv_B_isWithin hl) ⟨(wq_cB hts kw_G kw_517 kw_1 kw_515 ⟨by decide +kernel, by decide +kernel, by decide +kernel⟩ rfl rfl ⟨Nat.le_of_ble_eq_true rfl, Nat.le_of_ble_eq_true rfl⟩), hts _ kw_516⟩ hK hZ hN hA kd_B_rate_43) (wq_xout_ok hnt hlk) ?_
    refine wq_if_eq_ok (tgt := 65) h0 kd_B_rate_46 (by decide) ?_ ?_
    · exact hb_65
    refine wq_iload_ok h0 kd_B_rate_49 ?_
    refine wq_iconst_ok h0 kd_B_rate_51 (by decide +kernel) ?_
    refine wq_sipush_ok h0 kd_B_rate_52 (by decide +kernel) ?_
    refine wq_call_ok hA (wq_runS ⟨h0.1, h0.2, hml, hown, hts⟩ (kv_B_isWithin hl) ⟨(wq_cB hts kw_G kw_517 kw_1 kw_515 ⟨by decide +kernel, by decide +kernel, by decide +kernel⟩ rfl rfl ⟨Nat.le_of_ble_eq_true rfl, Nat.le_of_ble_eq_true rfl⟩), hts _ kw_516⟩ hK hZ hN hA kd_B_rate_55) (wq_xout_ok hnt hlk) ?_
    refine wq_if_eq_ok (tgt := 65) h0 kd_B_rate_58 (by decide) ?_ ?_
    · exact hb_65
    refine wq_iconst_ok h0 kd_B_rate_61 (by decide +kernel) ?_
    refine wq_goto_ok (tgt := 66) h0 kd_B_rate_62 (by decide) ?_
    exact hb_66
  have hb_24 : wq_Snd p l e ({ frames := 7, cells := 5, slots := 30, locals := 101 } : Room) s m args below meth c 8 cs D kz_cl A (wq_G0 ad w) (wq_Q cs D kz_cl A (wq_G0 ad w) rt xt below s 5 30) 24 (kt_B_rate_24 rt xt) := by
    refine wq_iconst_ok h0 kd_B_rate_24 (by decide +kernel) ?_
    exact hb_25
  have hb_20 : wq_Snd p l e ({ frames := 7, cells := 5, slots := 30, locals := 101 } : Room) s m args below meth c 8 cs D kz_cl A (wq_G0 ad w) (wq_Q cs D kz_cl A (wq_G0 ad w) rt xt below s 5 30) 20 (kt_B_rate_20 rt xt) := by
    refine wq_iconst_ok h0 kd_B_rate_20 (by decide +kernel) ?_
    refine wq_goto_ok (tgt := 25) h0 kd_B_rate_21 (by decide) ?_
    exact hb_25
  have hb_0 : wq_Snd p l e ({ frames := 7, cells := 5, slots := 30, locals := 101 } : Room) s m args below meth c 8 cs D kz_cl A (wq_G0 ad w) (wq_Q cs D kz_cl A (wq_G0 ad w) rt xt below s 5 30) 0 (kt_B_rate_0 rt xt) := by
    refine wq_aload_n_ok h0 kd_B_rate_0 rfl ?_
    refine wq_iload_n_ok h0 kd_B_rate_1 rfl ?_
    refine wq_call_ok hA (wq_runV (ci := 0) ⟨h0.1, h0.2, hml, hown, hts⟩ (kv_B_isHeading hl) ⟨(wq_cB hts kw_G kw_407 kw_1 kw_404 ⟨by decide +kernel, by decide +kernel, by decide +kernel⟩ rfl rfl ⟨Nat.le_of_ble_eq_true rfl, Nat.le_of_ble_eq_true rfl⟩), hts _ kw_406, hts _ kw_s0⟩ rfl rfl hK hZ hN hA kd_B_rate_2) (wq_xout_ok hnt hlk) ?_
    refine wq_if_eq_ok (tgt := 24) h0 kd_B_rate_5 (by decide) ?_ ?_
    · exact hb_24
    refine wq_iload_n_ok h0 kd_B_rate_8 rfl ?_
    refine wq_iconst_ok h0 kd_B_rate_9 (by decide +kernel) ?_
    refine wq_icmp_eq_ok (tgt := 20) h0 kd_B_rate_10 (by decide) ?_ ?_
    · exact hb_20
    refine wq_iload_n_ok h0 kd_B_rate_13 rfl ?_
    refine wq_call_ok hA (wq_runS ⟨h0.1, h0.2, hml, hown, hts⟩ (kv_B_isLand hl) ⟨(wq_cB hts kw_G kw_575 kw_1 kw_573 ⟨by decide +kernel, by decide +kernel, by decide +kernel⟩ rfl rfl ⟨Nat.le_of_ble_eq_true rfl, Nat.le_of_ble_eq_true rfl⟩), hts _ kw_574⟩ hK hZ hN hA kd_B_rate_14) (wq_xout_ok hnt hlk) ?_
    refine wq_if_eq_ok (tgt := 24) h0 kd_B_rate_17 (by decide) ?_ ?_
    · exact hb_24
    exact hb_20
  exact hb_0 _ _ _ _ _ (wq_sp_t hsp)
-- BorderDesk.rateFor(III)I
def kt_B_rateFor_27 (rt : Option wq_V → wq_W → Prop) (xt : Nat → wq_W → Prop) : wq_T := (wq_call ks_B_requireArgument 1 1 6 1 6 (wq_xout 1 6 xt) (wq_aload 0 (wq_get 0 1 (wq_iload 1 (wq_iload 2 (wq_iload 3 (wq_call (wq_rv 2 wq_no) 4 0 0 1 6 (wq_xout 1 6 xt) (wq_ireturn 1 6 rt))))))))
def kt_B_rateFor_26 (rt : Option wq_V → wq_W → Prop) (xt : Nat → wq_W → Prop) : wq_T := (wq_iconst (nI 0) (kt_B_rateFor_27 rt xt))
def kt_B_rateFor_0 (rt : Option wq_V → wq_W → Prop) (xt : Nat → wq_W → Prop) : wq_T := (wq_aload 0 (wq_iload 1 (wq_call (wq_rv 0 ks_B_isHeading) 2 0 0 1 6 (wq_xout 1 6 xt) (wq_f1 (fun x => x = 0) (kt_B_rateFor_26 rt xt) (wq_iload 2 (wq_call ks_B_isLand 1 0 0 1 6 (wq_xout 1 6 xt) (wq_f1 (fun x => x = 0) (kt_B_rateFor_26 rt xt) (wq_iload 3 (wq_call ks_B_isDay 1 0 0 1 6 (wq_xout 1 6 xt) (wq_f1 (fun x => x = 0) (kt_B_rateFor_26 rt xt) (wq_iconst (nI 1) (kt_B_rateFor_27 rt xt))))))))))))
def ks_B_rateFor : wq_S := wq_sp 4 (fun rt xt => kt_B_rateFor_0 rt xt)
set_option maxRecDepth 100000 in
set_option maxHeartbeats 4000000 in
theorem kv_B_rateFor {l : Launch} (hl : l.stackTraces = false) : wq_Vld l kz_cl ky_B_rateFor kw_T ({ frames := 7, cells := 1, slots := 6, locals := 101 }) wq_G0 ks_B_rateFor 1 6 := by
  refine wq_method (cc := kc_B_rateFor) (maxL := 4) (ret := (some .int)) (by decide) kw_589 (fun _ _ => rfl) wq_sp_sz ?_
  intro p e s m args below meth c cs D ad as w rt xt hF hnt hsp
  obtain ⟨h0, hr, hts, hown, hlk, hnm, hml, hK, hZ, hN, hA⟩ := hF
  have hown : s.vm.findClass "BorderDesk" = some m.cls := hown
  obtain ⟨A, hAe⟩ : ∃ A, A = wq_A ad w s.heap.size := ⟨_, rfl⟩
  rw [← hAe] at hZ hA ⊢
  have hb_27 : wq_Snd p l e ({ frames := 7, cells := 1, slots := 6, locals := 101 } : Room) s m args below meth c 4 cs D kz_cl A (wq_G0 ad w) (wq_Q cs D kz_cl A (wq_G0 ad w) rt xt below s 1 6) 27 (kt_B_rateFor_27 rt xt) := by
    refine wq_call_ok hA (wq_runS ⟨h0.1, h0.2, hml, hown, hts⟩ (kv_B_requireArgument hl) ⟨(wq_cB hts kw_G kw_413 kw_1 kw_411 ⟨by decide +kernel, by decide +kernel, by decide +kernel⟩ rfl rfl ⟨Nat.le_of_ble_eq_true rfl, Nat.le_of_ble_eq_true rfl⟩), hts _ kw_412⟩ hK hZ hN hA kd_B_rateFor_27) (wq_xout_ok hnt hlk) ?_
    refine wq_aload_n_ok h0 kd_B_rateFor_30 rfl ?_
    refine wq_get_ok (wq_getOK h0 hts ki_B hown hK (ci := 0) rfl 1 (Nat.le_of_ble_eq_true rfl) kw_371 rfl) kd_B_rateFor_31 ?_
    refine wq_iload_n_ok h0 kd_B_rateFor_34 rfl ?_
    refine wq_iload_n_ok h0 kd_B_rateFor_35 rfl ?_
    refine wq_iload_n_ok h0 kd_B_rateFor_36 rfl ?_
    refine wq_call_ok hA (wq_runV (ci := 2) ⟨h0.1, h0.2, hml, hown, hts⟩ (wq_no_ok (y := ({ cls := "BorderDesk$Rates", name := "find", desc := "(III)I" } : Jvm.MethodName)) (ws := kw_T) (rm := { frames := 0, cells := 0, slots := 0, locals := 0 }) (mc := 0) (ms := 0)) ⟨(wq_cB hts kw_G kw_593 kw_3 kw_590 ⟨by decide +kernel, by decide +kernel, by decide +kernel⟩ rfl rfl ⟨Nat.le_of_ble_eq_true rfl, Nat.le_of_ble_eq_true rfl⟩), hts _ kw_591, hts _ kw_592⟩ rfl rfl hK hZ hN hA kd_B_rateFor_37) (wq_xout_ok hnt hlk) ?_
    exact wq_ireturn_ok h0 hr hlk kd_B_rateFor_40
  have hb_26 : wq_Snd p l e ({ frames := 7, cells := 1, slots := 6, locals := 101 } : Room) s m args below meth c 4 cs D kz_cl A (wq_G0 ad w) (wq_Q cs D kz_cl A (wq_G0 ad w) rt xt below s 1 6) 26 (kt_B_rateFor_26 rt xt) := by
    refine wq_iconst_ok h0 kd_B_rateFor_26 (by decide +kernel) ?_
    exact hb_27
  have hb_0 : wq_Snd p l e ({ frames := 7, cells := 1, slots := 6, locals := 101 } : Room) s m args below meth c 4 cs D kz_cl A (wq_G0 ad w) (wq_Q cs D kz_cl A (wq_G0 ad w) rt xt below s 1 6) 0 (kt_B_rateFor_0 rt xt) := by
    refine wq_aload_n_ok h0 kd_B_rateFor_0 rfl ?_
    refine wq_iload_n_ok h0 kd_B_rateFor_1 rfl ?_
    refine wq_call_ok hA (wq_runV (ci := 0) ⟨h0.1, h0.2, hml, hown, hts⟩ (kv_B_isHeading hl) ⟨(wq_cB hts kw_G kw_407 kw_1 kw_404 ⟨by decide +kernel, by decide +kernel, by decide +kernel⟩ rfl rfl ⟨Nat.le_of_ble_eq_true rfl, Nat.le_of_ble_eq_true rfl⟩), hts _ kw_406, hts _ kw_s0⟩ rfl rfl hK hZ hN hA kd_B_rateFor_2) (wq_xout_ok hnt hlk) ?_
    refine wq_if_eq_ok (tgt := 26) h0 kd_B_rateFor_5 (by decide) ?_ ?_
    · exact hb_26
    refine wq_iload_n_ok h0 kd_B_rateFor_8 rfl ?_
    refine wq_call_ok hA (wq_runS ⟨h0.1, h0.2, hml, hown, hts⟩ (kv_B_isLand hl) ⟨(wq_cB hts kw_G kw_575 kw_1 kw_573 ⟨by decide +kernel, by decide +kernel, by decide +kernel⟩ rfl rfl ⟨Nat.le_of_ble_eq_true rfl, Nat.le_of_ble_eq_true rfl⟩), hts _ kw_574⟩ hK hZ hN hA kd_B_rateFor_9) (wq_xout_ok hnt hlk) ?_
    refine wq_if_eq_ok (tgt := 26) h0 kd_B_rateFor_12 (by decide) ?_ ?_
    · exact hb_26
    refine wq_iload_n_ok h0 kd_B_rateFor_15 rfl ?_
    refine wq_call_ok hA (wq_runS ⟨h0.1, h0.2, hml, hown, hts⟩ (kv_B_isDay hl) ⟨(wq_cB hts kw_G kw_578 kw_1 kw_576 ⟨by decide +kernel, by decide +kernel, by decide +kernel⟩ rfl rfl ⟨Nat.le_of_ble_eq_true rfl, Nat.le_of_ble_eq_true rfl⟩), hts _ kw_577⟩ hK hZ hN hA kd_B_rateFor_16) (wq_xout_ok hnt hlk) ?_
    refine wq_if_eq_ok (tgt := 26) h0 kd_B_rateFor_19 (by decide) ?_ ?_
    · exact hb_26
    refine wq_iconst_ok h0 kd_B_rateFor_22 (by decide +kernel) ?_
    refine wq_goto_ok (tgt := 27) h0 kd_B_rateFor_23 (by decide) ?_
    exact hb_27
  exact hb_0 _ _ _ _ _ (wq_sp_t hsp)
-- BorderDesk.quota(IIIIII)I
def kt_B_quota_101 (rt : Option wq_V → wq_W → Prop) (xt : Nat → wq_W → Prop) : wq_T := (wq_call ks_B_requireState 1 1 6 4 24 (wq_xout 4 24 xt) (wq_aload 0 (wq_get 0 2 (wq_iload 1 (wq_iload 2 (wq_iload 3 (wq_iload 4 (wq_iload 5 (wq_iload 6 (wq_call (wq_rv 3 wq_no) 7 0 0 4 24 (wq_xout 4 24 xt) (wq_ireturn 4 24 rt)))))))))))
def kt_B_quota_100 (rt : Option wq_V → wq_W → Prop) (xt : Nat → wq_W → Prop) : wq_T := (wq_iconst (nI 0) (kt_B_quota_101 rt xt))
def kt_B_quota_81 (rt : Option wq_V → wq_W → Prop) (xt : Nat → wq_W → Prop) : wq_T := (wq_call ks_B_requireArgument 1 1 6 4 24 (wq_xout 4 24 xt) (wq_aload 0 (wq_get 0 2 (wq_get 3 1 (wq_iconst (nI 8) (wq_f2 (fun x y => y ≤ x) (kt_B_quota_100 rt xt) (wq_iconst (nI 1) (kt_B_quota_101 rt xt))))))))
def kt_B_quota_80 (rt : Option wq_V → wq_W → Prop) (xt : Nat → wq_W → Prop) : wq_T := (wq_iconst (nI 0) (kt_B_quota_81 rt xt))
def kt_B_quota_50 (rt : Option wq_V → wq_W → Prop) (xt : Nat → wq_W → Prop) : wq_T := (wq_call ks_B_requireArgument 1 1 6 4 24 (wq_xout 4 24 xt) (wq_iload 5 (wq_call ks_B_isDay 1 0 0 4 24 (wq_xout 4 24 xt) (wq_f1 (fun x => x = 0) (kt_B_quota_80 rt xt) (wq_iload 6 (wq_call ks_B_isDay 1 0 0 4 24 (wq_xout 4 24 xt) (wq_f1 (fun x => x = 0) (kt_B_quota_80 rt xt) (wq_iload 5 (wq_iload 6 (wq_f2 (fun x y => y < x) (kt_B_quota_80 rt xt) (wq_iconst (nI 1) (kt_B_quota_81 rt xt))))))))))))
def kt_B_quota_49 (rt : Option wq_V → wq_W → Prop) (xt : Nat → wq_W → Prop) : wq_T := (wq_iconst (nI 0) (kt_B_quota_50 rt xt))
def kt_B_quota_20 (rt : Option wq_V → wq_W → Prop) (xt : Nat → wq_W → Prop) : wq_T := (wq_call ks_B_requireArgument 1 1 6 4 24 (wq_xout 4 24 xt) (wq_iload 3 (wq_iconst (nI 1) (wq_iconst (100000) (wq_call ks_B_isWithin 3 0 0 4 24 (wq_xout 4 24 xt) (wq_f1 (fun x => x = 0) (kt_B_quota_49 rt xt) (wq_iload 4 (wq_iconst (nI 0) (wq_iconst (nI 10000) (wq_call ks_B_isWithin 3 0 0 4 24 (wq_xout 4 24 xt) (wq_f1 (fun x => x = 0) (kt_B_quota_49 rt xt) (wq_iconst (nI 1) (kt_B_quota_50 rt xt)))))))))))))
def kt_B_quota_19 (rt : Option wq_V → wq_W → Prop) (xt : Nat → wq_W → Prop) : wq_T := (wq_iconst (nI 0) (kt_B_quota_20 rt xt))
def kt_B_quota_0 (rt : Option wq_V → wq_W → Prop) (xt : Nat → wq_W → Prop) : wq_T := (wq_aload 0 (wq_iload 1 (wq_call (wq_rv 0 ks_B_isHeading) 2 0 0 4 24 (wq_xout 4 24 xt) (wq_f1 (fun x => x = 0) (kt_B_quota_19 rt xt) (wq_iload 2 (wq_call ks_B_isLand 1 0 0 4 24 (wq_xout 4 24 xt) (wq_f1 (fun x => x = 0) (kt_B_quota_19 rt xt) (wq_iconst (nI 1) (kt_B_quota_20 rt xt)))))))))
def ks_B_quota : wq_S := wq_sp 7 (fun rt xt => kt_B_quota_0 rt xt)
set_option maxRecDepth 100000 in
set_option maxHeartbeats 4000000 in
theorem kv_B_quota {l : Launch} (hl : l.stackTraces = false) : wq_Vld l kz_cl ky_B_quota kw_T ({ frames := 7, cells := 4, slots := 24, locals := 101 }) wq_G0 ks_B_quota 4 24 := by
  refine wq_method (cc := kc_B_quota) (maxL := 7) (ret := (some .int)) (by decide) kw_605 (fun _ _ => rfl) wq_sp_sz ?_
  intro p e s m args below meth c cs D ad as w rt xt hF hnt hsp
  obtain ⟨h0, hr, hts, hown, hlk, hnm, hml, hK, hZ, hN, hA⟩ := hF
  have hown : s.vm.findClass "BorderDesk" = some m.cls := hown
  obtain ⟨A, hAe⟩ : ∃ A, A = wq_A ad w s.heap.size := ⟨_, rfl⟩
  rw [← hAe] at hZ hA ⊢
  have hb_101 : wq_Snd p l e ({ frames := 7, cells := 4, slots := 24, locals := 101 } : Room) s m args below meth c 7 cs D kz_cl A (wq_G0 ad w) (wq_Q cs D kz_cl A (wq_G0 ad w) rt xt below s 4 24) 101 (kt_B_quota_101 rt xt) := by
    refine wq_call_ok hA (wq_runS ⟨h0.1, h0.2, hml, hown, hts⟩ (kv_B_requireState hl) ⟨(wq_cB hts kw_G kw_480 kw_1 kw_478 ⟨by decide +kernel, by decide +kernel, by decide +kernel⟩ rfl rfl ⟨Nat.le_of_ble_eq_true rfl, Nat.le_of_ble_eq_true rfl⟩), hts _ kw_479⟩ hK hZ hN hA kd_B_quota_101) (wq_xout_ok hnt hlk) ?_
    refine wq_aload_n_ok h0 kd_B_quota_104 rfl ?_
    refine wq_get_ok (wq_getOK h0 hts ki_B hown hK (ci := 0) rfl 2 (Nat.le_of_ble_eq_true rfl) kw_372 rfl) kd_B_quota_105 ?_
    refine wq_iload_n_ok h0 kd_B_quota_108 rfl ?_
    refine wq_iload_n_ok h0 kd_B_quota_109 rfl ?_
    refine wq_iload_n_ok h0 kd_B_quota_110 rfl ?_
    refine wq_iload_ok h0 kd_B_quota_111 ?_
    refine wq_iload_ok h0 kd_B_quota_113 ?_
    refine wq_iload_ok h0 kd_B_quota_115 ?_
    refine wq_call_ok hA (wq_runV (ci := 3) ⟨h0.1, h0.2, hml, hown, hts⟩ (wq_no_ok (y := ({ cls := "BorderDesk$Quotas", name := "add", desc := "(IIIIII)I" } : Jvm.MethodName)) (ws := kw_T) (rm := { frames := 0, cells := 0, slots := 0, locals := 0 }) (mc := 0) (ms := 0)) ⟨(wq_cB hts kw_G kw_610 kw_4 kw_607 ⟨by decide +kernel, by decide +kernel, by decide +kernel⟩ rfl rfl ⟨Nat.le_of_ble_eq_true rfl, Nat.le_of_ble_eq_true rfl⟩), hts _ kw_608, hts _ kw_609⟩ rfl rfl hK hZ hN hA kd_B_quota_117) (wq_xout_ok hnt hlk) ?_
    exact wq_ireturn_ok h0 hr hlk kd_B_quota_120
  have hb_100 : wq_Snd p l e ({ frames := 7, cells := 4, slots := 24, locals := 101 } : Room) s m args below meth c 7 cs D kz_cl A (wq_G0 ad w) (wq_Q cs D kz_cl A (wq_G0 ad w) rt xt below s 4 24) 100 (kt_B_quota_100 rt xt) := by
    refine wq_iconst_ok h0 kd_B_quota_100 (by decide +kernel) ?_
    exact hb_101
  have hb_81 : wq_Snd p l e ({ frames := 7, cells := 4, slots := 24, locals := 101 } : Room) s m args below meth c 7 cs D kz_cl A (wq_G0 ad w) (wq_Q cs D kz_cl A (wq_G0 ad w) rt xt below s 4 24) 81 (kt_B_quota_81 rt xt) := by
    refine wq_call_ok hA (wq_runS ⟨h0.1, h0.2, hml, hown, hts⟩ (kv_B_requireArgument hl) ⟨(wq_cB hts kw_G kw_413 kw_1 kw_411 ⟨by decide +kernel, by decide +kernel, by decide +kernel⟩ rfl rfl ⟨Nat.le_of_ble_eq_true rfl, Nat.le_of_ble_eq_true rfl⟩), hts _ kw_412⟩ hK hZ hN hA kd_B_quota_81) (wq_xout_ok hnt hlk) ?_
    refine wq_aload_n_ok h0 kd_B_quota_84 rfl ?_
    refine wq_get_ok (wq_getOK h0 hts ki_B hown hK (ci := 0) rfl 2 (Nat.le_of_ble_eq_true rfl) kw_372 rfl) kd_B_quota_85 ?_
    refine wq_get_ok (wq_getOK h0 hts ki_Q hown hK (ci := 3) rfl 1 (Nat.le_of_ble_eq_true rfl) kw_130 rfl) kd_B_quota_88 ?_
    refine wq_bipush_ok h0 kd_B_quota_91 (by decide +kernel) ?_
    refine wq_icmp_ge_ok (tgt := 100) h0 kd_B_quota_93 (by decide) ?_ ?_
    · exact hb_100
    refine wq_iconst_ok h0 kd_B_quota_96 (by decide +kernel) ?_
    refine wq_goto_ok (tgt := 101) h0 kd_B_quota_97 (by decide) ?_
    exact hb_101
  have hb_80 : wq_Snd p l e ({ frames := 7, cells := 4, slots := 24, locals := 101 } : Room) s m args below meth c 7 cs D kz_cl A (wq_G0 ad w) (wq_Q cs D kz_cl A (wq_G0 ad w) rt xt below s 4 24) 80 (kt_B_quota_80 rt xt) := by
    refine wq_iconst_ok h0 kd_B_quota_80 (by decide +kernel) ?_
    exact hb_81
  have hb_50 : wq_Snd p l e ({ frames := 7, cells := 4, slots := 24, locals := 101 } : Room) s m args below meth c 7 cs D kz_cl A (wq_G0 ad w) (wq_Q cs D kz_cl A (wq_G0 ad w) rt xt below s 4 24) 50 (kt_B_quota_50 rt xt) := by
    refine wq_call_ok hA (wq_runS ⟨h0.1, h0.2, hml, hown, hts⟩ (kv_B_requireArgument hl) ⟨(wq_cB hts kw_G kw_413 kw_1 kw_411 ⟨by decide +kernel, by decide +kernel, by decide +kernel⟩ rfl rfl ⟨Nat.le_of_ble_eq_true rfl, Nat.le_of_ble_eq_true rfl⟩), hts _ kw_412⟩ hK hZ hN hA kd_B_quota_50) (wq_xout_ok hnt hlk) ?_
    refine wq_iload_ok h0 kd_B_quota_53 ?_
    refine wq_call_ok hA (wq_runS ⟨h0.1, h0.2, hml, hown, hts⟩ (kv_B_isDay hl) ⟨(wq_cB hts kw_G kw_578 kw_1 kw_576 ⟨by decide +kernel, by decide +kernel, by decide +kernel⟩ rfl rfl ⟨Nat.le_of_ble_eq_true rfl, Nat.le_of_ble_eq_true rfl⟩), hts _ kw_577⟩ hK hZ hN hA kd_B_quota_55) (wq_xout_ok hnt hlk) ?_
    refine wq_if_eq_ok (tgt := 80) h0 kd_B_quota_58 (by decide) ?_ ?_
    · exact hb_80
    refine wq_iload_ok h0 kd_B_quota_61 ?_
    refine wq_call_ok hA (wq_runS ⟨h0.1, h0.2, hml, hown, hts⟩ (kv_B_isDay hl) ⟨(wq_cB hts kw_G kw_578 kw_1 kw_576 ⟨by decide +kernel, by decide +kernel, by decide +kernel⟩ rfl rfl ⟨Nat.le_of_ble_eq_true rfl, Nat.le_of_ble_eq_true rfl⟩), hts _ kw_577⟩ hK hZ hN hA kd_B_quota_63) (wq_xout_ok hnt hlk) ?_
    refine wq_if_eq_ok (tgt := 80) h0 kd_B_quota_66 (by decide) ?_ ?_
    · exact hb_80
    refine wq_iload_ok h0 kd_B_quota_69 ?_
    refine wq_iload_ok h0 kd_B_quota_71 ?_
    refine wq_icmp_gt_ok (tgt := 80) h0 kd_B_quota_73 (by decide) ?_ ?_
    · exact hb_80
    refine wq_iconst_ok h0 kd_B_quota_76 (by decide +kernel) ?_
    refine wq_goto_ok (tgt := 81) h0 kd_B_quota_77 (by decide) ?_
    exact hb_81
  have hb_49 : wq_Snd p l e ({ frames := 7, cells := 4, slots := 24, locals := 101 } : Room) s m args below meth c 7 cs D kz_cl A (wq_G0 ad w) (wq_Q cs D kz_cl A (wq_G0 ad w) rt xt below s 4 24) 49 (kt_B_quota_49 rt xt) := by
    refine wq_iconst_ok h0 kd_B_quota_49 (by decide +kernel) ?_
    exact hb_50
  have hb_20 : wq_Snd p l e ({ frames := 7, cells := 4, slots := 24, locals := 101 } : Room) s m args below meth c 7 cs D kz_cl A (wq_G0 ad w) (wq_Q cs D kz_cl A (wq_G0 ad w) rt xt below s 4 24) 20 (kt_B_quota_20 rt xt) := by
    refine wq_call_ok hA (wq_runS ⟨h0.1, h0.2, hml, hown, hts⟩ (kv_B_requireArgument hl) ⟨(wq_cB hts kw_G kw_413 kw_1 kw_411 ⟨by decide +kernel, by decide +kernel, by decide +kernel⟩ rfl rfl ⟨Nat.le_of_ble_eq_true rfl, Nat.le_of_ble_eq_true rfl⟩), hts _ kw_412⟩ hK hZ hN hA kd_B_quota_20) (wq_xout_ok hnt hlk) ?_
    refine wq_iload_n_ok h0 kd_B_quota_23 rfl ?_
    refine wq_iconst_ok h0 kd_B_quota_24 (by decide +kernel) ?_
    refine wq_ldc_ok (v := 100000) h0 hown (hts _ kw_606) kd_B_quota_25 ?_
    refine wq_call_ok hA (wq_runS ⟨h0.1, h0.2, hml, hown, hts⟩ (kv_B_isWithin hl) ⟨(wq_cB hts kw_G kw_517 kw_1 kw_515 ⟨by decide +kernel, by decide +kernel, by decide +kernel⟩ rfl rfl ⟨Nat.le_of_ble_eq_true rfl, Nat.le_of_ble_eq_true rfl⟩), hts _ kw_516⟩ hK hZ hN hA kd_B_quota_27) (wq_xout_ok hnt hlk) ?_
    refine wq_if_eq_ok (tgt := 49) h0 kd_B_quota_30 (by decide) ?_ ?_
    · exact hb_49
    refine wq_iload_ok h0 kd_B_quota_33 ?_
    refine wq_iconst_ok h0 kd_B_quota_35 (by decide +kernel) ?_
    refine wq_sipush_ok h0 kd_B_quota_36 (by decide +kernel) ?_
    refine wq_call_ok hA (wq_runS ⟨h0.1, h0.2, hml, hown, hts⟩ (kv_B_isWithin hl) ⟨(wq_cB hts kw_G kw_517 kw_1 kw_515 ⟨by decide +kernel, by decide +kernel, by decide +kernel⟩ rfl rfl ⟨Nat.le_of_ble_eq_true rfl, Nat.le_of_ble_eq_true rfl⟩), hts _ kw_516⟩ hK hZ hN hA kd_B_quota_39) (wq_xout_ok hnt hlk) ?_
    refine wq_if_eq_ok (tgt := 49) h0 kd_B_quota_42 (by decide) ?_ ?_
    · exact hb_49
    refine wq_iconst_ok h0 kd_B_quota_45 (by decide +kernel) ?_
    refine wq_goto_ok (tgt := 50) h0 kd_B_quota_46 (by decide) ?_
    exact hb_50
  have hb_19 : wq_Snd p l e ({ frames := 7, cells := 4, slots := 24, locals := 101 } : Room) s m args below meth c 7 cs D kz_cl A (wq_G0 ad w) (wq_Q cs D kz_cl A (wq_G0 ad w) rt xt below s 4 24) 19 (kt_B_quota_19 rt xt) := by
    refine wq_iconst_ok h0 kd_B_quota_19 (by decide +kernel) ?_
    exact hb_20
  have hb_0 : wq_Snd p l e ({ frames := 7, cells := 4, slots := 24, locals := 101 } : Room) s m args below meth c 7 cs D kz_cl A (wq_G0 ad w) (wq_Q cs D kz_cl A (wq_G0 ad w) rt xt below s 4 24) 0 (kt_B_quota_0 rt xt) := by
    refine wq_aload_n_ok h0 kd_B_quota_0 rfl ?_
    refine wq_iload_n_ok h0 kd_B_quota_1 rfl ?_
    refine wq_call_ok hA (wq_runV (ci := 0) ⟨h0.1, h0.2, hml, hown, hts⟩ (kv_B_isHeading hl) ⟨(wq_cB hts kw_G kw_407 kw_1 kw_404 ⟨by decide +kernel, by decide +kernel, by decide +kernel⟩ rfl rfl ⟨Nat.le_of_ble_eq_true rfl, Nat.le_of_ble_eq_true rfl⟩), hts _ kw_406, hts _ kw_s0⟩ rfl rfl hK hZ hN hA kd_B_quota_2) (wq_xout_ok hnt hlk) ?_
    refine wq_if_eq_ok (tgt := 19) h0 kd_B_quota_5 (by decide) ?_ ?_
    · exact hb_19
    refine wq_iload_n_ok h0 kd_B_quota_8 rfl ?_
    refine wq_call_ok hA (wq_runS ⟨h0.1, h0.2, hml, hown, hts⟩ (kv_B_isLand hl) ⟨(wq_cB hts kw_G kw_575 kw_1 kw_573 ⟨by decide +kernel, by decide +kernel, by decide +kernel⟩ rfl rfl ⟨Nat.le_of_ble_eq_true rfl, Nat.le_of_ble_eq_true rfl⟩), hts _ kw_574⟩ hK hZ hN hA kd_B_quota_9) (wq_xout_ok hnt hlk) ?_
    refine wq_if_eq_ok (tgt := 19) h0 kd_B_quota_12 (by decide) ?_ ?_
    · exact hb_19
    refine wq_iconst_ok h0 kd_B_quota_15 (by decide +kernel) ?_
    refine wq_goto_ok (tgt := 20) h0 kd_B_quota_16 (by decide) ?_
    exact hb_20
  exact hb_0 _ _ _ _ _ (wq_sp_t hsp)
-- BorderDesk.quotaLeft(I)I
def kt_B_quotaLeft_0 (rt : Option wq_V → wq_W → Prop) (xt : Nat → wq_W → Prop) : wq_T := (wq_iload 1 (wq_aload 0 (wq_get 0 2 (wq_get 3 1 (wq_call ks_B_isBelow 2 0 0 1 6 (wq_xout 1 6 xt) (wq_call ks_B_requireArgument 1 1 6 1 6 (wq_xout 1 6 xt) (wq_aload 0 (wq_get 0 2 (wq_get 3 2 (wq_iload 1 (wq_iald (wq_ireturn 1 6 rt))))))))))))
def ks_B_quotaLeft : wq_S := wq_sp 2 (fun rt xt => kt_B_quotaLeft_0 rt xt)
set_option maxRecDepth 100000 in
set_option maxHeartbeats 4000000 in
theorem kv_B_quotaLeft {l : Launch} (hl : l.stackTraces = false) : wq_Vld l kz_cl ky_B_quotaLeft kw_T ({ frames := 7, cells := 1, slots := 6, locals := 101 }) wq_G0 ks_B_quotaLeft 1 6 := by
  refine wq_method (cc := kc_B_quotaLeft) (maxL := 2) (ret := (some .int)) (by decide) kw_617 (fun _ _ => rfl) wq_sp_sz ?_
  intro p e s m args below meth c cs D ad as w rt xt hF hnt hsp
  obtain ⟨h0, hr, hts, hown, hlk, hnm, hml, hK, hZ, hN, hA⟩ := hF
  have hown : s.vm.findClass "BorderDesk" = some m.cls := hown
  obtain ⟨A, hAe⟩ : ∃ A, A = wq_A ad w s.heap.size := ⟨_, rfl⟩
  rw [← hAe] at hZ hA ⊢
  have hb_0 : wq_Snd p l e ({ frames := 7, cells := 1, slots := 6, locals := 101 } : Room) s m args below meth c 2 cs D kz_cl A (wq_G0 ad w) (wq_Q cs D kz_cl A (wq_G0 ad w) rt xt below s 1 6) 0 (kt_B_quotaLeft_0 rt xt) := by
    refine wq_iload_n_ok h0 kd_B_quotaLeft_0 rfl ?_
    refine wq_aload_n_ok h0 kd_B_quotaLeft_1 rfl ?_
    refine wq_get_ok (wq_getOK h0 hts ki_B hown hK (ci := 0) rfl 2 (Nat.le_of_ble_eq_true rfl) kw_372 rfl) kd_B_quotaLeft_2 ?_
    refine wq_get_ok (wq_getOK h0 hts ki_Q hown hK (ci := 3) rfl 1 (Nat.le_of_ble_eq_true rfl) kw_130 rfl) kd_B_quotaLeft_5 ?_
    refine wq_call_ok hA (wq_runS ⟨h0.1, h0.2, hml, hown, hts⟩ (kv_B_isBelow hl) ⟨(wq_cB hts kw_G kw_410 kw_1 kw_408 ⟨by decide +kernel, by decide +kernel, by decide +kernel⟩ rfl rfl ⟨Nat.le_of_ble_eq_true rfl, Nat.le_of_ble_eq_true rfl⟩), hts _ kw_409⟩ hK hZ hN hA kd_B_quotaLeft_8) (wq_xout_ok hnt hlk) ?_
    refine wq_call_ok hA (wq_runS ⟨h0.1, h0.2, hml, hown, hts⟩ (kv_B_requireArgument hl) ⟨(wq_cB hts kw_G kw_413 kw_1 kw_411 ⟨by decide +kernel, by decide +kernel, by decide +kernel⟩ rfl rfl ⟨Nat.le_of_ble_eq_true rfl, Nat.le_of_ble_eq_true rfl⟩), hts _ kw_412⟩ hK hZ hN hA kd_B_quotaLeft_11) (wq_xout_ok hnt hlk) ?_
    refine wq_aload_n_ok h0 kd_B_quotaLeft_14 rfl ?_
    refine wq_get_ok (wq_getOK h0 hts ki_B hown hK (ci := 0) rfl 2 (Nat.le_of_ble_eq_true rfl) kw_372 rfl) kd_B_quotaLeft_15 ?_
    refine wq_get_ok (wq_getOK h0 hts ki_Q hown hK (ci := 3) rfl 2 (Nat.le_of_ble_eq_true rfl) kw_133 rfl) kd_B_quotaLeft_18 ?_
    refine wq_iload_n_ok h0 kd_B_quotaLeft_21 rfl ?_
    refine wq_iald_ok h0 hK kd_B_quotaLeft_22 ?_
    exact wq_ireturn_ok h0 hr hlk kd_B_quotaLeft_23
  exact hb_0 _ _ _ _ _ (wq_sp_t hsp)
-- BorderDesk.part(IIII)I
def kt_B_part_78 (rt : Option wq_V → wq_W → Prop) (xt : Nat → wq_W → Prop) : wq_T := (wq_call ks_B_requireState 1 1 6 4 24 (wq_xout 4 24 xt) (wq_aload 0 (wq_get 0 3 (wq_iload 1 (wq_iload 2 (wq_iload 3 (wq_iload 4 (wq_call (wq_rv 4 ks_O_addPart) 5 0 0 4 24 (wq_xout 4 24 xt) (wq_ireturn 4 24 rt)))))))))
def kt_B_part_77 (rt : Option wq_V → wq_W → Prop) (xt : Nat → wq_W → Prop) : wq_T := (wq_iconst (nI 0) (kt_B_part_78 rt xt))
def kt_B_part_57 (rt : Option wq_V → wq_W → Prop) (xt : Nat → wq_W → Prop) : wq_T := (wq_call ks_B_requireArgument 1 1 6 4 24 (wq_xout 4 24 xt) (wq_aload 0 (wq_get 0 3 (wq_get 4 2 (wq_iload 1 (wq_iald (wq_iconst (nI 5) (wq_f2 (fun x y => y ≤ x) (kt_B_part_77 rt xt) (wq_iconst (nI 1) (kt_B_part_78 rt xt))))))))))
def kt_B_part_56 (rt : Option wq_V → wq_W → Prop) (xt : Nat → wq_W → Prop) : wq_T := (wq_iconst (nI 0) (kt_B_part_57 rt xt))
def kt_B_part_27 (rt : Option wq_V → wq_W → Prop) (xt : Nat → wq_W → Prop) : wq_T := (wq_call ks_B_requireArgument 1 1 6 4 24 (wq_xout 4 24 xt) (wq_iload 3 (wq_iconst (nI 0) (wq_iconst (1000000) (wq_call ks_B_isWithin 3 0 0 4 24 (wq_xout 4 24 xt) (wq_call ks_B_requireArgument 1 1 6 4 24 (wq_xout 4 24 xt) (wq_aload 0 (wq_get 0 3 (wq_iload 1 (wq_iload 2 (wq_call (wq_rv 4 ks_O_wouldComeRound) 3 0 0 4 24 (wq_xout 4 24 xt) (wq_f1 (fun x => x = 0) (wq_iconst (nI 1) (kt_B_part_57 rt xt)) (kt_B_part_56 rt xt)))))))))))))
def kt_B_part_26 (rt : Option wq_V → wq_W → Prop) (xt : Nat → wq_W → Prop) : wq_T := (wq_iconst (nI 0) (kt_B_part_27 rt xt))
def kt_B_part_0 (rt : Option wq_V → wq_W → Prop) (xt : Nat → wq_W → Prop) : wq_T := (wq_iload 1 (wq_call ks_B_isGood 1 0 0 4 24 (wq_xout 4 24 xt) (wq_f1 (fun x => x = 0) (kt_B_part_26 rt xt) (wq_iload 2 (wq_call ks_B_isGood 1 0 0 4 24 (wq_xout 4 24 xt) (wq_f1 (fun x => x = 0) (kt_B_part_26 rt xt) (wq_iload 4 (wq_call ks_B_isLand 1 0 0 4 24 (wq_xout 4 24 xt) (wq_f1 (fun x => x = 0) (kt_B_part_26 rt xt) (wq_iconst (nI 1) (kt_B_part_27 rt xt)))))))))))
def ks_B_part : wq_S := wq_sp 5 (fun rt xt => kt_B_part_0 rt xt)
set_option maxRecDepth 100000 in
set_option maxHeartbeats 4000000 in
theorem kv_B_part {l : Launch} (hl : l.stackTraces = false) : wq_Vld l kz_cl ky_B_part kw_T ({ frames := 7, cells := 4, slots := 24, locals := 101 }) wq_G0 ks_B_part 4 24 := by
  refine wq_method (cc := kc_B_part) (maxL := 5) (ret := (some .int)) (by decide) kw_624 (fun _ _ => rfl) wq_sp_sz ?_
  intro p e s m args below meth c cs D ad as w rt xt hF hnt hsp
  obtain ⟨h0, hr, hts, hown, hlk, hnm, hml, hK, hZ, hN, hA⟩ := hF
  have hown : s.vm.findClass "BorderDesk" = some m.cls := hown
  obtain ⟨A, hAe⟩ : ∃ A, A = wq_A ad w s.heap.size := ⟨_, rfl⟩
  rw [← hAe] at hZ hA ⊢
  have hb_78 : wq_Snd p l e ({ frames := 7, cells := 4, slots := 24, locals := 101 } : Room) s m args below meth c 5 cs D kz_cl A (wq_G0 ad w) (wq_Q cs D kz_cl A (wq_G0 ad w) rt xt below s 4 24) 78 (kt_B_part_78 rt xt) := by
    refine wq_call_ok hA (wq_runS ⟨h0.1, h0.2, hml, hown, hts⟩ (kv_B_requireState hl) ⟨(wq_cB hts kw_G kw_480 kw_1 kw_478 ⟨by decide +kernel, by decide +kernel, by decide +kernel⟩ rfl rfl ⟨Nat.le_of_ble_eq_true rfl, Nat.le_of_ble_eq_true rfl⟩), hts _ kw_479⟩ hK hZ hN hA kd_B_part_78) (wq_xout_ok hnt hlk) ?_
    refine wq_aload_n_ok h0 kd_B_part_81 rfl ?_
    refine wq_get_ok (wq_getOK h0 hts ki_B hown hK (ci := 0) rfl 3 (Nat.le_of_ble_eq_true rfl) kw_373 rfl) kd_B_part_82 ?_
    refine wq_iload_n_ok h0 kd_B_part_85 rfl ?_
    refine wq_iload_n_ok h0 kd_B_part_86 rfl ?_
    refine wq_iload_n_ok h0 kd_B_part_87 rfl ?_
    refine wq_iload_ok h0 kd_B_part_88 ?_
    refine wq_call_ok hA (wq_runV (ci := 4) ⟨h0.1, h0.2, hml, hown, hts⟩ (kv_O_addPart hl) ⟨(wq_cB hts kw_G kw_636 kw_5 kw_633 ⟨by decide +kernel, by decide +kernel, by decide +kernel⟩ rfl rfl ⟨Nat.le_of_ble_eq_true rfl, Nat.le_of_ble_eq_true rfl⟩), hts _ kw_634, hts _ kw_635⟩ rfl rfl hK hZ hN hA kd_B_part_90) (wq_xout_ok hnt hlk) ?_
    exact wq_ireturn_ok h0 hr hlk kd_B_part_93
  have hb_77 : wq_Snd p l e ({ frames := 7, cells := 4, slots := 24, locals := 101 } : Room) s m args below meth c 5 cs D kz_cl A (wq_G0 ad w) (wq_Q cs D kz_cl A (wq_G0 ad w) rt xt below s 4 24) 77 (kt_B_part_77 rt xt) := by
    refine wq_iconst_ok h0 kd_B_part_77 (by decide +kernel) ?_
    exact hb_78
  have hb_57 : wq_Snd p l e ({ frames := 7, cells := 4, slots := 24, locals := 101 } : Room) s m args below meth c 5 cs D kz_cl A (wq_G0 ad w) (wq_Q cs D kz_cl A (wq_G0 ad w) rt xt below s 4 24) 57 (kt_B_part_57 rt xt) := by
    refine wq_call_ok hA (wq_runS ⟨h0.1, h0.2, hml, hown, hts⟩ (kv_B_requireArgument hl) ⟨(wq_cB hts kw_G kw_413 kw_1 kw_411 ⟨by decide +kernel, by decide +kernel, by decide +kernel⟩ rfl rfl ⟨Nat.le_of_ble_eq_true rfl, Nat.le_of_ble_eq_true rfl⟩), hts _ kw_412⟩ hK hZ hN hA kd_B_part_57) (wq_xout_ok hnt hlk) ?_
    refine wq_aload_n_ok h0 kd_B_part_60 rfl ?_
    refine wq_get_ok (wq_getOK h0 hts ki_B hown hK (ci := 0) rfl 3 (Nat.le_of_ble_eq_true rfl) kw_373 rfl) kd_B_part_61 ?_
    refine wq_get_ok (wq_getOK h0 hts ki_O hown hK (ci := 4) rfl 2 (Nat.le_of_ble_eq_true rfl) kw_168 rfl) kd_B_part_64 ?_
    refine wq_iload_n_ok h0 kd_B_part_67 rfl ?_
    refine wq_iald_ok h0 hK kd_B_part_68 ?_
    refine wq_iconst_ok h0 kd_B_part_69 (by decide +kernel) ?_
    refine wq_icmp_ge_ok (tgt := 77) h0 kd_B_part_70 (by decide) ?_ ?_
    · exact hb_77
    refine wq_iconst_ok h0 kd_B_part_73 (by decide +kernel) ?_
    refine wq_goto_ok (tgt := 78) h0 kd_B_part_74 (by decide) ?_
    exact hb_78
  have hb_56 : wq_Snd p l e ({ frames := 7, cells := 4, slots := 24, locals := 101 } : Room) s m args below meth c 5 cs D kz_cl A (wq_G0 ad w) (wq_Q cs D kz_cl A (wq_G0 ad w) rt xt below s 4 24) 56 (kt_B_part_56 rt xt) := by
    refine wq_iconst_ok h0 kd_B_part_56 (by decide +kernel) ?_
    exact hb_57
  have hb_27 : wq_Snd p l e ({ frames := 7, cells := 4, slots := 24, locals := 101 } : Room) s m args below meth c 5 cs D kz_cl A (wq_G0 ad w) (wq_Q cs D kz_cl A (wq_G0 ad w) rt xt below s 4 24) 27 (kt_B_part_27 rt xt) := by
    refine wq_call_ok hA (wq_runS ⟨h0.1, h0.2, hml, hown, hts⟩ (kv_B_requireArgument hl) ⟨(wq_cB hts kw_G kw_413 kw_1 kw_411 ⟨by decide +kernel, by decide +kernel, by decide +kernel⟩ rfl rfl ⟨Nat.le_of_ble_eq_true rfl, Nat.le_of_ble_eq_true rfl⟩), hts _ kw_412⟩ hK hZ hN hA kd_B_part_27) (wq_xout_ok hnt hlk) ?_
    refine wq_iload_n_ok h0 kd_B_part_30 rfl ?_
    refine wq_iconst_ok h0 kd_B_part_31 (by decide +kernel) ?_
    refine wq_ldc_ok (v := 1000000) h0 hown (hts _ kw_625) kd_B_part_32 ?_
    refine wq_call_ok hA (wq_runS ⟨h0.1, h0.2, hml, hown, hts⟩ (kv_B_isWithin hl) ⟨(wq_cB hts kw_G kw_517 kw_1 kw_515 ⟨by decide +kernel, by decide +kernel, by decide +kernel⟩ rfl rfl ⟨Nat.le_of_ble_eq_true rfl, Nat.le_of_ble_eq_true rfl⟩), hts _ kw_516⟩ hK hZ hN hA kd_B_part_34) (wq_xout_ok hnt hlk) ?_
    refine wq_call_ok hA (wq_runS ⟨h0.1, h0.2, hml, hown, hts⟩ (kv_B_requireArgument hl) ⟨(wq_cB hts kw_G kw_413 kw_1 kw_411 ⟨by decide +kernel, by decide +kernel, by decide +kernel⟩ rfl rfl ⟨Nat.le_of_ble_eq_true rfl, Nat.le_of_ble_eq_true rfl⟩), hts _ kw_412⟩ hK hZ hN hA kd_B_part_37) (wq_xout_ok hnt hlk) ?_
    refine wq_aload_n_ok h0 kd_B_part_40 rfl ?_
    refine wq_get_ok (wq_getOK h0 hts ki_B hown hK (ci := 0) rfl 3 (Nat.le_of_ble_eq_true rfl) kw_373 rfl) kd_B_part_41 ?_
    refine wq_iload_n_ok h0 kd_B_part_44 rfl ?_
    refine wq_iload_n_ok h0 kd_B_part_45 rfl ?_
    refine wq_call_ok hA (wq_runV (ci := 4) ⟨h0.1, h0.2, hml, hown, hts⟩ (kv_O_wouldComeRound hl) ⟨(wq_cB hts kw_G kw_629 kw_5 kw_626 ⟨by decide +kernel, by decide +kernel, by decide +kernel⟩ rfl rfl ⟨Nat.le_of_ble_eq_true rfl, Nat.le_of_ble_eq_true rfl⟩), hts _ kw_627, hts _ kw_628⟩ rfl rfl hK hZ hN hA kd_B_part_46) (wq_xout_ok hnt hlk) ?_
    refine wq_if_ne_ok (tgt := 56) h0 kd_B_part_49 (by decide) ?_ ?_
    · exact hb_56
    refine wq_iconst_ok h0 kd_B_part_52 (by decide +kernel) ?_
    refine wq_goto_ok (tgt := 57) h0 kd_B_part_53 (by decide) ?_
    exact hb_57
  have hb_26 : wq_Snd p l e ({ frames := 7, cells := 4, slots := 24, locals := 101 } : Room) s m args below meth c 5 cs D kz_cl A (wq_G0 ad w) (wq_Q cs D kz_cl A (wq_G0 ad w) rt xt below s 4 24) 26 (kt_B_part_26 rt xt) := by
    refine wq_iconst_ok h0 kd_B_part_26 (by decide +kernel) ?_
    exact hb_27
  have hb_0 : wq_Snd p l e ({ frames := 7, cells := 4, slots := 24, locals := 101 } : Room) s m args below meth c 5 cs D kz_cl A (wq_G0 ad w) (wq_Q cs D kz_cl A (wq_G0 ad w) rt xt below s 4 24) 0 (kt_B_part_0 rt xt) := by
    refine wq_iload_n_ok h0 kd_B_part_0 rfl ?_
    refine wq_call_ok hA (wq_runS ⟨h0.1, h0.2, hml, hown, hts⟩ (kv_B_isGood hl) ⟨(wq_cB hts kw_G kw_531 kw_1 kw_529 ⟨by decide +kernel, by decide +kernel, by decide +kernel⟩ rfl rfl ⟨Nat.le_of_ble_eq_true rfl, Nat.le_of_ble_eq_true rfl⟩), hts _ kw_530⟩ hK hZ hN hA kd_B_part_1) (wq_xout_ok hnt hlk) ?_
    refine wq_if_eq_ok (tgt := 26) h0 kd_B_part_4 (by decide) ?_ ?_
    · exact hb_26
    refine wq_iload_n_ok h0 kd_B_part_7 rfl ?_
    refine wq_call_ok hA (wq_runS ⟨h0.1, h0.2, hml, hown, hts⟩ (kv_B_isGood hl) ⟨(wq_cB hts kw_G kw_531 kw_1 kw_529 ⟨by decide +kernel, by decide +kernel, by decide +kernel⟩ rfl rfl ⟨Nat.le_of_ble_eq_true rfl, Nat.le_of_ble_eq_true rfl⟩), hts _ kw_530⟩ hK hZ hN hA kd_B_part_8) (wq_xout_ok hnt hlk) ?_
    refine wq_if_eq_ok (tgt := 26) h0 kd_B_part_11 (by decide) ?_ ?_
    · exact hb_26
    refine wq_iload_ok h0 kd_B_part_14 ?_
    refine wq_call_ok hA (wq_runS ⟨h0.1, h0.2, hml, hown, hts⟩ (kv_B_isLand hl) ⟨(wq_cB hts kw_G kw_575 kw_1 kw_573 ⟨by decide +kernel, by decide +kernel, by decide +kernel⟩ rfl rfl ⟨Nat.le_of_ble_eq_true rfl, Nat.le_of_ble_eq_true rfl⟩), hts _ kw_574⟩ hK hZ hN hA kd_B_part_16) (wq_xout_ok hnt hlk) ?_
    refine wq_if_eq_ok (tgt := 26) h0 kd_B_part_19 (by decide) ?_ ?_
    · exact hb_26
    refine wq_iconst_ok h0 kd_B_part_22 (by decide +kernel) ?_
    refine wq_goto_ok (tgt := 27) h0 kd_B_part_23 (by decide) ?_
    exact hb_27
  exact hb_0 _ _ _ _ _ (wq_sp_t hsp)
-- BorderDesk.zone(II)V
def kt_B_zone_0 (rt : Option wq_V → wq_W → Prop) (xt : Nat → wq_W → Prop) : wq_T := (wq_iload 1 (wq_iconst (nI 4) (wq_call ks_B_isBelow 2 0 0 2 12 (wq_xout 2 12 xt) (wq_call ks_B_requireArgument 1 1 6 2 12 (wq_xout 2 12 xt) (wq_iload 2 (wq_iconst (nI 256) (wq_call ks_B_isBelow 2 0 0 2 12 (wq_xout 2 12 xt) (wq_call ks_B_requireArgument 1 1 6 2 12 (wq_xout 2 12 xt) (wq_aload 0 (wq_get 0 3 (wq_get 4 1 (wq_iload 1 (wq_iload 2 (wq_iast (wq_vreturn 2 12 rt)))))))))))))))
def ks_B_zone : wq_S := wq_sp 3 (fun rt xt => kt_B_zone_0 rt xt)
set_option maxRecDepth 100000 in
set_option maxHeartbeats 4000000 in
theorem kv_B_zone {l : Launch} (hl : l.stackTraces = false) : wq_Vld l kz_cl ky_B_zone kw_T ({ frames := 7, cells := 2, slots := 12, locals := 101 }) wq_G0 ks_B_zone 2 12 := by
  refine wq_method (cc := kc_B_zone) (maxL := 3) (ret := none) (by decide) kw_643 (fun _ _ => rfl) wq_sp_sz ?_
  intro p e s m args below meth c cs D ad as w rt xt hF hnt hsp
  obtain ⟨h0, hr, hts, hown, hlk, hnm, hml, hK, hZ, hN, hA⟩ := hF
  have hown : s.vm.findClass "BorderDesk" = some m.cls := hown
  obtain ⟨A, hAe⟩ : ∃ A, A = wq_A ad w s.heap.size := ⟨_, rfl⟩
  rw [← hAe] at hZ hA ⊢
  have hb_0 : wq_Snd p l e ({ frames := 7, cells := 2, slots := 12, locals := 101 } : Room) s m args below meth c 3 cs D kz_cl A (wq_G0 ad w) (wq_Q cs D kz_cl A (wq_G0 ad w) rt xt below s 2 12) 0 (kt_B_zone_0 rt xt) := by
    refine wq_iload_n_ok h0 kd_B_zone_0 rfl ?_
    refine wq_iconst_ok h0 kd_B_zone_1 (by decide +kernel) ?_
    refine wq_call_ok hA (wq_runS ⟨h0.1, h0.2, hml, hown, hts⟩ (kv_B_isBelow hl) ⟨(wq_cB hts kw_G kw_410 kw_1 kw_408 ⟨by decide +kernel, by decide +kernel, by decide +kernel⟩ rfl rfl ⟨Nat.le_of_ble_eq_true rfl, Nat.le_of_ble_eq_true rfl⟩), hts _ kw_409⟩ hK hZ hN hA kd_B_zone_2) (wq_xout_ok hnt hlk) ?_
    refine wq_call_ok hA (wq_runS ⟨h0.1, h0.2, hml, hown, hts⟩ (kv_B_requireArgument hl) ⟨(wq_cB hts kw_G kw_413 kw_1 kw_411 ⟨by decide +kernel, by decide +kernel, by decide +kernel⟩ rfl rfl ⟨Nat.le_of_ble_eq_true rfl, Nat.le_of_ble_eq_true rfl⟩), hts _ kw_412⟩ hK hZ hN hA kd_B_zone_5) (wq_xout_ok hnt hlk) ?_
    refine wq_iload_n_ok h0 kd_B_zone_8 rfl ?_
    refine wq_sipush_ok h0 kd_B_zone_9 (by decide +kernel) ?_
    refine wq_call_ok hA (wq_runS ⟨h0.1, h0.2, hml, hown, hts⟩ (kv_B_isBelow hl) ⟨(wq_cB hts kw_G kw_410 kw_1 kw_408 ⟨by decide +kernel, by decide +kernel, by decide +kernel⟩ rfl rfl ⟨Nat.le_of_ble_eq_true rfl, Nat.le_of_ble_eq_true rfl⟩), hts _ kw_409⟩ hK hZ hN hA kd_B_zone_12) (wq_xout_ok hnt hlk) ?_
    refine wq_call_ok hA (wq_runS ⟨h0.1, h0.2, hml, hown, hts⟩ (kv_B_requireArgument hl) ⟨(wq_cB hts kw_G kw_413 kw_1 kw_411 ⟨by decide +kernel, by decide +kernel, by decide +kernel⟩ rfl rfl ⟨Nat.le_of_ble_eq_true rfl, Nat.le_of_ble_eq_true rfl⟩), hts _ kw_412⟩ hK hZ hN hA kd_B_zone_15) (wq_xout_ok hnt hlk) ?_
    refine wq_aload_n_ok h0 kd_B_zone_18 rfl ?_
    refine wq_get_ok (wq_getOK h0 hts ki_B hown hK (ci := 0) rfl 3 (Nat.le_of_ble_eq_true rfl) kw_373 rfl) kd_B_zone_19 ?_
    refine wq_get_ok (wq_getOK h0 hts ki_O hown hK (ci := 4) rfl 1 (Nat.le_of_ble_eq_true rfl) kw_166 rfl) kd_B_zone_22 ?_
    refine wq_iload_n_ok h0 kd_B_zone_25 rfl ?_
    refine wq_iload_n_ok h0 kd_B_zone_26 rfl ?_
    refine wq_iast_ok h0 hK kd_B_zone_27 ?_
    exact wq_vreturn_ok h0 hr hlk kd_B_zone_28
  exact hb_0 _ _ _ _ _ (wq_sp_t hsp)
-- BorderDesk.rule(III)V
def kt_B_rule_22 (rt : Option wq_V → wq_W → Prop) (xt : Nat → wq_W → Prop) : wq_T := (wq_call ks_B_requireArgument 1 1 6 3 18 (wq_xout 3 18 xt) (wq_iload 3 (wq_iconst (nI 0) (wq_iconst (nI 1000) (wq_call ks_B_isWithin 3 0 0 3 18 (wq_xout 3 18 xt) (wq_call ks_B_requireArgument 1 1 6 3 18 (wq_xout 3 18 xt) (wq_aload 0 (wq_get 0 0 (wq_get 1 3 (wq_iload 1 (wq_iload 2 (wq_iast (wq_aload 0 (wq_get 0 0 (wq_get 1 4 (wq_iload 1 (wq_iload 3 (wq_iast (wq_vreturn 3 18 rt)))))))))))))))))))
def kt_B_rule_17 (rt : Option wq_V → wq_W → Prop) (xt : Nat → wq_W → Prop) : wq_T := (wq_iconst (nI 1) (kt_B_rule_22 rt xt))
def kt_B_rule_21 (rt : Option wq_V → wq_W → Prop) (xt : Nat → wq_W → Prop) : wq_T := (wq_iconst (nI 0) (kt_B_rule_22 rt xt))
def kt_B_rule_0 (rt : Option wq_V → wq_W → Prop) (xt : Nat → wq_W → Prop) : wq_T := (wq_aload 0 (wq_iload 1 (wq_call (wq_rv 0 ks_B_isHeading) 2 0 0 3 18 (wq_xout 3 18 xt) (wq_call ks_B_requireArgument 1 1 6 3 18 (wq_xout 3 18 xt) (wq_iload 2 (wq_f1 (fun x => x = 0) (kt_B_rule_17 rt xt) (wq_iload 2 (wq_iconst (nI 1) (wq_f2 (fun x y => x = y) (kt_B_rule_17 rt xt) (kt_B_rule_21 rt xt))))))))))
def ks_B_rule : wq_S := wq_sp 4 (fun rt xt => kt_B_rule_0 rt xt)
set_option maxRecDepth 100000 in
set_option maxHeartbeats 4000000 in
theorem kv_B_rule {l : Launch} (hl : l.stackTraces = false) : wq_Vld l kz_cl ky_B_rule kw_T ({ frames := 7, cells := 3, slots := 18, locals := 101 }) wq_G0 ks_B_rule 3 18 := by
  refine wq_method (cc := kc_B_rule) (maxL := 4) (ret := none) (by decide) kw_650 (fun _ _ => rfl) wq_sp_sz ?_
  intro p e s m args below meth c cs D ad as w rt xt hF hnt hsp
  obtain ⟨h0, hr, hts, hown, hlk, hnm, hml, hK, hZ, hN, hA⟩ := hF
  have hown : s.vm.findClass "BorderDesk" = some m.cls := hown
  obtain ⟨A, hAe⟩ : ∃ A, A = wq_A ad w s.heap.size := ⟨_, rfl⟩
  rw [← hAe] at hZ hA ⊢
  have hb_22 : wq_Snd p l e ({ frames := 7, cells := 3, slots := 18, locals := 101 } : Room) s m args below meth c 4 cs D kz_cl A (wq_G0 ad w) (wq_Q cs D kz_cl A (wq_G0 ad w) rt xt below s 3 18) 22 (kt_B_rule_22 rt xt) := by
    refine wq_call_ok hA (wq_runS ⟨h0.1, h0.2, hml, hown, hts⟩ (kv_B_requireArgument hl) ⟨(wq_cB hts kw_G kw_413 kw_1 kw_411 ⟨by decide +kernel, by decide +kernel, by decide +kernel⟩ rfl rfl ⟨Nat.le_of_ble_eq_true rfl, Nat.le_of_ble_eq_true rfl⟩), hts _ kw_412⟩ hK hZ hN hA kd_B_rule_22) (wq_xout_ok hnt hlk) ?_
    refine wq_iload_n_ok h0 kd_B_rule_25 rfl ?_
    refine wq_iconst_ok h0 kd_B_rule_26 (by decide +kernel) ?_
    refine wq_sipush_ok h0 kd_B_rule_27 (by decide +kernel) ?_
    refine wq_call_ok hA (wq_runS ⟨h0.1, h0.2, hml, hown, hts⟩ (kv_B_isWithin hl) ⟨(wq_cB hts kw_G kw_517 kw_1 kw_515 ⟨by decide +kernel, by decide +kernel, by decide +kernel⟩ rfl rfl ⟨Nat.le_of_ble_eq_true rfl, Nat.le_of_ble_eq_true rfl⟩), hts _ kw_516⟩ hK hZ hN hA kd_B_rule_30) (wq_xout_ok hnt hlk) ?_
    refine wq_call_ok hA (wq_runS ⟨h0.1, h0.2, hml, hown, hts⟩ (kv_B_requireArgument hl) ⟨(wq_cB hts kw_G kw_413 kw_1 kw_411 ⟨by decide +kernel, by decide +kernel, by decide +kernel⟩ rfl rfl ⟨Nat.le_of_ble_eq_true rfl, Nat.le_of_ble_eq_true rfl⟩), hts _ kw_412⟩ hK hZ hN hA kd_B_rule_33) (wq_xout_ok hnt hlk) ?_
    refine wq_aload_n_ok h0 kd_B_rule_36 rfl ?_
    refine wq_get_ok (wq_getOK h0 hts ki_B hown hK (ci := 0) rfl 0 (Nat.le_of_ble_eq_true rfl) kw_370 rfl) kd_B_rule_37 ?_
    refine wq_get_ok (wq_getOK h0 hts ki_T hown hK (ci := 1) rfl 3 (Nat.le_of_ble_eq_true rfl) kw_44 rfl) kd_B_rule_40 ?_
    refine wq_iload_n_ok h0 kd_B_rule_43 rfl ?_
    refine wq_iload_n_ok h0 kd_B_rule_44 rfl ?_
    refine wq_iast_ok h0 hK kd_B_rule_45 ?_
    refine wq_aload_n_ok h0 kd_B_rule_46 rfl ?_
    refine wq_get_ok (wq_getOK h0 hts ki_B hown hK (ci := 0) rfl 0 (Nat.le_of_ble_eq_true rfl) kw_370 rfl) kd_B_rule_47 ?_
    refine wq_get_ok (wq_getOK h0 hts ki_T hown hK (ci := 1) rfl 4 (Nat.le_of_ble_eq_true rfl) kw_47 rfl) kd_B_rule_50 ?_
    refine wq_iload_n_ok h0 kd_B_rule_53 rfl ?_
    refine wq_iload_n_ok h0 kd_B_rule_54 rfl ?_
    refine wq_iast_ok h0 hK kd_B_rule_55 ?_
    exact wq_vreturn_ok h0 hr hlk kd_B_rule_56
  have hb_17 : wq_Snd p l e ({ frames := 7, cells := 3, slots := 18, locals := 101 } : Room) s m args below meth c 4 cs D kz_cl A (wq_G0 ad w) (wq_Q cs D kz_cl A (wq_G0 ad w) rt xt below s 3 18) 17 (kt_B_rule_17 rt xt) := by
    refine wq_iconst_ok h0 kd_B_rule_17 (by decide +kernel) ?_
    refine wq_goto_ok (tgt := 22) h0 kd_B_rule_18 (by decide) ?_
    exact hb_22
  have hb_21 : wq_Snd p l e ({ frames := 7, cells := 3, slots := 18, locals := 101 } : Room) s m args below meth c 4 cs D kz_cl A (wq_G0 ad w) (wq_Q cs D kz_cl A (wq_G0 ad w) rt xt below s 3 18) 21 (kt_B_rule_21 rt xt) := by
    refine wq_iconst_ok h0 kd_B_rule_21 (by decide +kernel) ?_
    exact hb_22
  have hb_0 : wq_Snd p l e ({ frames := 7, cells := 3, slots := 18, locals := 101 } : Room) s m args below meth c 4 cs D kz_cl A (wq_G0 ad w) (wq_Q cs D kz_cl A (wq_G0 ad w) rt xt below s 3 18) 0 (kt_B_rule_0 rt xt) := by
    refine wq_aload_n_ok h0 kd_B_rule_0 rfl ?_
    refine wq_iload_n_ok h0 kd_B_rule_1 rfl ?_
    refine wq_call_ok hA (wq_runV (ci := 0) ⟨h0.1, h0.2, hml, hown, hts⟩ (kv_B_isHeading hl) ⟨(wq_cB hts kw_G kw_407 kw_1 kw_404 ⟨by decide +kernel, by decide +kernel, by decide +kernel⟩ rfl rfl ⟨Nat.le_of_ble_eq_true rfl, Nat.le_of_ble_eq_true rfl⟩), hts _ kw_406, hts _ kw_s0⟩ rfl rfl hK hZ hN hA kd_B_rule_2) (wq_xout_ok hnt hlk) ?_
    refine wq_call_ok hA (wq_runS ⟨h0.1, h0.2, hml, hown, hts⟩ (kv_B_requireArgument hl) ⟨(wq_cB hts kw_G kw_413 kw_1 kw_411 ⟨by decide +kernel, by decide +kernel, by decide +kernel⟩ rfl rfl ⟨Nat.le_of_ble_eq_true rfl, Nat.le_of_ble_eq_true rfl⟩), hts _ kw_412⟩ hK hZ hN hA kd_B_rule_5) (wq_xout_ok hnt hlk) ?_
    refine wq_iload_n_ok h0 kd_B_rule_8 rfl ?_
    refine wq_if_eq_ok (tgt := 17) h0 kd_B_rule_9 (by decide) ?_ ?_
    · exact hb_17
    refine wq_iload_n_ok h0 kd_B_rule_12 rfl ?_
    refine wq_iconst_ok h0 kd_B_rule_13 (by decide +kernel) ?_
    refine wq_icmp_ne_ok (tgt := 21) h0 kd_B_rule_14 (by decide) ?_ ?_
    · exact hb_21
    exact hb_17
  exact hb_0 _ _ _ _ _ (wq_sp_t hsp)
-- BorderDesk.madeIn(II)Z
def kt_B_madeIn_20 (rt : Option wq_V → wq_W → Prop) (xt : Nat → wq_W → Prop) : wq_T := (wq_call ks_B_requireArgument 1 1 6 1 6 (wq_xout 1 6 xt) (wq_aload 0 (wq_get 0 3 (wq_iload 1 (wq_iload 2 (wq_call (wq_rv 4 ks_O_isMadeIn) 3 0 0 1 6 (wq_xout 1 6 xt) (wq_zreturn 1 6 rt)))))))
def kt_B_madeIn_19 (rt : Option wq_V → wq_W → Prop) (xt : Nat → wq_W → Prop) : wq_T := (wq_iconst (nI 0) (kt_B_madeIn_20 rt xt))
def kt_B_madeIn_0 (rt : Option wq_V → wq_W → Prop) (xt : Nat → wq_W → Prop) : wq_T := (wq_iload 1 (wq_call ks_B_isGood 1 0 0 1 6 (wq_xout 1 6 xt) (wq_f1 (fun x => x = 0) (kt_B_madeIn_19 rt xt) (wq_iload 2 (wq_iconst (nI 4) (wq_call ks_B_isBelow 2 0 0 1 6 (wq_xout 1 6 xt) (wq_f1 (fun x => x = 0) (kt_B_madeIn_19 rt xt) (wq_iconst (nI 1) (kt_B_madeIn_20 rt xt)))))))))
def ks_B_madeIn : wq_S := wq_sp 3 (fun rt xt => kt_B_madeIn_0 rt xt)
set_option maxRecDepth 100000 in
set_option maxHeartbeats 4000000 in
theorem kv_B_madeIn {l : Launch} (hl : l.stackTraces = false) : wq_Vld l kz_cl ky_B_madeIn kw_T ({ frames := 7, cells := 1, slots := 6, locals := 143 }) wq_G0 ks_B_madeIn 1 6 := by
  refine wq_method (cc := kc_B_madeIn) (maxL := 3) (ret := (some .boolean)) (by decide) kw_657 (fun _ _ => rfl) wq_sp_sz ?_
  intro p e s m args below meth c cs D ad as w rt xt hF hnt hsp
  obtain ⟨h0, hr, hts, hown, hlk, hnm, hml, hK, hZ, hN, hA⟩ := hF
  have hown : s.vm.findClass "BorderDesk" = some m.cls := hown
  obtain ⟨A, hAe⟩ : ∃ A, A = wq_A ad w s.heap.size := ⟨_, rfl⟩
  rw [← hAe] at hZ hA ⊢
  have hb_20 : wq_Snd p l e ({ frames := 7, cells := 1, slots := 6, locals := 143 } : Room) s m args below meth c 3 cs D kz_cl A (wq_G0 ad w) (wq_Q cs D kz_cl A (wq_G0 ad w) rt xt below s 1 6) 20 (kt_B_madeIn_20 rt xt) := by
    refine wq_call_ok hA (wq_runS ⟨h0.1, h0.2, hml, hown, hts⟩ (kv_B_requireArgument hl) ⟨(wq_cB hts kw_G kw_413 kw_1 kw_411 ⟨by decide +kernel, by decide +kernel, by decide +kernel⟩ rfl rfl ⟨Nat.le_of_ble_eq_true rfl, Nat.le_of_ble_eq_true rfl⟩), hts _ kw_412⟩ hK hZ hN hA kd_B_madeIn_20) (wq_xout_ok hnt hlk) ?_
    refine wq_aload_n_ok h0 kd_B_madeIn_23 rfl ?_
    refine wq_get_ok (wq_getOK h0 hts ki_B hown hK (ci := 0) rfl 3 (Nat.le_of_ble_eq_true rfl) kw_373 rfl) kd_B_madeIn_24 ?_
    refine wq_iload_n_ok h0 kd_B_madeIn_27 rfl ?_
    refine wq_iload_n_ok h0 kd_B_madeIn_28 rfl ?_
    refine wq_call_ok hA (wq_runV (ci := 4) ⟨h0.1, h0.2, hml, hown, hts⟩ (kv_O_isMadeIn hl) ⟨(wq_cB hts kw_G kw_661 kw_5 kw_658 ⟨by decide +kernel, by decide +kernel, by decide +kernel⟩ rfl rfl ⟨Nat.le_of_ble_eq_true rfl, Nat.le_of_ble_eq_true rfl⟩), hts _ kw_659, hts _ kw_660⟩ rfl rfl hK hZ hN hA kd_B_madeIn_29) (wq_xout_ok hnt hlk) ?_
    exact wq_zreturn_ok h0 hr hlk kd_B_madeIn_32
  have hb_19 : wq_Snd p l e ({ frames := 7, cells := 1, slots := 6, locals := 143 } : Room) s m args below meth c 3 cs D kz_cl A (wq_G0 ad w) (wq_Q cs D kz_cl A (wq_G0 ad w) rt xt below s 1 6) 19 (kt_B_madeIn_19 rt xt) := by
    refine wq_iconst_ok h0 kd_B_madeIn_19 (by decide +kernel) ?_
    exact hb_20
  have hb_0 : wq_Snd p l e ({ frames := 7, cells := 1, slots := 6, locals := 143 } : Room) s m args below meth c 3 cs D kz_cl A (wq_G0 ad w) (wq_Q cs D kz_cl A (wq_G0 ad w) rt xt below s 1 6) 0 (kt_B_madeIn_0 rt xt) := by
    refine wq_iload_n_ok h0 kd_B_madeIn_0 rfl ?_
    refine wq_call_ok hA (wq_runS ⟨h0.1, h0.2, hml, hown, hts⟩ (kv_B_isGood hl) ⟨(wq_cB hts kw_G kw_531 kw_1 kw_529 ⟨by decide +kernel, by decide +kernel, by decide +kernel⟩ rfl rfl ⟨Nat.le_of_ble_eq_true rfl, Nat.le_of_ble_eq_true rfl⟩), hts _ kw_530⟩ hK hZ hN hA kd_B_madeIn_1) (wq_xout_ok hnt hlk) ?_
    refine wq_if_eq_ok (tgt := 19) h0 kd_B_madeIn_4 (by decide) ?_ ?_
    · exact hb_19
    refine wq_iload_n_ok h0 kd_B_madeIn_7 rfl ?_
    refine wq_iconst_ok h0 kd_B_madeIn_8 (by decide +kernel) ?_
    refine wq_call_ok hA (wq_runS ⟨h0.1, h0.2, hml, hown, hts⟩ (kv_B_isBelow hl) ⟨(wq_cB hts kw_G kw_410 kw_1 kw_408 ⟨by decide +kernel, by decide +kernel, by decide +kernel⟩ rfl rfl ⟨Nat.le_of_ble_eq_true rfl, Nat.le_of_ble_eq_true rfl⟩), hts _ kw_409⟩ hK hZ hN hA kd_B_madeIn_9) (wq_xout_ok hnt hlk) ?_
    refine wq_if_eq_ok (tgt := 19) h0 kd_B_madeIn_12 (by decide) ?_ ?_
    · exact hb_19
    refine wq_iconst_ok h0 kd_B_madeIn_15 (by decide +kernel) ?_
    refine wq_goto_ok (tgt := 20) h0 kd_B_madeIn_16 (by decide) ?_
    exact hb_20
  exact hb_0 _ _ _ _ _ (wq_sp_t hsp)
-- BorderDesk.declare(II)I
def kt_B_declare_34 (rt : Option wq_V → wq_W → Prop) (xt : Nat → wq_W → Prop) : wq_T := (wq_call ks_B_requireState 1 1 6 3 18 (wq_xout 3 18 xt) (wq_aload 0 (wq_get 0 4 (wq_iload 1 (wq_iload 2 (wq_call (wq_rv 5 ks_D_add) 3 0 0 3 18 (wq_xout 3 18 xt) (wq_ireturn 3 18 rt)))))))
def kt_B_declare_33 (rt : Option wq_V → wq_W → Prop) (xt : Nat → wq_W → Prop) : wq_T := (wq_iconst (nI 0) (kt_B_declare_34 rt xt))
def kt_B_declare_0 (rt : Option wq_V → wq_W → Prop) (xt : Nat → wq_W → Prop) : wq_T := (wq_iload 1 (wq_call ks_B_isDay 1 0 0 3 18 (wq_xout 3 18 xt) (wq_call ks_B_requireArgument 1 1 6 3 18 (wq_xout 3 18 xt) (wq_iload 2 (wq_iconst (nI 1440) (wq_call ks_B_isBelow 2 0 0 3 18 (wq_xout 3 18 xt) (wq_call ks_B_requireArgument 1 1 6 3 18 (wq_xout 3 18 xt) (wq_aload 0 (wq_get 0 4 (wq_get 5 0 (wq_iconst (nI 12) (wq_f2 (fun x y => y ≤ x) (kt_B_declare_33 rt xt) (wq_iconst (nI 1) (kt_B_declare_34 rt xt))))))))))))))
def ks_B_declare : wq_S := wq_sp 3 (fun rt xt => kt_B_declare_0 rt xt)
set_option maxRecDepth 100000 in
set_option maxHeartbeats 4000000 in
theorem kv_B_declare {l : Launch} (hl : l.stackTraces = false) : wq_Vld l kz_cl ky_B_declare kw_T ({ frames := 7, cells := 3, slots := 18, locals := 101 }) wq_G0 ks_B_declare 3 18 := by
  refine wq_method (cc := kc_B_declare) (maxL := 3) (ret := (some .int)) (by decide) kw_696 (fun _ _ => rfl) wq_sp_sz ?_
  intro p e s m args below meth c cs D ad as w rt xt hF hnt hsp
  obtain ⟨h0, hr, hts, hown, hlk, hnm, hml, hK, hZ, hN, hA⟩ := hF
  have hown : s.vm.findClass "BorderDesk" = some m.cls := hown
  obtain ⟨A, hAe⟩ : ∃ A, A = wq_A ad w s.heap.size := ⟨_, rfl⟩
  rw [← hAe] at hZ hA ⊢
  have hb_34 : wq_Snd p l e ({ frames := 7, cells := 3, slots := 18, locals := 101 } : Room) s m args below meth c 3 cs D kz_cl A (wq_G0 ad w) (wq_Q cs D kz_cl A (wq_G0 ad w) rt xt below s 3 18) 34 (kt_B_declare_34 rt xt) := by
    refine wq_call_ok hA (wq_runS ⟨h0.1, h0.2, hml, hown, hts⟩ (kv_B_requireState hl) ⟨(wq_cB hts kw_G kw_480 kw_1 kw_478 ⟨by decide +kernel, by decide +kernel, by decide +kernel⟩ rfl rfl ⟨Nat.le_of_ble_eq_true rfl, Nat.le_of_ble_eq_true rfl⟩), hts _ kw_479⟩ hK hZ hN hA kd_B_declare_34) (wq_xout_ok hnt hlk) ?_
    refine wq_aload_n_ok h0 kd_B_declare_37 rfl ?_
    refine wq_get_ok (wq_getOK h0 hts ki_B hown hK (ci := 0) rfl 4 (Nat.le_of_ble_eq_true rfl) kw_374 rfl) kd_B_declare_38 ?_
    refine wq_iload_n_ok h0 kd_B_declare_41 rfl ?_
    refine wq_iload_n_ok h0 kd_B_declare_42 rfl ?_
    refine wq_call_ok hA (wq_runV (ci := 5) ⟨h0.1, h0.2, hml, hown, hts⟩ (kv_D_add hl) ⟨(wq_cB hts kw_G kw_700 kw_6 kw_697 ⟨by decide +kernel, by decide +kernel, by decide +kernel⟩ rfl rfl ⟨Nat.le_of_ble_eq_true rfl, Nat.le_of_ble_eq_true rfl⟩), hts _ kw_698, hts _ kw_699⟩ rfl rfl hK hZ hN hA kd_B_declare_43) (wq_xout_ok hnt hlk) ?_
    exact wq_ireturn_ok h0 hr hlk kd_B_declare_46
  have hb_33 : wq_Snd p l e ({ frames := 7, cells := 3, slots := 18, locals := 101 } : Room) s m args below meth c 3 cs D kz_cl A (wq_G0 ad w) (wq_Q cs D kz_cl A (wq_G0 ad w) rt xt below s 3 18) 33 (kt_B_declare_33 rt xt) := by
    refine wq_iconst_ok h0 kd_B_declare_33 (by decide +kernel) ?_
    exact hb_34
  have hb_0 : wq_Snd p l e ({ frames := 7, cells := 3, slots := 18, locals := 101 } : Room) s m args below meth c 3 cs D kz_cl A (wq_G0 ad w) (wq_Q cs D kz_cl A (wq_G0 ad w) rt xt below s 3 18) 0 (kt_B_declare_0 rt xt) := by
    refine wq_iload_n_ok h0 kd_B_declare_0 rfl ?_
    refine wq_call_ok hA (wq_runS ⟨h0.1, h0.2, hml, hown, hts⟩ (kv_B_isDay hl) ⟨(wq_cB hts kw_G kw_578 kw_1 kw_576 ⟨by decide +kernel, by decide +kernel, by decide +kernel⟩ rfl rfl ⟨Nat.le_of_ble_eq_true rfl, Nat.le_of_ble_eq_true rfl⟩), hts _ kw_577⟩ hK hZ hN hA kd_B_declare_1) (wq_xout_ok hnt hlk) ?_
    refine wq_call_ok hA (wq_runS ⟨h0.1, h0.2, hml, hown, hts⟩ (kv_B_requireArgument hl) ⟨(wq_cB hts kw_G kw_413 kw_1 kw_411 ⟨by decide +kernel, by decide +kernel, by decide +kernel⟩ rfl rfl ⟨Nat.le_of_ble_eq_true rfl, Nat.le_of_ble_eq_true rfl⟩), hts _ kw_412⟩ hK hZ hN hA kd_B_declare_4) (wq_xout_ok hnt hlk) ?_
    refine wq_iload_n_ok h0 kd_B_declare_7 rfl ?_
    refine wq_sipush_ok h0 kd_B_declare_8 (by decide +kernel) ?_
    refine wq_call_ok hA (wq_runS ⟨h0.1, h0.2, hml, hown, hts⟩ (kv_B_isBelow hl) ⟨(wq_cB hts kw_G kw_410 kw_1 kw_408 ⟨by decide +kernel, by decide +kernel, by decide +kernel⟩ rfl rfl ⟨Nat.le_of_ble_eq_true rfl, Nat.le_of_ble_eq_true rfl⟩), hts _ kw_409⟩ hK hZ hN hA kd_B_declare_11) (wq_xout_ok hnt hlk) ?_
    refine wq_call_ok hA (wq_runS ⟨h0.1, h0.2, hml, hown, hts⟩ (kv_B_requireArgument hl) ⟨(wq_cB hts kw_G kw_413 kw_1 kw_411 ⟨by decide +kernel, by decide +kernel, by decide +kernel⟩ rfl rfl ⟨Nat.le_of_ble_eq_true rfl, Nat.le_of_ble_eq_true rfl⟩), hts _ kw_412⟩ hK hZ hN hA kd_B_declare_14) (wq_xout_ok hnt hlk) ?_
    refine wq_aload_n_ok h0 kd_B_declare_17 rfl ?_
    refine wq_get_ok (wq_getOK h0 hts ki_B hown hK (ci := 0) rfl 4 (Nat.le_of_ble_eq_true rfl) kw_374 rfl) kd_B_declare_18 ?_
    refine wq_get_ok (wq_getOK h0 hts ki_D hown hK (ci := 5) rfl 0 (Nat.le_of_ble_eq_true rfl) kw_196 rfl) kd_B_declare_21 ?_
    refine wq_bipush_ok h0 kd_B_declare_24 (by decide +kernel) ?_
    refine wq_icmp_ge_ok (tgt := 33) h0 kd_B_declare_26 (by decide) ?_ ?_
    · exact hb_33
    refine wq_iconst_ok h0 kd_B_declare_29 (by decide +kernel) ?_
    refine wq_goto_ok (tgt := 34) h0 kd_B_declare_30 (by decide) ?_
    exact hb_34
  exact hb_0 _ _ _ _ _ (wq_sp_t hsp)
-- BorderDesk.line(IIIIIIZ)I
def kt_B_line_95 (rt : Option wq_V → wq_W → Prop) (xt : Nat → wq_W → Prop) : wq_T := (wq_call ks_B_requireState 1 1 6 6 36 (wq_xout 6 36 xt) (wq_aload 0 (wq_get 0 4 (wq_iload 1 (wq_iload 2 (wq_iload 3 (wq_iload 4 (wq_iload 5 (wq_iload 6 (wq_iload 7 (wq_call (wq_rv 5 wq_no) 8 0 0 6 36 (wq_xout 6 36 xt) (wq_ireturn 6 36 rt))))))))))))
def kt_B_line_94 (rt : Option wq_V → wq_W → Prop) (xt : Nat → wq_W → Prop) : wq_T := (wq_iconst (nI 0) (kt_B_line_95 rt xt))
def kt_B_line_74 (rt : Option wq_V → wq_W → Prop) (xt : Nat → wq_W → Prop) : wq_T := (wq_call ks_B_requireState 1 1 6 6 36 (wq_xout 6 36 xt) (wq_aload 0 (wq_get 0 4 (wq_get 5 3 (wq_iload 1 (wq_iald (wq_iconst (nI 4) (wq_f2 (fun x y => y ≤ x) (kt_B_line_94 rt xt) (wq_iconst (nI 1) (kt_B_line_95 rt xt))))))))))
def kt_B_line_73 (rt : Option wq_V → wq_W → Prop) (xt : Nat → wq_W → Prop) : wq_T := (wq_iconst (nI 0) (kt_B_line_74 rt xt))
def kt_B_line_27 (rt : Option wq_V → wq_W → Prop) (xt : Nat → wq_W → Prop) : wq_T := (wq_call ks_B_requireArgument 1 1 6 6 36 (wq_xout 6 36 xt) (wq_iconst (nI 0) (wq_iload 4 (wq_call ks_D_isInBounds 2 0 0 6 36 (wq_xout 6 36 xt) (wq_call ks_B_requireArgument 1 1 6 6 36 (wq_xout 6 36 xt) (wq_iconst (nI 1) (wq_iload 5 (wq_call ks_D_isInBounds 2 0 0 6 36 (wq_xout 6 36 xt) (wq_call ks_B_requireArgument 1 1 6 6 36 (wq_xout 6 36 xt) (wq_iconst (nI 2) (wq_iload 6 (wq_call ks_D_isInBounds 2 0 0 6 36 (wq_xout 6 36 xt) (wq_call ks_B_requireArgument 1 1 6 6 36 (wq_xout 6 36 xt) (wq_aload 0 (wq_get 0 4 (wq_get 5 5 (wq_iload 1 (wq_zald (wq_f1 (fun x => x = 0) (wq_iconst (nI 1) (kt_B_line_74 rt xt)) (kt_B_line_73 rt xt))))))))))))))))))))
def kt_B_line_26 (rt : Option wq_V → wq_W → Prop) (xt : Nat → wq_W → Prop) : wq_T := (wq_iconst (nI 0) (kt_B_line_27 rt xt))
def kt_B_line_0 (rt : Option wq_V → wq_W → Prop) (xt : Nat → wq_W → Prop) : wq_T := (wq_aload 0 (wq_iload 1 (wq_call (wq_rv 0 ks_B_isDeclaration) 2 0 0 6 36 (wq_xout 6 36 xt) (wq_f1 (fun x => x = 0) (kt_B_line_26 rt xt) (wq_iload 2 (wq_call ks_B_isGood 1 0 0 6 36 (wq_xout 6 36 xt) (wq_f1 (fun x => x = 0) (kt_B_line_26 rt xt) (wq_iload 3 (wq_call ks_B_isLand 1 0 0 6 36 (wq_xout 6 36 xt) (wq_f1 (fun x => x = 0) (kt_B_line_26 rt xt) (wq_iconst (nI 1) (kt_B_line_27 rt xt))))))))))))
def ks_B_line : wq_S := wq_sp 8 (fun rt xt => kt_B_line_0 rt xt)
set_option maxRecDepth 100000 in
set_option maxHeartbeats 4000000 in
theorem kv_B_line {l : Launch} (hl : l.stackTraces = false) : wq_Vld l kz_cl ky_B_line kw_T ({ frames := 7, cells := 6, slots := 36, locals := 101 }) wq_G0 ks_B_line 6 36 := by
  refine wq_method (cc := kc_B_line) (maxL := 8) (ret := (some .int)) (by decide) kw_707 (fun _ _ => rfl) wq_sp_sz ?_
  intro p e s m args below meth c cs D ad as w rt xt hF hnt hsp
  obtain ⟨h0, hr, hts, hown, hlk, hnm, hml, hK, hZ, hN, hA⟩ := hF
  have hown : s.vm.findClass "BorderDesk" = some m.cls := hown
  obtain ⟨A, hAe⟩ : ∃ A, A = wq_A ad w s.heap.size := ⟨_, rfl⟩
  rw [← hAe] at hZ hA ⊢
  have hb_95 : wq_Snd p l e ({ frames := 7, cells := 6, slots := 36, locals := 101 } : Room) s m args below meth c 8 cs D kz_cl A (wq_G0 ad w) (wq_Q cs D kz_cl A (wq_G0 ad w) rt xt below s 6 36) 95 (kt_B_line_95 rt xt) := by
    refine wq_call_ok hA (wq_runS ⟨h0.1, h0.2, hml, hown, hts⟩ (kv_B_requireState hl) ⟨(wq_cB hts kw_G kw_480 kw_1 kw_478 ⟨by decide +kernel, by decide +kernel, by decide +kernel⟩ rfl rfl ⟨Nat.le_of_ble_eq_true rfl, Nat.le_of_ble_eq_true rfl⟩), hts _ kw_479⟩ hK hZ hN hA kd_B_line_95) (wq_xout_ok hnt hlk) ?_
    refine wq_aload_n_ok h0 kd_B_line_98 rfl ?_
    refine wq_get_ok (wq_getOK h0 hts ki_B hown hK (ci := 0) rfl 4 (Nat.le_of_ble_eq_true rfl) kw_374 rfl) kd_B_line_99 ?_
    refine wq_iload_n_ok h0 kd_B_line_102 rfl ?_
    refine wq_iload_n_ok h0 kd_B_line_103 rfl ?_
    refine wq_iload_n_ok h0 kd_B_line_104 rfl ?_
    refine wq_iload_ok h0 kd_B_line_105 ?_
    refine wq_iload_ok h0 kd_B_line_107 ?_
    refine wq_iload_ok h0 kd_B_line_109 ?_
    refine wq_iload_ok h0 kd_B_line_111 ?_
    refine wq_call_ok hA (wq_runV (ci := 5) ⟨h0.1, h0.2, hml, hown, hts⟩ (wq_no_ok (y := ({ cls := "BorderDesk$Declarations", name := "addLine", desc := "(IIIIIIZ)I" } : Jvm.MethodName)) (ws := kw_T) (rm := { frames := 0, cells := 0, slots := 0, locals := 0 }) (mc := 0) (ms := 0)) ⟨(wq_cB hts kw_G kw_721 kw_6 kw_718 ⟨by decide +kernel, by decide +kernel, by decide +kernel⟩ rfl rfl ⟨Nat.le_of_ble_eq_true rfl, Nat.le_of_ble_eq_true rfl⟩), hts _ kw_719, hts _ kw_720⟩ rfl rfl hK hZ hN hA kd_B_line_113) (wq_xout_ok hnt hlk) ?_
    exact wq_ireturn_ok h0 hr hlk kd_B_line_116
  have hb_94 : wq_Snd p l e ({ frames := 7, cells := 6, slots := 36, locals := 101 } : Room) s m args below meth c 8 cs D kz_cl A (wq_G0 ad w) (wq_Q cs D kz_cl A (wq_G0 ad w) rt xt below s 6 36) 94 (kt_B_line_94 rt xt) := by
    refine wq_iconst_ok h0 kd_B_line_94 (by decide +kernel) ?_
    exact hb_95
  have hb_74 : wq_Snd p l e ({ frames := 7, cells := 6, slots := 36, locals := 101 } : Room) s m args below meth c 8 cs D kz_cl A (wq_G0 ad w) (wq_Q cs D kz_cl A (wq_G0 ad w) rt xt below s 6 36) 74 (kt_B_line_74 rt xt) := by
    refine wq_call_ok hA (wq_runS ⟨h0.1, h0.2, hml, hown, hts⟩ (kv_B_requireState hl) ⟨(wq_cB hts kw_G kw_480 kw_1 kw_478 ⟨by decide +kernel, by decide +kernel, by decide +kernel⟩ rfl rfl ⟨Nat.le_of_ble_eq_true rfl, Nat.le_of_ble_eq_true rfl⟩), hts _ kw_479⟩ hK hZ hN hA kd_B_line_74) (wq_xout_ok hnt hlk) ?_
    refine wq_aload_n_ok h0 kd_B_line_77 rfl ?_
    refine wq_get_ok (wq_getOK h0 hts ki_B hown hK (ci := 0) rfl 4 (Nat.le_of_ble_eq_true rfl) kw_374 rfl) kd_B_line_78 ?_
    refine wq_get_ok (wq_getOK h0 hts ki_D hown hK (ci := 5) rfl 3 (Nat.le_of_ble_eq_true rfl) kw_202 rfl) kd_B_line_81 ?_
    refine wq_iload_n_ok h0 kd_B_line_84 rfl ?_
    refine wq_iald_ok h0 hK kd_B_line_85 ?_
    refine wq_iconst_ok h0 kd_B_line_86 (by decide +kernel) ?_
    refine wq_icmp_ge_ok (tgt := 94) h0 kd_B_line_87 (by decide) ?_ ?_
    · exact hb_94
    refine wq_iconst_ok h0 kd_B_line_90 (by decide +kernel) ?_
    refine wq_goto_ok (tgt := 95) h0 kd_B_line_91 (by decide) ?_
    exact hb_95
  have hb_73 : wq_Snd p l e ({ frames := 7, cells := 6, slots := 36, locals := 101 } : Room) s m args below meth c 8 cs D kz_cl A (wq_G0 ad w) (wq_Q cs D kz_cl A (wq_G0 ad w) rt xt below s 6 36) 73 (kt_B_line_73 rt xt) := by
    refine wq_iconst_ok h0 kd_B_line_73 (by decide +kernel) ?_
    exact hb_74
  have hb_27 : wq_Snd p l e ({ frames := 7, cells := 6, slots := 36, locals := 101 } : Room) s m args below meth c 8 cs D kz_cl A (wq_G0 ad w) (wq_Q cs D kz_cl A (wq_G0 ad w) rt xt below s 6 36) 27 (kt_B_line_27 rt xt) := by
    refine wq_call_ok hA (wq_runS ⟨h0.1, h0.2, hml, hown, hts⟩ (kv_B_requireArgument hl) ⟨(wq_cB hts kw_G kw_413 kw_1 kw_411 ⟨by decide +kernel, by decide +kernel, by decide +kernel⟩ rfl rfl ⟨Nat.le_of_ble_eq_true rfl, Nat.le_of_ble_eq_true rfl⟩), hts _ kw_412⟩ hK hZ hN hA kd_B_line_27) (wq_xout_ok hnt hlk) ?_
    refine wq_iconst_ok h0 kd_B_line_30 (by decide +kernel) ?_
    refine wq_iload_ok h0 kd_B_line_31 ?_
    refine wq_call_ok hA (wq_runS ⟨h0.1, h0.2, hml, hown, hts⟩ (kv_D_isInBounds hl) ⟨(wq_cB hts kw_G kw_714 kw_6 kw_712 ⟨by decide +kernel, by decide +kernel, by decide +kernel⟩ rfl rfl ⟨Nat.le_of_ble_eq_true rfl, Nat.le_of_ble_eq_true rfl⟩), hts _ kw_713⟩ hK hZ hN hA kd_B_line_33) (wq_xout_ok hnt hlk) ?_
    refine wq_call_ok hA (wq_runS ⟨h0.1, h0.2, hml, hown, hts⟩ (kv_B_requireArgument hl) ⟨(wq_cB hts kw_G kw_413 kw_1 kw_411 ⟨by decide +kernel, by decide +kernel, by decide +kernel⟩ rfl rfl ⟨Nat.le_of_ble_eq_true rfl, Nat.le_of_ble_eq_true rfl⟩), hts _ kw_412⟩ hK hZ hN hA kd_B_line_36) (wq_xout_ok hnt hlk) ?_
    refine wq_iconst_ok h0 kd_B_line_39 (by decide +kernel) ?_
    refine wq_iload_ok h0 kd_B_line_40 ?_
    refine wq_call_ok hA (wq_runS ⟨h0.1, h0.2, hml, hown, hts⟩ (kv_D_isInBounds hl) ⟨(wq_cB hts kw_G kw_714 kw_6 kw_712 ⟨by decide +kernel, by decide +kernel, by decide +kernel⟩ rfl rfl ⟨Nat.le_of_ble_eq_true rfl, Nat.le_of_ble_eq_true rfl⟩), hts _ kw_713⟩ hK hZ hN hA kd_B_line_42) (wq_xout_ok hnt hlk) ?_
    refine wq_call_ok hA (wq_runS ⟨h0.1, h0.2, hml, hown, hts⟩ (kv_B_requireArgument hl) ⟨(wq_cB hts kw_G kw_413 kw_1 kw_411 ⟨by decide +kernel, by decide +kernel, by decide +kernel⟩ rfl rfl ⟨Nat.le_of_ble_eq_true rfl, Nat.le_of_ble_eq_true rfl⟩), hts _ kw_412⟩ hK hZ hN hA kd_B_line_45) (wq_xout_ok hnt hlk) ?_
    refine wq_iconst_ok h0 kd_B_line_48 (by decide +kernel) ?_
    refine wq_iload_ok h0 kd_B_line_49 ?_
    refine wq_call_ok hA (wq_runS ⟨h0.1, h0.2, hml, hown, hts⟩ (kv_D_isInBounds hl) ⟨(wq_cB hts kw_G kw_714 kw_6 kw_712 ⟨by decide +kernel, by decide +kernel, by decide +kernel⟩ rfl rfl ⟨Nat.le_of_ble_eq_true rfl, Nat.le_of_ble_eq_true rfl⟩), hts _ kw_713⟩ hK hZ hN hA kd_B_line_51) (wq_xout_ok hnt hlk) ?_
    refine wq_call_ok hA (wq_runS ⟨h0.1, h0.2, hml, hown, hts⟩ (kv_B_requireArgument hl) ⟨(wq_cB hts kw_G kw_413 kw_1 kw_411 ⟨by decide +kernel, by decide +kernel, by decide +kernel⟩ rfl rfl ⟨Nat.le_of_ble_eq_true rfl, Nat.le_of_ble_eq_true rfl⟩), hts _ kw_412⟩ hK hZ hN hA kd_B_line_54) (wq_xout_ok hnt hlk) ?_
    refine wq_aload_n_ok h0 kd_B_line_57 rfl ?_
    refine wq_get_ok (wq_getOK h0 hts ki_B hown hK (ci := 0) rfl 4 (Nat.le_of_ble_eq_true rfl) kw_374 rfl) kd_B_line_58 ?_
    refine wq_get_ok (wq_getOK h0 hts ki_D hown hK (ci := 5) rfl 5 (Nat.le_of_ble_eq_true rfl) kw_207 rfl) kd_B_line_61 ?_
    refine wq_iload_n_ok h0 kd_B_line_64 rfl ?_
    refine wq_zald_ok h0 hK kd_B_line_65 ?_
    refine wq_if_ne_ok (tgt := 73) h0 kd_B_line_66 (by decide) ?_ ?_
    · exact hb_73
    refine wq_iconst_ok h0 kd_B_line_69 (by decide +kernel) ?_
    refine wq_goto_ok (tgt := 74) h0 kd_B_line_70 (by decide) ?_
    exact hb_74
  have hb_26 : wq_Snd p l e ({ frames := 7, cells := 6, slots := 36, locals := 101 } : Room) s m args below meth c 8 cs D kz_cl A (wq_G0 ad w) (wq_Q cs D kz_cl A (wq_G0 ad w) rt xt below s 6 36) 26 (kt_B_line_26 rt xt) := by
    refine wq_iconst_ok h0 kd_B_line_26 (by decide +kernel) ?_
    exact hb_27
  have hb_0 : wq_Snd p l e ({ frames := 7, cells := 6, slots := 36, locals := 101 } : Room) s m args below meth c 8 cs D kz_cl A (wq_G0 ad w) (wq_Q cs D kz_cl A (wq_G0 ad w) rt xt below s 6 36) 0 (kt_B_line_0 rt xt) := by
    refine wq_aload_n_ok h0 kd_B_line_0 rfl ?_
    refine wq_iload_n_ok h0 kd_B_line_1 rfl ?_
    refine wq_call_ok hA (wq_runV (ci := 0) ⟨h0.1, h0.2, hml, hown, hts⟩ (kv_B_isDeclaration hl) ⟨(wq_cB hts kw_G kw_711 kw_1 kw_708 ⟨by decide +kernel, by decide +kernel, by decide +kernel⟩ rfl rfl ⟨Nat.le_of_ble_eq_true rfl, Nat.le_of_ble_eq_true rfl⟩), hts _ kw_710, hts _ kw_s12⟩ rfl rfl hK hZ hN hA kd_B_line_2) (wq_xout_ok hnt hlk) ?_
    refine wq_if_eq_ok (tgt := 26) h0 kd_B_line_5 (by decide) ?_ ?_
    · exact hb_26
    refine wq_iload_n_ok h0 kd_B_line_8 rfl ?_
    refine wq_call_ok hA (wq_runS ⟨h0.1, h0.2, hml, hown, hts⟩ (kv_B_isGood hl) ⟨(wq_cB hts kw_G kw_531 kw_1 kw_529 ⟨by decide +kernel, by decide +kernel, by decide +kernel⟩ rfl rfl ⟨Nat.le_of_ble_eq_true rfl, Nat.le_of_ble_eq_true rfl⟩), hts _ kw_530⟩ hK hZ hN hA kd_B_line_9) (wq_xout_ok hnt hlk) ?_
    refine wq_if_eq_ok (tgt := 26) h0 kd_B_line_12 (by decide) ?_ ?_
    · exact hb_26
    refine wq_iload_n_ok h0 kd_B_line_15 rfl ?_
    refine wq_call_ok hA (wq_runS ⟨h0.1, h0.2, hml, hown, hts⟩ (kv_B_isLand hl) ⟨(wq_cB hts kw_G kw_575 kw_1 kw_573 ⟨by decide +kernel, by decide +kernel, by decide +kernel⟩ rfl rfl ⟨Nat.le_of_ble_eq_true rfl, Nat.le_of_ble_eq_true rfl⟩), hts _ kw_574⟩ hK hZ hN hA kd_B_line_16) (wq_xout_ok hnt hlk) ?_
    refine wq_if_eq_ok (tgt := 26) h0 kd_B_line_19 (by decide) ?_ ?_
    · exact hb_26
    refine wq_iconst_ok h0 kd_B_line_22 (by decide +kernel) ?_
    refine wq_goto_ok (tgt := 27) h0 kd_B_line_23 (by decide) ?_
    exact hb_27
  exact hb_0 _ _ _ _ _ (wq_sp_t hsp)
-- BorderDesk.charge(III)V
def kt_B_charge_43 (rt : Option wq_V → wq_W → Prop) (xt : Nat → wq_W → Prop) : wq_T := (wq_call ks_B_requireState 1 1 6 4 24 (wq_xout 4 24 xt) (wq_aload 0 (wq_get 0 4 (wq_get 5 4 (wq_iload 1 (wq_aald (wq_iload 2 (wq_iload 3 (wq_iast (wq_vreturn 4 24 rt))))))))))
def kt_B_charge_42 (rt : Option wq_V → wq_W → Prop) (xt : Nat → wq_W → Prop) : wq_T := (wq_iconst (nI 0) (kt_B_charge_43 rt xt))
def kt_B_charge_0 (rt : Option wq_V → wq_W → Prop) (xt : Nat → wq_W → Prop) : wq_T := (wq_aload 0 (wq_iload 1 (wq_call (wq_rv 0 ks_B_isDeclaration) 2 0 0 4 24 (wq_xout 4 24 xt) (wq_call ks_B_requireArgument 1 1 6 4 24 (wq_xout 4 24 xt) (wq_iload 2 (wq_iconst (nI 2) (wq_call ks_B_isBelow 2 0 0 4 24 (wq_xout 4 24 xt) (wq_call ks_B_requireArgument 1 1 6 4 24 (wq_xout 4 24 xt) (wq_iload 3 (wq_iconst (nI 0) (wq_iconst (10000000) (wq_call ks_B_isWithin 3 0 0 4 24 (wq_xout 4 24 xt) (wq_call ks_B_requireArgument 1 1 6 4 24 (wq_xout 4 24 xt) (wq_aload 0 (wq_get 0 4 (wq_get 5 5 (wq_iload 1 (wq_zald (wq_f1 (fun x => x = 0) (wq_iconst (nI 1) (kt_B_charge_43 rt xt)) (kt_B_charge_42 rt xt))))))))))))))))))))
def ks_B_charge : wq_S := wq_sp 4 (fun rt xt => kt_B_charge_0 rt xt)
set_option maxRecDepth 100000 in
set_option maxHeartbeats 4000000 in
theorem kv_B_charge {l : Launch} (hl : l.stackTraces = false) : wq_Vld l kz_cl ky_B_charge kw_T ({ frames := 7, cells := 4, slots := 24, locals := 101 }) wq_G0 ks_B_charge 4 24 := by
  refine wq_method (cc := kc_B_charge) (maxL := 4) (ret := none) (by decide) kw_731 (fun _ _ => rfl) wq_sp_sz ?_
  intro p e s m args below meth c cs D ad as w rt xt hF hnt hsp
  obtain ⟨h0, hr, hts, hown, hlk, hnm, hml, hK, hZ, hN, hA⟩ := hF
  have hown : s.vm.findClass "BorderDesk" = some m.cls := hown
  obtain ⟨A, hAe⟩ : ∃ A, A = wq_A ad w s.heap.size := ⟨_, rfl⟩
  rw [← hAe] at hZ hA ⊢
  have hb_43 : wq_Snd p l e ({ frames := 7, cells := 4, slots := 24, locals := 101 } : Room) s m args below meth c 4 cs D kz_cl A (wq_G0 ad w) (wq_Q cs D kz_cl A (wq_G0 ad w) rt xt below s 4 24) 43 (kt_B_charge_43 rt xt) := by
    refine wq_call_ok hA (wq_runS ⟨h0.1, h0.2, hml, hown, hts⟩ (kv_B_requireState hl) ⟨(wq_cB hts kw_G kw_480 kw_1 kw_478 ⟨by decide +kernel, by decide +kernel, by decide +kernel⟩ rfl rfl ⟨Nat.le_of_ble_eq_true rfl, Nat.le_of_ble_eq_true rfl⟩), hts _ kw_479⟩ hK hZ hN hA kd_B_charge_43) (wq_xout_ok hnt hlk) ?_
    refine wq_aload_n_ok h0 kd_B_charge_46 rfl ?_
    refine wq_get_ok (wq_getOK h0 hts ki_B hown hK (ci := 0) rfl 4 (Nat.le_of_ble_eq_true rfl) kw_374 rfl) kd_B_charge_47 ?_
    refine wq_get_ok (wq_getOK h0 hts ki_D hown hK (ci := 5) rfl 4 (Nat.le_of_ble_eq_true rfl) kw_205 rfl) kd_B_charge_50 ?_
    refine wq_iload_n_ok h0 kd_B_charge_53 rfl ?_
    refine wq_aald_ok h0 hK kd_B_charge_54 ?_
    refine wq_iload_n_ok h0 kd_B_charge_55 rfl ?_
    refine wq_iload_n_ok h0 kd_B_charge_56 rfl ?_
    refine wq_iast_ok h0 hK kd_B_charge_57 ?_
    exact wq_vreturn_ok h0 hr hlk kd_B_charge_58
  have hb_42 : wq_Snd p l e ({ frames := 7, cells := 4, slots := 24, locals := 101 } : Room) s m args below meth c 4 cs D kz_cl A (wq_G0 ad w) (wq_Q cs D kz_cl A (wq_G0 ad w) rt xt below s 4 24) 42 (kt_B_charge_42 rt xt) := by
    refine wq_iconst_ok h0 kd_B_charge_42 (by decide +kernel) ?_
    exact hb_43
  have hb_0 : wq_Snd p l e ({ frames := 7, cells := 4, slots := 24, locals := 101 } : Room) s m args below meth c 4 cs D kz_cl A (wq_G0 ad w) (wq_Q cs D kz_cl A (wq_G0 ad w) rt xt below s 4 24) 0 (kt_B_charge_0 rt xt) := by
    refine wq_aload_n_ok h0 kd_B_charge_0 rfl ?_
    refine wq_iload_n_ok h0 kd_B_charge_1 rfl ?_
    refine wq_call_ok hA (wq_runV (ci := 0) ⟨h0.1, h0.2, hml, hown, hts⟩ (kv_B_isDeclaration hl) ⟨(wq_cB hts kw_G kw_711 kw_1 kw_708 ⟨by decide +kernel, by decide +kernel, by decide +kernel⟩ rfl rfl ⟨Nat.le_of_ble_eq_true rfl, Nat.le_of_ble_eq_true rfl⟩), hts _ kw_710, hts _ kw_s12⟩ rfl rfl hK hZ hN hA kd_B_charge_2) (wq_xout_ok hnt hlk) ?_
    refine wq_call_ok hA (wq_runS ⟨h0.1, h0.2, hml, hown, hts⟩ (kv_B_requireArgument hl) ⟨(wq_cB hts kw_G kw_413 kw_1 kw_411 ⟨by decide +kernel, by decide +kernel, by decide +kernel⟩ rfl rfl ⟨Nat.le_of_ble_eq_true rfl, Nat.le_of_ble_eq_true rfl⟩), hts _ kw_412⟩ hK hZ hN hA kd_B_charge_5) (wq_xout_ok hnt hlk) ?_
    refine wq_iload_n_ok h0 kd_B_charge_8 rfl ?_
    refine wq_iconst_ok h0 kd_B_charge_9 (by decide +kernel) ?_
    refine wq_call_ok hA (wq_runS ⟨h0.1, h0.2, hml, hown, hts⟩ (kv_B_isBelow hl) ⟨(wq_cB hts kw_G kw_410 kw_1 kw_408 ⟨by decide +kernel, by decide +kernel, by decide +kernel⟩ rfl rfl ⟨Nat.le_of_ble_eq_true rfl, Nat.le_of_ble_eq_true rfl⟩), hts _ kw_409⟩ hK hZ hN hA kd_B_charge_10) (wq_xout_ok hnt hlk) ?_
    refine wq_call_ok hA (wq_runS ⟨h0.1, h0.2, hml, hown, hts⟩ (kv_B_requireArgument hl) ⟨(wq_cB hts kw_G kw_413 kw_1 kw_411 ⟨by decide +kernel, by decide +kernel, by decide +kernel⟩ rfl rfl ⟨Nat.le_of_ble_eq_true rfl, Nat.le_of_ble_eq_true rfl⟩), hts _ kw_412⟩ hK hZ hN hA kd_B_charge_13) (wq_xout_ok hnt hlk) ?_
    refine wq_iload_n_ok h0 kd_B_charge_16 rfl ?_
    refine wq_iconst_ok h0 kd_B_charge_17 (by decide +kernel) ?_
    refine wq_ldc_ok (v := 10000000) h0 hown (hts _ kw_732) kd_B_charge_18 ?_
    refine wq_call_ok hA (wq_runS ⟨h0.1, h0.2, hml, hown, hts⟩ (kv_B_isWithin hl) ⟨(wq_cB hts kw_G kw_517 kw_1 kw_515 ⟨by decide +kernel, by decide +kernel, by decide +kernel⟩ rfl rfl ⟨Nat.le_of_ble_eq_true rfl, Nat.le_of_ble_eq_true rfl⟩), hts _ kw_516⟩ hK hZ hN hA kd_B_charge_20) (wq_xout_ok hnt hlk) ?_
    refine wq_call_ok hA (wq_runS ⟨h0.1, h0.2, hml, hown, hts⟩ (kv_B_requireArgument hl) ⟨(wq_cB hts kw_G kw_413 kw_1 kw_411 ⟨by decide +kernel, by decide +kernel, by decide +kernel⟩ rfl rfl ⟨Nat.le_of_ble_eq_true rfl, Nat.le_of_ble_eq_true rfl⟩), hts _ kw_412⟩ hK hZ hN hA kd_B_charge_23) (wq_xout_ok hnt hlk) ?_
    refine wq_aload_n_ok h0 kd_B_charge_26 rfl ?_
    refine wq_get_ok (wq_getOK h0 hts ki_B hown hK (ci := 0) rfl 4 (Nat.le_of_ble_eq_true rfl) kw_374 rfl) kd_B_charge_27 ?_
    refine wq_get_ok (wq_getOK h0 hts ki_D hown hK (ci := 5) rfl 5 (Nat.le_of_ble_eq_true rfl) kw_207 rfl) kd_B_charge_30 ?_
    refine wq_iload_n_ok h0 kd_B_charge_33 rfl ?_
    refine wq_zald_ok h0 hK kd_B_charge_34 ?_
    refine wq_if_ne_ok (tgt := 42) h0 kd_B_charge_35 (by decide) ?_ ?_
    · exact hb_42
    refine wq_iconst_ok h0 kd_B_charge_38 (by decide +kernel) ?_
    refine wq_goto_ok (tgt := 43) h0 kd_B_charge_39 (by decide) ?_
    exact hb_43
  exact hb_0 _ _ _ _ _ (wq_sp_t hsp)
-- BorderDesk.lineOf(III)J
def kt_B_lineOf_127 (rt : Option wq_V → wq_W → Prop) (xt : Nat → wq_W → Prop) : wq_T := (wq_lreturn 3 18 rt)
def kt_B_lineOf_118 (rt : Option wq_V → wq_W → Prop) (xt : Nat → wq_W → Prop) : wq_T := (wq_aload 0 (wq_get 0 5 (wq_get 6 5 (wq_iload 2 (wq_lald (kt_B_lineOf_127 rt xt))))))
def kt_B_lineOf_81 (rt : Option wq_V → wq_W → Prop) (xt : Nat → wq_W → Prop) : wq_T := (wq_aload 0 (wq_get 0 5 (wq_iload 1 (wq_call (wq_rv 6 wq_no) 2 0 0 3 18 (wq_xout 3 18 xt) (wq_call ks_B_requireElement 1 1 6 3 18 (wq_xout 3 18 xt) (wq_aload 0 (wq_get 0 5 (wq_iload 1 (wq_call (wq_rv 6 wq_no) 2 0 0 3 18 (wq_xout 3 18 xt) (wq_iload 3 (wq_iconst (nI 1) (wq_f2 (fun x y => x = y) (wq_aload 0 (wq_get 0 5 (wq_get 6 4 (wq_iload 2 (wq_iald (wq_i2l (kt_B_lineOf_127 rt xt))))))) (kt_B_lineOf_118 rt xt)))))))))))))
def kt_B_lineOf_80 (rt : Option wq_V → wq_W → Prop) (xt : Nat → wq_W → Prop) : wq_T := (wq_lreturn 3 18 rt)
def kt_B_lineOf_70 (rt : Option wq_V → wq_W → Prop) (xt : Nat → wq_W → Prop) : wq_T := (wq_aload 0 (wq_get 0 4 (wq_get 5 15 (wq_iload 4 (wq_lald (kt_B_lineOf_80 rt xt))))))
def kt_B_lineOf_32 (rt : Option wq_V → wq_W → Prop) (xt : Nat → wq_W → Prop) : wq_T := (wq_aload 0 (wq_get 0 4 (wq_get 5 5 (wq_iload 1 (wq_zald (wq_f1 (fun x => x = 0) (kt_B_lineOf_81 rt xt) (wq_iload 1 (wq_iload 2 (wq_call ks_D_rowOf 2 0 0 3 18 (wq_xout 3 18 xt) (wq_istore 4 (wq_iload 3 (wq_iconst (nI 1) (wq_f2 (fun x y => x = y) (wq_aload 0 (wq_get 0 4 (wq_get 5 14 (wq_iload 4 (wq_iald (wq_i2l (kt_B_lineOf_80 rt xt))))))) (kt_B_lineOf_70 rt xt))))))))))))))
def kt_B_lineOf_0 (rt : Option wq_V → wq_W → Prop) (xt : Nat → wq_W → Prop) : wq_T := (wq_aload 0 (wq_iload 1 (wq_iload 2 (wq_call (wq_rv 0 ks_B_isLine) 3 0 0 3 18 (wq_xout 3 18 xt) (wq_call ks_B_requireArgument 1 1 6 3 18 (wq_xout 3 18 xt) (wq_iload 3 (wq_iconst (nI 0) (wq_iconst (nI 2) (wq_call ks_B_isWithin 3 0 0 3 18 (wq_xout 3 18 xt) (wq_call ks_B_requireArgument 1 1 6 3 18 (wq_xout 3 18 xt) (wq_iload 3 (wq_f1 (fun x => x = 0) (wq_aload 0 (wq_get 0 5 (wq_iload 1 (wq_iload 2 (wq_call (wq_rv 6 wq_no) 3 0 0 3 18 (wq_xout 3 18 xt) (wq_lreturn 3 18 rt)))))) (kt_B_lineOf_32 rt xt)))))))))))))
def ks_B_lineOf : wq_S := wq_sp 5 (fun rt xt => kt_B_lineOf_0 rt xt)
set_option maxRecDepth 100000 in
set_option maxHeartbeats 4000000 in
theorem kv_B_lineOf {l : Launch} (hl : l.stackTraces = false) : wq_Vld l kz_cl ky_B_lineOf kw_T ({ frames := 7, cells := 3, slots := 18, locals := 101 }) wq_G0 ks_B_lineOf 3 18 := by
  refine wq_method (cc := kc_B_lineOf) (maxL := 5) (ret := (some .long)) (by decide) kw_740 (fun _ _ => rfl) wq_sp_sz ?_
  intro p e s m args below meth c cs D ad as w rt xt hF hnt hsp
  obtain ⟨h0, hr, hts, hown, hlk, hnm, hml, hK, hZ, hN, hA⟩ := hF
  have hown : s.vm.findClass "BorderDesk" = some m.cls := hown
  obtain ⟨A, hAe⟩ : ∃ A, A = wq_A ad w s.heap.size := ⟨_, rfl⟩
  rw [← hAe] at hZ hA ⊢
  have hb_127 : wq_Snd p l e ({ frames := 7, cells := 3, slots := 18, locals := 101 } : Room) s m args below meth c 5 cs D kz_cl A (wq_G0 ad w) (wq_Q cs D kz_cl A (wq_G0 ad w) rt xt below s 3 18) 127 (kt_B_lineOf_127 rt xt) := by
    exact wq_lreturn_ok h0 hr hlk kd_B_lineOf_127
  have hb_118 : wq_Snd p l e ({ frames := 7, cells := 3, slots := 18, locals := 101 } : Room) s m args below meth c 5 cs D kz_cl A (wq_G0 ad w) (wq_Q cs D kz_cl A (wq_G0 ad w) rt xt below s 3 18) 118 (kt_B_lineOf_118 rt xt) := by
    refine wq_aload_n_ok h0 kd_B_lineOf_118 rfl ?_
    refine wq_get_ok (wq_getOK h0 hts ki_B hown hK (ci := 0) rfl 5 (Nat.le_of_ble_eq_true rfl) kw_375 rfl) kd_B_lineOf_119 ?_
    refine wq_get_ok (wq_getOK h0 hts ki_A hown hK (ci := 6) rfl 5 (Nat.le_of_ble_eq_true rfl) kw_279 rfl) kd_B_lineOf_122 ?_
    refine wq_iload_n_ok h0 kd_B_lineOf_125 rfl ?_
    refine wq_lald_ok h0 hK kd_B_lineOf_126 ?_
    exact hb_127
  have hb_81 : wq_Snd p l e ({ frames := 7, cells := 3, slots := 18, locals := 101 } : Room) s m args below meth c 5 cs D kz_cl A (wq_G0 ad w) (wq_Q cs D kz_cl A (wq_G0 ad w) rt xt below s 3 18) 81 (kt_B_lineOf_81 rt xt) := by
    refine wq_aload_n_ok h0 kd_B_lineOf_81 rfl ?_
    refine wq_get_ok (wq_getOK h0 hts ki_B hown hK (ci := 0) rfl 5 (Nat.le_of_ble_eq_true rfl) kw_375 rfl) kd_B_lineOf_82 ?_
    refine wq_iload_n_ok h0 kd_B_lineOf_85 rfl ?_
    refine wq_call_ok hA (wq_runV (ci := 6) ⟨h0.1, h0.2, hml, hown, hts⟩ (wq_no_ok (y := ({ cls := "BorderDesk$Assessor", name := "canAssess", desc := "(I)Z" } : Jvm.MethodName)) (ws := kw_T) (rm := { frames := 0, cells := 0, slots := 0, locals := 0 }) (mc := 0) (ms := 0)) ⟨(wq_cB hts kw_G kw_771 kw_7 kw_768 ⟨by decide +kernel, by decide +kernel, by decide +kernel⟩ rfl rfl ⟨Nat.le_of_ble_eq_true rfl, Nat.le_of_ble_eq_true rfl⟩), hts _ kw_769, hts _ kw_770⟩ rfl rfl hK hZ hN hA kd_B_lineOf_86) (wq_xout_ok hnt hlk) ?_
    refine wq_call_ok hA (wq_runS ⟨h0.1, h0.2, hml, hown, hts⟩ (kv_B_requireElement hl) ⟨(wq_cB hts kw_G kw_785 kw_1 kw_783 ⟨by decide +kernel, by decide +kernel, by decide +kernel⟩ rfl rfl ⟨Nat.le_of_ble_eq_true rfl, Nat.le_of_ble_eq_true rfl⟩), hts _ kw_784⟩ hK hZ hN hA kd_B_lineOf_89) (wq_xout_ok hnt hlk) ?_
    refine wq_aload_n_ok h0 kd_B_lineOf_92 rfl ?_
    refine wq_get_ok (wq_getOK h0 hts ki_B hown hK (ci := 0) rfl 5 (Nat.le_of_ble_eq_true rfl) kw_375 rfl) kd_B_lineOf_93 ?_
    refine wq_iload_n_ok h0 kd_B_lineOf_96 rfl ?_
    refine wq_call_ok hA (wq_runV (ci := 6) ⟨h0.1, h0.2, hml, hown, hts⟩ (wq_no_ok (y := ({ cls := "BorderDesk$Assessor", name := "assess", desc := "(I)V" } : Jvm.MethodName)) (ws := kw_T) (rm := { frames := 0, cells := 0, slots := 0, locals := 0 }) (mc := 0) (ms := 0)) ⟨(wq_cB hts kw_G kw_804 kw_7 kw_801 ⟨by decide +kernel, by decide +kernel, by decide +kernel⟩ rfl rfl ⟨Nat.le_of_ble_eq_true rfl, Nat.le_of_ble_eq_true rfl⟩), hts _ kw_802, hts _ kw_803⟩ rfl rfl hK hZ hN hA kd_B_lineOf_97) (wq_xout_ok hnt hlk) ?_
    refine wq_iload_n_ok h0 kd_B_lineOf_100 rfl ?_
    refine wq_iconst_ok h0 kd_B_lineOf_101 (by decide +kernel) ?_
    refine wq_icmp_ne_ok (tgt := 118) h0 kd_B_lineOf_102 (by decide) ?_ ?_
    · exact hb_118
    refine wq_aload_n_ok h0 kd_B_lineOf_105 rfl ?_
    refine wq_get_ok (wq_getOK h0 hts ki_B hown hK (ci := 0) rfl 5 (Nat.le_of_ble_eq_true rfl) kw_375 rfl) kd_B_lineOf_106 ?_
    refine wq_get_ok (wq_getOK h0 hts ki_A hown hK (ci := 6) rfl 4 (Nat.le_of_ble_eq_true rfl) kw_277 rfl) kd_B_lineOf_109 ?_
    refine wq_iload_n_ok h0 kd_B_lineOf_112 rfl ?_
    refine wq_iald_ok h0 hK kd_B_lineOf_113 ?_
    refine wq_i2l_ok h0 kd_B_lineOf_114 ?_
    refine wq_goto_ok (tgt := 127) h0 kd_B_lineOf_115 (by decide) ?_
    exact hb_127
  have hb_80 : wq_Snd p l e ({ frames := 7, cells := 3, slots := 18, locals := 101 } : Room) s m args below meth c 5 cs D kz_cl A (wq_G0 ad w) (wq_Q cs D kz_cl A (wq_G0 ad w) rt xt below s 3 18) 80 (kt_B_lineOf_80 rt xt) := by
    exact wq_lreturn_ok h0 hr hlk kd_B_lineOf_80
  have hb_70 : wq_Snd p l e ({ frames := 7, cells := 3, slots := 18, locals := 101 } : Room) s m args below meth c 5 cs D kz_cl A (wq_G0 ad w) (wq_Q cs D kz_cl A (wq_G0 ad w) rt xt below s 3 18) 70 (kt_B_lineOf_70 rt xt) := by
    refine wq_aload_n_ok h0 kd_B_lineOf_70 rfl ?_
    refine wq_get_ok (wq_getOK h0 hts ki_B hown hK (ci := 0) rfl 4 (Nat.le_of_ble_eq_true rfl) kw_374 rfl) kd_B_lineOf_71 ?_
    refine wq_get_ok (wq_getOK h0 hts ki_D hown hK (ci := 5) rfl 15 (Nat.le_of_ble_eq_true rfl) kw_231 rfl) kd_B_lineOf_74 ?_
    refine wq_iload_ok h0 kd_B_lineOf_77 ?_
    refine wq_lald_ok h0 hK kd_B_lineOf_79 ?_
    exact hb_80
  have hb_32 : wq_Snd p l e ({ frames := 7, cells := 3, slots := 18, locals := 101 } : Room) s m args below meth c 5 cs D kz_cl A (wq_G0 ad w) (wq_Q cs D kz_cl A (wq_G0 ad w) rt xt below s 3 18) 32 (kt_B_lineOf_32 rt xt) := by
    refine wq_aload_n_ok h0 kd_B_lineOf_32 rfl ?_
    refine wq_get_ok (wq_getOK h0 hts ki_B hown hK (ci := 0) rfl 4 (Nat.le_of_ble_eq_true rfl) kw_374 rfl) kd_B_lineOf_33 ?_
    refine wq_get_ok (wq_getOK h0 hts ki_D hown hK (ci := 5) rfl 5 (Nat.le_of_ble_eq_true rfl) kw_207 rfl) kd_B_lineOf_36 ?_
    refine wq_iload_n_ok h0 kd_B_lineOf_39 rfl ?_
    refine wq_zald_ok h0 hK kd_B_lineOf_40 ?_
    refine wq_if_eq_ok (tgt := 81) h0 kd_B_lineOf_41 (by decide) ?_ ?_
    · exact hb_81
    refine wq_iload_n_ok h0 kd_B_lineOf_44 rfl ?_
    refine wq_iload_n_ok h0 kd_B_lineOf_45 rfl ?_
    refine wq_call_ok hA (wq_runS ⟨h0.1, h0.2, hml, hown, hts⟩ (kv_D_rowOf hl) ⟨(wq_cB hts kw_G kw_724 kw_6 kw_767 ⟨by decide +kernel, by decide +kernel, by decide +kernel⟩ rfl rfl ⟨Nat.le_of_ble_eq_true rfl, Nat.le_of_ble_eq_true rfl⟩), hts _ kw_723⟩ hK hZ hN hA kd_B_lineOf_46) (wq_xout_ok hnt hlk) ?_
    refine wq_istore_ok h0 kd_B_lineOf_49 (Nat.le_of_ble_eq_true rfl) ?_
    refine wq_iload_n_ok h0 kd_B_lineOf_51 rfl ?_
    refine wq_iconst_ok h0 kd_B_lineOf_52 (by decide +kernel) ?_
    refine wq_icmp_ne_ok (tgt := 70) h0 kd_B_lineOf_53 (by decide) ?_ ?_
    · exact hb_70
    refine wq_aload_n_ok h0 kd_B_lineOf_56 rfl ?_
    refine wq_get_ok (wq_getOK h0 hts ki_B hown hK (ci := 0) rfl 4 (Nat.le_of_ble_eq_true rfl) kw_374 rfl) kd_B_lineOf_57 ?_
    refine wq_get_ok (wq_getOK h0 hts ki_D hown hK (ci := 5) rfl 14 (Nat.le_of_ble_eq_true rfl) kw_228 rfl) kd_B_lineOf_60 ?_
    refine wq_iload_ok h0 kd_B_lineOf_63 ?_
    refine wq_iald_ok h0 hK kd_B_lineOf_65 ?_
    refine wq_i2l_ok h0 kd_B_lineOf_66 ?_
    refine wq_goto_ok (tgt := 80) h0 kd_B_lineOf_67 (by decide) ?_
    exact hb_80
  have hb_0 : wq_Snd p l e ({ frames := 7, cells := 3, slots := 18, locals := 101 } : Room) s m args below meth c 5 cs D kz_cl A (wq_G0 ad w) (wq_Q cs D kz_cl A (wq_G0 ad w) rt xt below s 3 18) 0 (kt_B_lineOf_0 rt xt) := by
    refine wq_aload_n_ok h0 kd_B_lineOf_0 rfl ?_
    refine wq_iload_n_ok h0 kd_B_lineOf_1 rfl ?_
    refine wq_iload_n_ok h0 kd_B_lineOf_2 rfl ?_
    refine wq_call_ok hA (wq_runV (ci := 0) ⟨h0.1, h0.2, hml, hown, hts⟩ (kv_B_isLine hl) ⟨(wq_cB hts kw_G kw_744 kw_1 kw_741 ⟨by decide +kernel, by decide +kernel, by decide +kernel⟩ rfl rfl ⟨Nat.le_of_ble_eq_true rfl, Nat.le_of_ble_eq_true rfl⟩), hts _ kw_743, hts _ kw_s13⟩ rfl rfl hK hZ hN hA kd_B_lineOf_3) (wq_xout_ok hnt hlk) ?_
    refine wq_call_ok hA (wq_runS ⟨h0.1, h0.2, hml, hown, hts⟩ (kv_B_requireArgument hl) ⟨(wq_cB hts kw_G kw_413 kw_1 kw_411 ⟨by decide +kernel, by decide +kernel, by decide +kernel⟩ rfl rfl ⟨Nat.le_of_ble_eq_true rfl, Nat.le_of_ble_eq_true rfl⟩), hts _ kw_412⟩ hK hZ hN hA kd_B_lineOf_6) (wq_xout_ok hnt hlk) ?_
    refine wq_iload_n_ok h0 kd_B_lineOf_9 rfl ?_
    refine wq_iconst_ok h0 kd_B_lineOf_10 (by decide +kernel) ?_
    refine wq_iconst_ok h0 kd_B_lineOf_11 (by decide +kernel) ?_
    refine wq_call_ok hA (wq_runS ⟨h0.1, h0.2, hml, hown, hts⟩ (kv_B_isWithin hl) ⟨(wq_cB hts kw_G kw_517 kw_1 kw_515 ⟨by decide +kernel, by decide +kernel, by decide +kernel⟩ rfl rfl ⟨Nat.le_of_ble_eq_true rfl, Nat.le_of_ble_eq_true rfl⟩), hts _ kw_516⟩ hK hZ hN hA kd_B_lineOf_12) (wq_xout_ok hnt hlk) ?_
    refine wq_call_ok hA (wq_runS ⟨h0.1, h0.2, hml, hown, hts⟩ (kv_B_requireArgument hl) ⟨(wq_cB hts kw_G kw_413 kw_1 kw_411 ⟨by decide +kernel, by decide +kernel, by decide +kernel⟩ rfl rfl ⟨Nat.le_of_ble_eq_true rfl, Nat.le_of_ble_eq_true rfl⟩), hts _ kw_412⟩ hK hZ hN hA kd_B_lineOf_15) (wq_xout_ok hnt hlk) ?_
    refine wq_iload_n_ok h0 kd_B_lineOf_18 rfl ?_
    refine wq_if_ne_ok (tgt := 32) h0 kd_B_lineOf_19 (by decide) ?_ ?_
    · exact hb_32
    refine wq_aload_n_ok h0 kd_B_lineOf_22 rfl ?_
    refine wq_get_ok (wq_getOK h0 hts ki_B hown hK (ci := 0) rfl 5 (Nat.le_of_ble_eq_true rfl) kw_375 rfl) kd_B_lineOf_23 ?_
    refine wq_iload_n_ok h0 kd_B_lineOf_26 rfl ?_
    refine wq_iload_n_ok h0 kd_B_lineOf_27 rfl ?_
    refine wq_call_ok hA (wq_runV (ci := 6) ⟨h0.1, h0.2, hml, hown, hts⟩ (wq_no_ok (y := ({ cls := "BorderDesk$Assessor", name := "valueOf", desc := "(II)J" } : Jvm.MethodName)) (ws := kw_T) (rm := { frames := 0, cells := 0, slots := 0, locals := 0 }) (mc := 0) (ms := 0)) ⟨(wq_cB hts kw_G kw_748 kw_7 kw_745 ⟨by decide +kernel, by decide +kernel, by decide +kernel⟩ rfl rfl ⟨Nat.le_of_ble_eq_true rfl, Nat.le_of_ble_eq_true rfl⟩), hts _ kw_746, hts _ kw_747⟩ rfl rfl hK hZ hN hA kd_B_lineOf_28) (wq_xout_ok hnt hlk) ?_
    exact wq_lreturn_ok h0 hr hlk kd_B_lineOf_31
  exact hb_0 _ _ _ _ _ (wq_sp_t hsp)
-- BorderDesk.accept(I)J
def kt_B_accept_44 (rt : Option wq_V → wq_W → Prop) (xt : Nat → wq_W → Prop) : wq_T := (wq_call ks_B_requireState 1 1 6 5 30 (wq_xout 5 30 xt) (wq_aload 0 (wq_get 0 5 (wq_iload 1 (wq_call (wq_rv 6 wq_no) 2 0 0 5 30 (wq_xout 5 30 xt) (wq_call ks_B_requireElement 1 1 6 5 30 (wq_xout 5 30 xt) (wq_aload 0 (wq_get 0 6 (wq_get 7 0 (wq_aload 0 (wq_get 0 4 (wq_get 5 3 (wq_iload 1 (wq_iald (wq_i2 (fun x y => x + y) (wq_call ks_B_requireRoom 1 1 6 5 30 (wq_xout 5 30 xt) (wq_aload 0 (wq_get 0 5 (wq_iload 1 (wq_call (wq_rv 6 wq_no) 2 0 0 5 30 (wq_xout 5 30 xt) (wq_aload 0 (wq_get 0 5 (wq_iload 1 (wq_call (wq_rv 6 wq_no) 2 0 0 5 30 (wq_xout 5 30 xt) (wq_aload 0 (wq_get 0 4 (wq_get 5 5 (wq_iload 1 (wq_iconst (nI 1) (wq_zast (wq_aload 0 (wq_iload 1 (wq_call (wq_rv 0 wq_no) 2 0 0 5 30 (wq_xout 5 30 xt) (wq_aload 0 (wq_get 0 4 (wq_iload 1 (wq_call (wq_rv 5 wq_no) 2 0 0 5 30 (wq_xout 5 30 xt) (wq_lreturn 5 30 rt))))))))))))))))))))))))))))))))))))))
def kt_B_accept_43 (rt : Option wq_V → wq_W → Prop) (xt : Nat → wq_W → Prop) : wq_T := (wq_iconst (nI 0) (kt_B_accept_44 rt xt))
def kt_B_accept_25 (rt : Option wq_V → wq_W → Prop) (xt : Nat → wq_W → Prop) : wq_T := (wq_call ks_B_requireState 1 1 6 5 30 (wq_xout 5 30 xt) (wq_aload 0 (wq_get 0 4 (wq_iload 1 (wq_call (wq_rv 5 wq_no) 2 0 0 5 30 (wq_xout 5 30 xt) (wq_f1 (fun x => x = 0) (wq_iconst (nI 1) (kt_B_accept_44 rt xt)) (kt_B_accept_43 rt xt)))))))
def kt_B_accept_24 (rt : Option wq_V → wq_W → Prop) (xt : Nat → wq_W → Prop) : wq_T := (wq_iconst (nI 0) (kt_B_accept_25 rt xt))
def kt_B_accept_0 (rt : Option wq_V → wq_W → Prop) (xt : Nat → wq_W → Prop) : wq_T := (wq_aload 0 (wq_iload 1 (wq_call (wq_rv 0 ks_B_isDeclaration) 2 0 0 5 30 (wq_xout 5 30 xt) (wq_call ks_B_requireArgument 1 1 6 5 30 (wq_xout 5 30 xt) (wq_aload 0 (wq_get 0 4 (wq_get 5 5 (wq_iload 1 (wq_zald (wq_f1 (fun x => x = 0) (wq_iconst (nI 1) (kt_B_accept_25 rt xt)) (kt_B_accept_24 rt xt)))))))))))
def ks_B_accept : wq_S := wq_sp 2 (fun rt xt => kt_B_accept_0 rt xt)
set_option maxRecDepth 100000 in
set_option maxHeartbeats 4000000 in
theorem kv_B_accept {l : Launch} (hl : l.stackTraces = false) : wq_Vld l kz_cl ky_B_accept kw_T ({ frames := 7, cells := 5, slots := 30, locals := 101 }) wq_G0 ks_B_accept 5 30 := by
  refine wq_method (cc := kc_B_accept) (maxL := 2) (ret := (some .long)) (by decide) kw_847 (fun _ _ => rfl) wq_sp_sz ?_
  intro p e s m args below meth c cs D ad as w rt xt hF hnt hsp
  obtain ⟨h0, hr, hts, hown, hlk, hnm, hml, hK, hZ, hN, hA⟩ := hF
  have hown : s.vm.findClass "BorderDesk" = some m.cls := hown
  obtain ⟨A, hAe⟩ : ∃ A, A = wq_A ad w s.heap.size := ⟨_, rfl⟩
  rw [← hAe] at hZ hA ⊢
  have hb_44 : wq_Snd p l e ({ frames := 7, cells := 5, slots := 30, locals := 101 } : Room) s m args below meth c 2 cs D kz_cl A (wq_G0 ad w) (wq_Q cs D kz_cl A (wq_G0 ad w) rt xt below s 5 30) 44 (kt_B_accept_44 rt xt) := by
    refine wq_call_ok hA (wq_runS ⟨h0.1, h0.2, hml, hown, hts⟩ (kv_B_requireState hl) ⟨(wq_cB hts kw_G kw_480 kw_1 kw_478 ⟨by decide +kernel, by decide +kernel, by decide +kernel⟩ rfl rfl ⟨Nat.le_of_ble_eq_true rfl, Nat.le_of_ble_eq_true rfl⟩), hts _ kw_479⟩ hK hZ hN hA kd_B_accept_44) (wq_xout_ok hnt hlk) ?_
    refine wq_aload_n_ok h0 kd_B_accept_47 rfl ?_
    refine wq_get_ok (wq_getOK h0 hts ki_B hown hK (ci := 0) rfl 5 (Nat.le_of_ble_eq_true rfl) kw_375 rfl) kd_B_accept_48 ?_
    refine wq_iload_n_ok h0 kd_B_accept_51 rfl ?_
    refine wq_call_ok hA (wq_runV (ci := 6) ⟨h0.1, h0.2, hml, hown, hts⟩ (wq_no_ok (y := ({ cls := "BorderDesk$Assessor", name := "canAssess", desc := "(I)Z" } : Jvm.MethodName)) (ws := kw_T) (rm := { frames := 0, cells := 0, slots := 0, locals := 0 }) (mc := 0) (ms := 0)) ⟨(wq_cB hts kw_G kw_771 kw_7 kw_768 ⟨by decide +kernel, by decide +kernel, by decide +kernel⟩ rfl rfl ⟨Nat.le_of_ble_eq_true rfl, Nat.le_of_ble_eq_true rfl⟩), hts _ kw_769, hts _ kw_770⟩ rfl rfl hK hZ hN hA kd_B_accept_52) (wq_xout_ok hnt hlk) ?_
    refine wq_call_ok hA (wq_runS ⟨h0.1, h0.2, hml, hown, hts⟩ (kv_B_requireElement hl) ⟨(wq_cB hts kw_G kw_785 kw_1 kw_783 ⟨by decide +kernel, by decide +kernel, by decide +kernel⟩ rfl rfl ⟨Nat.le_of_ble_eq_true rfl, Nat.le_of_ble_eq_true rfl⟩), hts _ kw_784⟩ hK hZ hN hA kd_B_accept_55) (wq_xout_ok hnt hlk) ?_
    refine wq_aload_n_ok h0 kd_B_accept_58 rfl ?_
    refine wq_get_ok (wq_getOK h0 hts ki_B hown hK (ci := 0) rfl 6 (Nat.le_of_ble_eq_true rfl) kw_376 rfl) kd_B_accept_59 ?_
    refine wq_get_ok (wq_getOK h0 hts ki_L hown hK (ci := 7) rfl 0 (Nat.le_of_ble_eq_true rfl) kw_318 rfl) kd_B_accept_62 ?_
    refine wq_aload_n_ok h0 kd_B_accept_65 rfl ?_
    refine wq_get_ok (wq_getOK h0 hts ki_B hown hK (ci := 0) rfl 4 (Nat.le_of_ble_eq_true rfl) kw_374 rfl) kd_B_accept_66 ?_
    refine wq_get_ok (wq_getOK h0 hts ki_D hown hK (ci := 5) rfl 3 (Nat.le_of_ble_eq_true rfl) kw_202 rfl) kd_B_accept_69 ?_
    refine wq_iload_n_ok h0 kd_B_accept_72 rfl ?_
    refine wq_iald_ok h0 hK kd_B_accept_73 ?_
    refine wq_iadd_ok h0 kd_B_accept_74 ?_
    refine wq_call_ok hA (wq_runS ⟨h0.1, h0.2, hml, hown, hts⟩ (kv_B_requireRoom hl) ⟨(wq_cB hts kw_G kw_858 kw_1 kw_856 ⟨by decide +kernel, by decide +kernel, by decide +kernel⟩ rfl rfl ⟨Nat.le_of_ble_eq_true rfl, Nat.le_of_ble_eq_true rfl⟩), hts _ kw_857⟩ hK hZ hN hA kd_B_accept_75) (wq_xout_ok hnt hlk) ?_
    refine wq_aload_n_ok h0 kd_B_accept_78 rfl ?_
    refine wq_get_ok (wq_getOK h0 hts ki_B hown hK (ci := 0) rfl 5 (Nat.le_of_ble_eq_true rfl) kw_375 rfl) kd_B_accept_79 ?_
    refine wq_iload_n_ok h0 kd_B_accept_82 rfl ?_
    refine wq_call_ok hA (wq_runV (ci := 6) ⟨h0.1, h0.2, hml, hown, hts⟩ (wq_no_ok (y := ({ cls := "BorderDesk$Assessor", name := "assess", desc := "(I)V" } : Jvm.MethodName)) (ws := kw_T) (rm := { frames := 0, cells := 0, slots := 0, locals := 0 }) (mc := 0) (ms := 0)) ⟨(wq_cB hts kw_G kw_804 kw_7 kw_801 ⟨by decide +kernel, by decide +kernel, by decide +kernel⟩ rfl rfl ⟨Nat.le_of_ble_eq_true rfl, Nat.le_of_ble_eq_true rfl⟩), hts _ kw_802, hts _ kw_803⟩ rfl rfl hK hZ hN hA kd_B_accept_83) (wq_xout_ok hnt hlk) ?_
    refine wq_aload_n_ok h0 kd_B_accept_86 rfl ?_
    refine wq_get_ok (wq_getOK h0 hts ki_B hown hK (ci := 0) rfl 5 (Nat.le_of_ble_eq_true rfl) kw_375 rfl) kd_B_accept_87 ?_
    refine wq_iload_n_ok h0 kd_B_accept_90 rfl ?_
    refine wq_call_ok hA (wq_runV (ci := 6) ⟨h0.1, h0.2, hml, hown, hts⟩ (wq_no_ok (y := ({ cls := "BorderDesk$Assessor", name := "book", desc := "(I)V" } : Jvm.MethodName)) (ws := kw_T) (rm := { frames := 0, cells := 0, slots := 0, locals := 0 }) (mc := 0) (ms := 0)) ⟨(wq_cB hts kw_G kw_877 kw_7 kw_874 ⟨by decide +kernel, by decide +kernel, by decide +kernel⟩ rfl rfl ⟨Nat.le_of_ble_eq_true rfl, Nat.le_of_ble_eq_true rfl⟩), hts _ kw_875, hts _ kw_876⟩ rfl rfl hK hZ hN hA kd_B_accept_91) (wq_xout_ok hnt hlk) ?_
    refine wq_aload_n_ok h0 kd_B_accept_94 rfl ?_
    refine wq_get_ok (wq_getOK h0 hts ki_B hown hK (ci := 0) rfl 4 (Nat.le_of_ble_eq_true rfl) kw_374 rfl) kd_B_accept_95 ?_
    refine wq_get_ok (wq_getOK h0 hts ki_D hown hK (ci := 5) rfl 5 (Nat.le_of_ble_eq_true rfl) kw_207 rfl) kd_B_accept_98 ?_
    refine wq_iload_n_ok h0 kd_B_accept_101 rfl ?_
    refine wq_iconst_ok h0 kd_B_accept_102 (by decide +kernel) ?_
    refine wq_zast_ok h0 hK kd_B_accept_103 ?_
    refine wq_aload_n_ok h0 kd_B_accept_104 rfl ?_
    refine wq_iload_n_ok h0 kd_B_accept_105 rfl ?_
    refine wq_call_ok hA (wq_runV (ci := 0) ⟨h0.1, h0.2, hml, hown, hts⟩ (wq_no_ok (y := ({ cls := "BorderDesk", name := "makeLots", desc := "(I)V" } : Jvm.MethodName)) (ws := kw_T) (rm := { frames := 0, cells := 0, slots := 0, locals := 0 }) (mc := 0) (ms := 0)) ⟨(wq_cB hts kw_G kw_881 kw_1 kw_878 ⟨by decide +kernel, by decide +kernel, by decide +kernel⟩ rfl rfl ⟨Nat.le_of_ble_eq_true rfl, Nat.le_of_ble_eq_true rfl⟩), hts _ kw_880, hts _ kw_s23⟩ rfl rfl hK hZ hN hA kd_B_accept_106) (wq_xout_ok hnt hlk) ?_
    refine wq_aload_n_ok h0 kd_B_accept_109 rfl ?_
    refine wq_get_ok (wq_getOK h0 hts ki_B hown hK (ci := 0) rfl 4 (Nat.le_of_ble_eq_true rfl) kw_374 rfl) kd_B_accept_110 ?_
    refine wq_iload_n_ok h0 kd_B_accept_113 rfl ?_
    refine wq_call_ok hA (wq_runV (ci := 5) ⟨h0.1, h0.2, hml, hown, hts⟩ (wq_no_ok (y := ({ cls := "BorderDesk$Declarations", name := "dutyOfAll", desc := "(I)J" } : Jvm.MethodName)) (ws := kw_T) (rm := { frames := 0, cells := 0, slots := 0, locals := 0 }) (mc := 0) (ms := 0)) ⟨(wq_cB hts kw_G kw_889 kw_6 kw_886 ⟨by decide +kernel, by decide +kernel, by decide +kernel⟩ rfl rfl ⟨Nat.le_of_ble_eq_true rfl, Nat.le_of_ble_eq_true rfl⟩), hts _ kw_887, hts _ kw_888⟩ rfl rfl hK hZ hN hA kd_B_accept_114) (wq_xout_ok hnt hlk) ?_
    exact wq_lreturn_ok h0 hr hlk kd_B_accept_117
  have hb_43 : wq_Snd p l e ({ frames := 7, cells := 5, slots := 30, locals := 101 } : Room) s m args below meth c 2 cs D kz_cl A (wq_G0 ad w) (wq_Q cs D kz_cl A (wq_G0 ad w) rt xt below s 5 30) 43 (kt_B_accept_43 rt xt) := by
    refine wq_iconst_ok h0 kd_B_accept_43 (by decide +kernel) ?_
    exact hb_44
  have hb_25 : wq_Snd p l e ({ frames := 7, cells := 5, slots := 30, locals := 101 } : Room) s m args below meth c 2 cs D kz_cl A (wq_G0 ad w) (wq_Q cs D kz_cl A (wq_G0 ad w) rt xt below s 5 30) 25 (kt_B_accept_25 rt xt) := by
    refine wq_call_ok hA (wq_runS ⟨h0.1, h0.2, hml, hown, hts⟩ (kv_B_requireState hl) ⟨(wq_cB hts kw_G kw_480 kw_1 kw_478 ⟨by decide +kernel, by decide +kernel, by decide +kernel⟩ rfl rfl ⟨Nat.le_of_ble_eq_true rfl, Nat.le_of_ble_eq_true rfl⟩), hts _ kw_479⟩ hK hZ hN hA kd_B_accept_25) (wq_xout_ok hnt hlk) ?_
    refine wq_aload_n_ok h0 kd_B_accept_28 rfl ?_
    refine wq_get_ok (wq_getOK h0 hts ki_B hown hK (ci := 0) rfl 4 (Nat.le_of_ble_eq_true rfl) kw_374 rfl) kd_B_accept_29 ?_
    refine wq_iload_n_ok h0 kd_B_accept_32 rfl ?_
    refine wq_call_ok hA (wq_runV (ci := 5) ⟨h0.1, h0.2, hml, hown, hts⟩ (wq_no_ok (y := ({ cls := "BorderDesk$Declarations", name := "isLaterAccepted", desc := "(I)Z" } : Jvm.MethodName)) (ws := kw_T) (rm := { frames := 0, cells := 0, slots := 0, locals := 0 }) (mc := 0) (ms := 0)) ⟨(wq_cB hts kw_G kw_851 kw_6 kw_848 ⟨by decide +kernel, by decide +kernel, by decide +kernel⟩ rfl rfl ⟨Nat.le_of_ble_eq_true rfl, Nat.le_of_ble_eq_true rfl⟩), hts _ kw_849, hts _ kw_850⟩ rfl rfl hK hZ hN hA kd_B_accept_33) (wq_xout_ok hnt hlk) ?_
    refine wq_if_ne_ok (tgt := 43) h0 kd_B_accept_36 (by decide) ?_ ?_
    · exact hb_43
    refine wq_iconst_ok h0 kd_B_accept_39 (by decide +kernel) ?_
    refine wq_goto_ok (tgt := 44) h0 kd_B_accept_40 (by decide) ?_
    exact hb_44
  have hb_24 : wq_Snd p l e ({ frames := 7, cells := 5, slots := 30, locals := 101 } : Room) s m args below meth c 2 cs D kz_cl A (wq_G0 ad w) (wq_Q cs D kz_cl A (wq_G0 ad w) rt xt below s 5 30) 24 (kt_B_accept_24 rt xt) := by
    refine wq_iconst_ok h0 kd_B_accept_24 (by decide +kernel) ?_
    exact hb_25
  have hb_0 : wq_Snd p l e ({ frames := 7, cells := 5, slots := 30, locals := 101 } : Room) s m args below meth c 2 cs D kz_cl A (wq_G0 ad w) (wq_Q cs D kz_cl A (wq_G0 ad w) rt xt below s 5 30) 0 (kt_B_accept_0 rt xt) := by
    refine wq_aload_n_ok h0 kd_B_accept_0 rfl ?_
    refine wq_iload_n_ok h0 kd_B_accept_1 rfl ?_
    refine wq_call_ok hA (wq_runV (ci := 0) ⟨h0.1, h0.2, hml, hown, hts⟩ (kv_B_isDeclaration hl) ⟨(wq_cB hts kw_G kw_711 kw_1 kw_708 ⟨by decide +kernel, by decide +kernel, by decide +kernel⟩ rfl rfl ⟨Nat.le_of_ble_eq_true rfl, Nat.le_of_ble_eq_true rfl⟩), hts _ kw_710, hts _ kw_s12⟩ rfl rfl hK hZ hN hA kd_B_accept_2) (wq_xout_ok hnt hlk) ?_
    refine wq_call_ok hA (wq_runS ⟨h0.1, h0.2, hml, hown, hts⟩ (kv_B_requireArgument hl) ⟨(wq_cB hts kw_G kw_413 kw_1 kw_411 ⟨by decide +kernel, by decide +kernel, by decide +kernel⟩ rfl rfl ⟨Nat.le_of_ble_eq_true rfl, Nat.le_of_ble_eq_true rfl⟩), hts _ kw_412⟩ hK hZ hN hA kd_B_accept_5) (wq_xout_ok hnt hlk) ?_
    refine wq_aload_n_ok h0 kd_B_accept_8 rfl ?_
    refine wq_get_ok (wq_getOK h0 hts ki_B hown hK (ci := 0) rfl 4 (Nat.le_of_ble_eq_true rfl) kw_374 rfl) kd_B_accept_9 ?_
    refine wq_get_ok (wq_getOK h0 hts ki_D hown hK (ci := 5) rfl 5 (Nat.le_of_ble_eq_true rfl) kw_207 rfl) kd_B_accept_12 ?_
    refine wq_iload_n_ok h0 kd_B_accept_15 rfl ?_
    refine wq_zald_ok h0 hK kd_B_accept_16 ?_
    refine wq_if_ne_ok (tgt := 24) h0 kd_B_accept_17 (by decide) ?_ ?_
    · exact hb_24
    refine wq_iconst_ok h0 kd_B_accept_20 (by decide +kernel) ?_
    refine wq_goto_ok (tgt := 25) h0 kd_B_accept_21 (by decide) ?_
    exact hb_25
  exact hb_0 _ _ _ _ _ (wq_sp_t hsp)
-- BorderDesk.amend(IIII)J
def kt_B_amend_43 (rt : Option wq_V → wq_W → Prop) (xt : Nat → wq_W → Prop) : wq_T := (wq_call ks_B_requireState 1 1 6 5 30 (wq_xout 5 30 xt) (wq_aload 0 (wq_get 0 5 (wq_iload 1 (wq_call (wq_rv 6 wq_no) 2 0 0 5 30 (wq_xout 5 30 xt) (wq_call ks_B_requireElement 1 1 6 5 30 (wq_xout 5 30 xt) (wq_aload 0 (wq_get 0 4 (wq_iload 1 (wq_call (wq_rv 5 wq_no) 2 0 0 5 30 (wq_xout 5 30 xt) (wq_lstore 5 (wq_aload 0 (wq_get 0 4 (wq_iload 1 (wq_iload 2 (wq_call ks_D_rowOf 2 0 0 5 30 (wq_xout 5 30 xt) (wq_iload 3 (wq_iload 4 (wq_call (wq_rv 5 wq_no) 4 0 0 5 30 (wq_xout 5 30 xt) (wq_aload 0 (wq_get 0 5 (wq_iload 1 (wq_call (wq_rv 6 wq_no) 2 0 0 5 30 (wq_xout 5 30 xt) (wq_aload 0 (wq_get 0 5 (wq_iload 1 (wq_call (wq_rv 6 wq_no) 2 0 0 5 30 (wq_xout 5 30 xt) (wq_aload 0 (wq_iload 1 (wq_call (wq_rv 0 wq_no) 2 0 0 5 30 (wq_xout 5 30 xt) (wq_aload 0 (wq_get 0 4 (wq_iload 1 (wq_call (wq_rv 5 wq_no) 2 0 0 5 30 (wq_xout 5 30 xt) (wq_lload 5 (wq_l2 (fun x y => x - y) (wq_lreturn 5 30 rt)))))))))))))))))))))))))))))))))))))
def kt_B_amend_42 (rt : Option wq_V → wq_W → Prop) (xt : Nat → wq_W → Prop) : wq_T := (wq_iconst (nI 0) (kt_B_amend_43 rt xt))
def kt_B_amend_0 (rt : Option wq_V → wq_W → Prop) (xt : Nat → wq_W → Prop) : wq_T := (wq_aload 0 (wq_iload 1 (wq_iload 2 (wq_call (wq_rv 0 ks_B_isLine) 3 0 0 5 30 (wq_xout 5 30 xt) (wq_call ks_B_requireArgument 1 1 6 5 30 (wq_xout 5 30 xt) (wq_iload 3 (wq_iload 4 (wq_call ks_D_isInBounds 2 0 0 5 30 (wq_xout 5 30 xt) (wq_call ks_B_requireArgument 1 1 6 5 30 (wq_xout 5 30 xt) (wq_aload 0 (wq_get 0 4 (wq_get 5 5 (wq_iload 1 (wq_zald (wq_call ks_B_requireState 1 1 6 5 30 (wq_xout 5 30 xt) (wq_aload 0 (wq_iload 1 (wq_call (wq_rv 0 wq_no) 2 0 0 5 30 (wq_xout 5 30 xt) (wq_f1 (fun x => x = 0) (wq_iconst (nI 1) (kt_B_amend_43 rt xt)) (kt_B_amend_42 rt xt))))))))))))))))))))
def ks_B_amend : wq_S := wq_sp 7 (fun rt xt => kt_B_amend_0 rt xt)
set_option maxRecDepth 100000 in
set_option maxHeartbeats 4000000 in
theorem kv_B_amend {l : Launch} (hl : l.stackTraces = false) : wq_Vld l kz_cl ky_B_amend kw_T ({ frames := 7, cells := 5, slots := 30, locals := 101 }) wq_G0 ks_B_amend 5 30 := by
  refine wq_method (cc := kc_B_amend) (maxL := 7) (ret := (some .long)) (by decide) kw_896 (fun _ _ => rfl) wq_sp_sz ?_
  intro p e s m args below meth c cs D ad as w rt xt hF hnt hsp
  obtain ⟨h0, hr, hts, hown, hlk, hnm, hml, hK, hZ, hN, hA⟩ := hF
  have hown : s.vm.findClass "BorderDesk" = some m.cls := hown
  obtain ⟨A, hAe⟩ : ∃ A, A = wq_A ad w s.heap.size := ⟨_, rfl⟩
  rw [← hAe] at hZ hA ⊢
  have hb_43 : wq_Snd p l e ({ frames := 7, cells := 5, slots := 30, locals := 101 } : Room) s m args below meth c 7 cs D kz_cl A (wq_G0 ad w) (wq_Q cs D kz_cl A (wq_G0 ad w) rt xt below s 5 30) 43 (kt_B_amend_43 rt xt) := by
    refine wq_call_ok hA (wq_runS ⟨h0.1, h0.2, hml, hown, hts⟩ (kv_B_requireState hl) ⟨(wq_cB hts kw_G kw_480 kw_1 kw_478 ⟨by decide +kernel, by decide +kernel, by decide +kernel⟩ rfl rfl ⟨Nat.le_of_ble_eq_true rfl, Nat.le_of_ble_eq_true rfl⟩), hts _ kw_479⟩ hK hZ hN hA kd_B_amend_43) (wq_xout_ok hnt hlk) ?_
    refine wq_aload_n_ok h0 kd_B_amend_46 rfl ?_
    refine wq_get_ok (wq_getOK h0 hts ki_B hown hK (ci := 0) rfl 5 (Nat.le_of_ble_eq_true rfl) kw_375 rfl) kd_B_amend_47 ?_
    refine wq_iload_n_ok h0 kd_B_amend_50 rfl ?_
    refine wq_call_ok hA (wq_runV (ci := 6) ⟨h0.1, h0.2, hml, hown, hts⟩ (wq_no_ok (y := ({ cls := "BorderDesk$Assessor", name := "canAssess", desc := "(I)Z" } : Jvm.MethodName)) (ws := kw_T) (rm := { frames := 0, cells := 0, slots := 0, locals := 0 }) (mc := 0) (ms := 0)) ⟨(wq_cB hts kw_G kw_771 kw_7 kw_768 ⟨by decide +kernel, by decide +kernel, by decide +kernel⟩ rfl rfl ⟨Nat.le_of_ble_eq_true rfl, Nat.le_of_ble_eq_true rfl⟩), hts _ kw_769, hts _ kw_770⟩ rfl rfl hK hZ hN hA kd_B_amend_51) (wq_xout_ok hnt hlk) ?_
    refine wq_call_ok hA (wq_runS ⟨h0.1, h0.2, hml, hown, hts⟩ (kv_B_requireElement hl) ⟨(wq_cB hts kw_G kw_785 kw_1 kw_783 ⟨by decide +kernel, by decide +kernel, by decide +kernel⟩ rfl rfl ⟨Nat.le_of_ble_eq_true rfl, Nat.le_of_ble_eq_true rfl⟩), hts _ kw_784⟩ hK hZ hN hA kd_B_amend_54) (wq_xout_ok hnt hlk) ?_
    refine wq_aload_n_ok h0 kd_B_amend_57 rfl ?_
    refine wq_get_ok (wq_getOK h0 hts ki_B hown hK (ci := 0) rfl 4 (Nat.le_of_ble_eq_true rfl) kw_374 rfl) kd_B_amend_58 ?_
    refine wq_iload_n_ok h0 kd_B_amend_61 rfl ?_
    refine wq_call_ok hA (wq_runV (ci := 5) ⟨h0.1, h0.2, hml, hown, hts⟩ (wq_no_ok (y := ({ cls := "BorderDesk$Declarations", name := "dutyOfAll", desc := "(I)J" } : Jvm.MethodName)) (ws := kw_T) (rm := { frames := 0, cells := 0, slots := 0, locals := 0 }) (mc := 0) (ms := 0)) ⟨(wq_cB hts kw_G kw_889 kw_6 kw_886 ⟨by decide +kernel, by decide +kernel, by decide +kernel⟩ rfl rfl ⟨Nat.le_of_ble_eq_true rfl, Nat.le_of_ble_eq_true rfl⟩), hts _ kw_887, hts _ kw_888⟩ rfl rfl hK hZ hN hA kd_B_amend_62) (wq_xout_ok hnt hlk) ?_
    refine wq_lstore_ok h0 kd_B_amend_65 (Nat.le_of_ble_eq_true rfl) ?_
    refine wq_aload_n_ok h0 kd_B_amend_67 rfl ?_
    refine wq_get_ok (wq_getOK h0 hts ki_B hown hK (ci := 0) rfl 4 (Nat.le_of_ble_eq_true rfl) kw_374 rfl) kd_B_amend_68 ?_
    refine wq_iload_n_ok h0 kd_B_amend_71 rfl ?_
    refine wq_iload_n_ok h0 kd_B_amend_72 rfl ?_
    refine wq_call_ok hA (wq_runS ⟨h0.1, h0.2, hml, hown, hts⟩ (kv_D_rowOf hl) ⟨(wq_cB hts kw_G kw_724 kw_6 kw_767 ⟨by decide +kernel, by decide +kernel, by decide +kernel⟩ rfl rfl ⟨Nat.le_of_ble_eq_true rfl, Nat.le_of_ble_eq_true rfl⟩), hts _ kw_723⟩ hK hZ hN hA kd_B_amend_73) (wq_xout_ok hnt hlk) ?_
    refine wq_iload_n_ok h0 kd_B_amend_76 rfl ?_
    refine wq_iload_ok h0 kd_B_amend_77 ?_
    refine wq_call_ok hA (wq_runV (ci := 5) ⟨h0.1, h0.2, hml, hown, hts⟩ (wq_no_ok (y := ({ cls := "BorderDesk$Declarations", name := "setField", desc := "(III)V" } : Jvm.MethodName)) (ws := kw_T) (rm := { frames := 0, cells := 0, slots := 0, locals := 0 }) (mc := 0) (ms := 0)) ⟨(wq_cB hts kw_G kw_904 kw_6 kw_901 ⟨by decide +kernel, by decide +kernel, by decide +kernel⟩ rfl rfl ⟨Nat.le_of_ble_eq_true rfl, Nat.le_of_ble_eq_true rfl⟩), hts _ kw_902, hts _ kw_903⟩ rfl rfl hK hZ hN hA kd_B_amend_79) (wq_xout_ok hnt hlk) ?_
    refine wq_aload_n_ok h0 kd_B_amend_82 rfl ?_
    refine wq_get_ok (wq_getOK h0 hts ki_B hown hK (ci := 0) rfl 5 (Nat.le_of_ble_eq_true rfl) kw_375 rfl) kd_B_amend_83 ?_
    refine wq_iload_n_ok h0 kd_B_amend_86 rfl ?_
    refine wq_call_ok hA (wq_runV (ci := 6) ⟨h0.1, h0.2, hml, hown, hts⟩ (wq_no_ok (y := ({ cls := "BorderDesk$Assessor", name := "assessAnew", desc := "(I)V" } : Jvm.MethodName)) (ws := kw_T) (rm := { frames := 0, cells := 0, slots := 0, locals := 0 }) (mc := 0) (ms := 0)) ⟨(wq_cB hts kw_G kw_908 kw_7 kw_905 ⟨by decide +kernel, by decide +kernel, by decide +kernel⟩ rfl rfl ⟨Nat.le_of_ble_eq_true rfl, Nat.le_of_ble_eq_true rfl⟩), hts _ kw_906, hts _ kw_907⟩ rfl rfl hK hZ hN hA kd_B_amend_87) (wq_xout_ok hnt hlk) ?_
    refine wq_aload_n_ok h0 kd_B_amend_90 rfl ?_
    refine wq_get_ok (wq_getOK h0 hts ki_B hown hK (ci := 0) rfl 5 (Nat.le_of_ble_eq_true rfl) kw_375 rfl) kd_B_amend_91 ?_
    refine wq_iload_n_ok h0 kd_B_amend_94 rfl ?_
    refine wq_call_ok hA (wq_runV (ci := 6) ⟨h0.1, h0.2, hml, hown, hts⟩ (wq_no_ok (y := ({ cls := "BorderDesk$Assessor", name := "book", desc := "(I)V" } : Jvm.MethodName)) (ws := kw_T) (rm := { frames := 0, cells := 0, slots := 0, locals := 0 }) (mc := 0) (ms := 0)) ⟨(wq_cB hts kw_G kw_877 kw_7 kw_874 ⟨by decide +kernel, by decide +kernel, by decide +kernel⟩ rfl rfl ⟨Nat.le_of_ble_eq_true rfl, Nat.le_of_ble_eq_true rfl⟩), hts _ kw_875, hts _ kw_876⟩ rfl rfl hK hZ hN hA kd_B_amend_95) (wq_xout_ok hnt hlk) ?_
    refine wq_aload_n_ok h0 kd_B_amend_98 rfl ?_
    refine wq_iload_n_ok h0 kd_B_amend_99 rfl ?_
    refine wq_call_ok hA (wq_runV (ci := 0) ⟨h0.1, h0.2, hml, hown, hts⟩ (wq_no_ok (y := ({ cls := "BorderDesk", name := "changeLots", desc := "(I)V" } : Jvm.MethodName)) (ws := kw_T) (rm := { frames := 0, cells := 0, slots := 0, locals := 0 }) (mc := 0) (ms := 0)) ⟨(wq_cB hts kw_G kw_916 kw_1 kw_913 ⟨by decide +kernel, by decide +kernel, by decide +kernel⟩ rfl rfl ⟨Nat.le_of_ble_eq_true rfl, Nat.le_of_ble_eq_true rfl⟩), hts _ kw_915, hts _ kw_s26⟩ rfl rfl hK hZ hN hA kd_B_amend_100) (wq_xout_ok hnt hlk) ?_
    refine wq_aload_n_ok h0 kd_B_amend_103 rfl ?_
    refine wq_get_ok (wq_getOK h0 hts ki_B hown hK (ci := 0) rfl 4 (Nat.le_of_ble_eq_true rfl) kw_374 rfl) kd_B_amend_104 ?_
    refine wq_iload_n_ok h0 kd_B_amend_107 rfl ?_
    refine wq_call_ok hA (wq_runV (ci := 5) ⟨h0.1, h0.2, hml, hown, hts⟩ (wq_no_ok (y := ({ cls := "BorderDesk$Declarations", name := "dutyOfAll", desc := "(I)J" } : Jvm.MethodName)) (ws := kw_T) (rm := { frames := 0, cells := 0, slots := 0, locals := 0 }) (mc := 0) (ms := 0)) ⟨(wq_cB hts kw_G kw_889 kw_6 kw_886 ⟨by decide +kernel, by decide +kernel, by decide +kernel⟩ rfl rfl ⟨Nat.le_of_ble_eq_true rfl, Nat.le_of_ble_eq_true rfl⟩), hts _ kw_887, hts _ kw_888⟩ rfl rfl hK hZ hN hA kd_B_amend_108) (wq_xout_ok hnt hlk) ?_
    refine wq_lload_ok h0 kd_B_amend_111 ?_
    refine wq_lsub_ok h0 kd_B_amend_113 ?_
    exact wq_lreturn_ok h0 hr hlk kd_B_amend_114
  have hb_42 : wq_Snd p l e ({ frames := 7, cells := 5, slots := 30, locals := 101 } : Room) s m args below meth c 7 cs D kz_cl A (wq_G0 ad w) (wq_Q cs D kz_cl A (wq_G0 ad w) rt xt below s 5 30) 42 (kt_B_amend_42 rt xt) := by
    refine wq_iconst_ok h0 kd_B_amend_42 (by decide +kernel) ?_
    exact hb_43
  have hb_0 : wq_Snd p l e ({ frames := 7, cells := 5, slots := 30, locals := 101 } : Room) s m args below meth c 7 cs D kz_cl A (wq_G0 ad w) (wq_Q cs D kz_cl A (wq_G0 ad w) rt xt below s 5 30) 0 (kt_B_amend_0 rt xt) := by
    refine wq_aload_n_ok h0 kd_B_amend_0 rfl ?_
    refine wq_iload_n_ok h0 kd_B_amend_1 rfl ?_
    refine wq_iload_n_ok h0 kd_B_amend_2 rfl ?_
    refine wq_call_ok hA (wq_runV (ci := 0) ⟨h0.1, h0.2, hml, hown, hts⟩ (kv_B_isLine hl) ⟨(wq_cB hts kw_G kw_744 kw_1 kw_741 ⟨by decide +kernel, by decide +kernel, by decide +kernel⟩ rfl rfl ⟨Nat.le_of_ble_eq_true rfl, Nat.le_of_ble_eq_true rfl⟩), hts _ kw_743, hts _ kw_s13⟩ rfl rfl hK hZ hN hA kd_B_amend_3) (wq_xout_ok hnt hlk) ?_
    refine wq_call_ok hA (wq_runS ⟨h0.1, h0.2, hml, hown, hts⟩ (kv_B_requireArgument hl) ⟨(wq_cB hts kw_G kw_413 kw_1 kw_411 ⟨by decide +kernel, by decide +kernel, by decide +kernel⟩ rfl rfl ⟨Nat.le_of_ble_eq_true rfl, Nat.le_of_ble_eq_true rfl⟩), hts _ kw_412⟩ hK hZ hN hA kd_B_amend_6) (wq_xout_ok hnt hlk) ?_
    refine wq_iload_n_ok h0 kd_B_amend_9 rfl ?_
    refine wq_iload_ok h0 kd_B_amend_10 ?_
    refine wq_call_ok hA (wq_runS ⟨h0.1, h0.2, hml, hown, hts⟩ (kv_D_isInBounds hl) ⟨(wq_cB hts kw_G kw_714 kw_6 kw_712 ⟨by decide +kernel, by decide +kernel, by decide +kernel⟩ rfl rfl ⟨Nat.le_of_ble_eq_true rfl, Nat.le_of_ble_eq_true rfl⟩), hts _ kw_713⟩ hK hZ hN hA kd_B_amend_12) (wq_xout_ok hnt hlk) ?_
    refine wq_call_ok hA (wq_runS ⟨h0.1, h0.2, hml, hown, hts⟩ (kv_B_requireArgument hl) ⟨(wq_cB hts kw_G kw_413 kw_1 kw_411 ⟨by decide +kernel, by decide +kernel, by decide +kernel⟩ rfl rfl ⟨Nat.le_of_ble_eq_true rfl, Nat.le_of_ble_eq_true rfl⟩), hts _ kw_412⟩ hK hZ hN hA kd_B_amend_15) (wq_xout_ok hnt hlk) ?_
    refine wq_aload_n_ok h0 kd_B_amend_18 rfl ?_
    refine wq_get_ok (wq_getOK h0 hts ki_B hown hK (ci := 0) rfl 4 (Nat.le_of_ble_eq_true rfl) kw_374 rfl) kd_B_amend_19 ?_
    refine wq_get_ok (wq_getOK h0 hts ki_D hown hK (ci := 5) rfl 5 (Nat.le_of_ble_eq_true rfl) kw_207 rfl) kd_B_amend_22 ?_
    refine wq_iload_n_ok h0 kd_B_amend_25 rfl ?_
    refine wq_zald_ok h0 hK kd_B_amend_26 ?_
    refine wq_call_ok hA (wq_runS ⟨h0.1, h0.2, hml, hown, hts⟩ (kv_B_requireState hl) ⟨(wq_cB hts kw_G kw_480 kw_1 kw_478 ⟨by decide +kernel, by decide +kernel, by decide +kernel⟩ rfl rfl ⟨Nat.le_of_ble_eq_true rfl, Nat.le_of_ble_eq_true rfl⟩), hts _ kw_479⟩ hK hZ hN hA kd_B_amend_27) (wq_xout_ok hnt hlk) ?_
    refine wq_aload_n_ok h0 kd_B_amend_30 rfl ?_
    refine wq_iload_n_ok h0 kd_B_amend_31 rfl ?_
    refine wq_call_ok hA (wq_runV (ci := 0) ⟨h0.1, h0.2, hml, hown, hts⟩ (wq_no_ok (y := ({ cls := "BorderDesk", name := "hasGoneUnits", desc := "(I)Z" } : Jvm.MethodName)) (ws := kw_T) (rm := { frames := 0, cells := 0, slots := 0, locals := 0 }) (mc := 0) (ms := 0)) ⟨(wq_cB hts kw_G kw_900 kw_1 kw_897 ⟨by decide +kernel, by decide +kernel, by decide +kernel⟩ rfl rfl ⟨Nat.le_of_ble_eq_true rfl, Nat.le_of_ble_eq_true rfl⟩), hts _ kw_899, hts _ kw_s24⟩ rfl rfl hK hZ hN hA kd_B_amend_32) (wq_xout_ok hnt hlk) ?_
    refine wq_if_ne_ok (tgt := 42) h0 kd_B_amend_35 (by decide) ?_ ?_
    · exact hb_42
    refine wq_iconst_ok h0 kd_B_amend_38 (by decide +kernel) ?_
    refine wq_goto_ok (tgt := 43) h0 kd_B_amend_39 (by decide) ?_
    exact hb_43
  exact hb_0 _ _ _ _ _ (wq_sp_t hsp)
-- BorderDesk.release(II)J
def kt_B_release_36 (rt : Option wq_V → wq_W → Prop) (xt : Nat → wq_W → Prop) : wq_T := (wq_call ks_B_requireState 1 1 6 3 18 (wq_xout 3 18 xt) (wq_aload 0 (wq_get 0 6 (wq_iload 1 (wq_iload 2 (wq_iconst (nI 1) (wq_call (wq_rv 7 wq_no) 4 0 0 3 18 (wq_xout 3 18 xt) (wq_lstore 3 (wq_aload 0 (wq_get 0 7 (wq_dup (wq_get 8 0 (wq_lload 3 (wq_l2 (fun x y => x + y) (wq_put 8 0 wq_isL (wq_aload 0 (wq_get 0 7 (wq_get 8 2 (wq_iload 1 (wq_dup2 (wq_iald (wq_iload 2 (wq_i2 (fun x y => x + y) (wq_iast (wq_lload 3 (wq_lreturn 3 18 rt))))))))))))))))))))))))))
def kt_B_release_35 (rt : Option wq_V → wq_W → Prop) (xt : Nat → wq_W → Prop) : wq_T := (wq_iconst (nI 0) (kt_B_release_36 rt xt))
def kt_B_release_0 (rt : Option wq_V → wq_W → Prop) (xt : Nat → wq_W → Prop) : wq_T := (wq_iload 1 (wq_call ks_B_isGood 1 0 0 3 18 (wq_xout 3 18 xt) (wq_call ks_B_requireArgument 1 1 6 3 18 (wq_xout 3 18 xt) (wq_iload 2 (wq_iconst (nI 1) (wq_iconst (nI 1000) (wq_call ks_B_isWithin 3 0 0 3 18 (wq_xout 3 18 xt) (wq_call ks_B_requireArgument 1 1 6 3 18 (wq_xout 3 18 xt) (wq_aload 0 (wq_get 0 6 (wq_iload 1 (wq_iconst (nI 1) (wq_call (wq_rv 7 ks_L_unitsLeft) 3 0 0 3 18 (wq_xout 3 18 xt) (wq_iload 2 (wq_f2 (fun x y => x < y) (kt_B_release_35 rt xt) (wq_iconst (nI 1) (kt_B_release_36 rt xt)))))))))))))))))
def ks_B_release : wq_S := wq_sp 5 (fun rt xt => kt_B_release_0 rt xt)
set_option maxRecDepth 100000 in
set_option maxHeartbeats 4000000 in
theorem kv_B_release {l : Launch} (hl : l.stackTraces = false) : wq_Vld l kz_cl ky_B_release kw_T ({ frames := 7, cells := 3, slots := 18, locals := 101 }) wq_G0 ks_B_release 3 18 := by
  refine wq_method (cc := kc_B_release) (maxL := 5) (ret := (some .long)) (by decide) kw_923 (fun _ _ => rfl) wq_sp_sz ?_
  intro p e s m args below meth c cs D ad as w rt xt hF hnt hsp
  obtain ⟨h0, hr, hts, hown, hlk, hnm, hml, hK, hZ, hN, hA⟩ := hF
  have hown : s.vm.findClass "BorderDesk" = some m.cls := hown
  obtain ⟨A, hAe⟩ : ∃ A, A = wq_A ad w s.heap.size := ⟨_, rfl⟩
  rw [← hAe] at hZ hA ⊢
  have hb_36 : wq_Snd p l e ({ frames := 7, cells := 3, slots := 18, locals := 101 } : Room) s m args below meth c 5 cs D kz_cl A (wq_G0 ad w) (wq_Q cs D kz_cl A (wq_G0 ad w) rt xt below s 3 18) 36 (kt_B_release_36 rt xt) := by
    refine wq_call_ok hA (wq_runS ⟨h0.1, h0.2, hml, hown, hts⟩ (kv_B_requireState hl) ⟨(wq_cB hts kw_G kw_480 kw_1 kw_478 ⟨by decide +kernel, by decide +kernel, by decide +kernel⟩ rfl rfl ⟨Nat.le_of_ble_eq_true rfl, Nat.le_of_ble_eq_true rfl⟩), hts _ kw_479⟩ hK hZ hN hA kd_B_release_36) (wq_xout_ok hnt hlk) ?_
    refine wq_aload_n_ok h0 kd_B_release_39 rfl ?_
    refine wq_get_ok (wq_getOK h0 hts ki_B hown hK (ci := 0) rfl 6 (Nat.le_of_ble_eq_true rfl) kw_376 rfl) kd_B_release_40 ?_
    refine wq_iload_n_ok h0 kd_B_release_43 rfl ?_
    refine wq_iload_n_ok h0 kd_B_release_44 rfl ?_
    refine wq_iconst_ok h0 kd_B_release_45 (by decide +kernel) ?_
    refine wq_call_ok hA (wq_runV (ci := 7) ⟨h0.1, h0.2, hml, hown, hts⟩ (wq_no_ok (y := ({ cls := "BorderDesk$Lots", name := "takeUnits", desc := "(IIZ)J" } : Jvm.MethodName)) (ws := kw_T) (rm := { frames := 0, cells := 0, slots := 0, locals := 0 }) (mc := 0) (ms := 0)) ⟨(wq_cB hts kw_G kw_931 kw_8 kw_928 ⟨by decide +kernel, by decide +kernel, by decide +kernel⟩ rfl rfl ⟨Nat.le_of_ble_eq_true rfl, Nat.le_of_ble_eq_true rfl⟩), hts _ kw_929, hts _ kw_930⟩ rfl rfl hK hZ hN hA kd_B_release_46) (wq_xout_ok hnt hlk) ?_
    refine wq_lstore_n_ok h0 kd_B_release_49 rfl (Nat.le_of_ble_eq_true rfl) ?_
    refine wq_aload_n_ok h0 kd_B_release_50 rfl ?_
    refine wq_get_ok (wq_getOK h0 hts ki_B hown hK (ci := 0) rfl 7 (Nat.le_of_ble_eq_true rfl) kw_377 rfl) kd_B_release_51 ?_
    refine wq_dup_ok h0 kd_B_release_54 ?_
    refine wq_get_ok (wq_getOK h0 hts ki_G hown hK (ci := 8) rfl 0 (Nat.le_of_ble_eq_true rfl) kw_351 rfl) kd_B_release_55 ?_
    refine wq_lload_n_ok h0 kd_B_release_58 rfl ?_
    refine wq_ladd_ok h0 kd_B_release_59 ?_
    refine wq_put_ok (wq_putOK h0 hts ki_G ka_G kb_G kn_G hown hK (ci := 8) rfl 0 (Nat.le_of_ble_eq_true rfl) kw_351 rfl (Or.inl rfl) wq_okL) kd_B_release_60 ?_
    refine wq_aload_n_ok h0 kd_B_release_63 rfl ?_
    refine wq_get_ok (wq_getOK h0 hts ki_B hown hK (ci := 0) rfl 7 (Nat.le_of_ble_eq_true rfl) kw_377 rfl) kd_B_release_64 ?_
    refine wq_get_ok (wq_getOK h0 hts ki_G hown hK (ci := 8) rfl 2 (Nat.le_of_ble_eq_true rfl) kw_354 rfl) kd_B_release_67 ?_
    refine wq_iload_n_ok h0 kd_B_release_70 rfl ?_
    refine wq_dup2_ok h0 kd_B_release_71 ?_
    refine wq_iald_ok h0 hK kd_B_release_72 ?_
    refine wq_iload_n_ok h0 kd_B_release_73 rfl ?_
    refine wq_iadd_ok h0 kd_B_release_74 ?_
    refine wq_iast_ok h0 hK kd_B_release_75 ?_
    refine wq_lload_n_ok h0 kd_B_release_76 rfl ?_
    exact wq_lreturn_ok h0 hr hlk kd_B_release_77
  have hb_35 : wq_Snd p l e ({ frames := 7, cells := 3, slots := 18, locals := 101 } : Room) s m args below meth c 5 cs D kz_cl A (wq_G0 ad w) (wq_Q cs D kz_cl A (wq_G0 ad w) rt xt below s 3 18) 35 (kt_B_release_35 rt xt) := by
    refine wq_iconst_ok h0 kd_B_release_35 (by decide +kernel) ?_
    exact hb_36
  have hb_0 : wq_Snd p l e ({ frames := 7, cells := 3, slots := 18, locals := 101 } : Room) s m args below meth c 5 cs D kz_cl A (wq_G0 ad w) (wq_Q cs D kz_cl A (wq_G0 ad w) rt xt below s 3 18) 0 (kt_B_release_0 rt xt) := by
    refine wq_iload_n_ok h0 kd_B_release_0 rfl ?_
    refine wq_call_ok hA (wq_runS ⟨h0.1, h0.2, hml, hown, hts⟩ (kv_B_isGood hl) ⟨(wq_cB hts kw_G kw_531 kw_1 kw_529 ⟨by decide +kernel, by decide +kernel, by decide +kernel⟩ rfl rfl ⟨Nat.le_of_ble_eq_true rfl, Nat.le_of_ble_eq_true rfl⟩), hts _ kw_530⟩ hK hZ hN hA kd_B_release_1) (wq_xout_ok hnt hlk) ?_
    refine wq_call_ok hA (wq_runS ⟨h0.1, h0.2, hml, hown, hts⟩ (kv_B_requireArgument hl) ⟨(wq_cB hts kw_G kw_413 kw_1 kw_411 ⟨by decide +kernel, by decide +kernel, by decide +kernel⟩ rfl rfl ⟨Nat.le_of_ble_eq_true rfl, Nat.le_of_ble_eq_true rfl⟩), hts _ kw_412⟩ hK hZ hN hA kd_B_release_4) (wq_xout_ok hnt hlk) ?_
    refine wq_iload_n_ok h0 kd_B_release_7 rfl ?_
    refine wq_iconst_ok h0 kd_B_release_8 (by decide +kernel) ?_
    refine wq_sipush_ok h0 kd_B_release_9 (by decide +kernel) ?_
    refine wq_call_ok hA (wq_runS ⟨h0.1, h0.2, hml, hown, hts⟩ (kv_B_isWithin hl) ⟨(wq_cB hts kw_G kw_517 kw_1 kw_515 ⟨by decide +kernel, by decide +kernel, by decide +kernel⟩ rfl rfl ⟨Nat.le_of_ble_eq_true rfl, Nat.le_of_ble_eq_true rfl⟩), hts _ kw_516⟩ hK hZ hN hA kd_B_release_12) (wq_xout_ok hnt hlk) ?_
    refine wq_call_ok hA (wq_runS ⟨h0.1, h0.2, hml, hown, hts⟩ (kv_B_requireArgument hl) ⟨(wq_cB hts kw_G kw_413 kw_1 kw_411 ⟨by decide +kernel, by decide +kernel, by decide +kernel⟩ rfl rfl ⟨Nat.le_of_ble_eq_true rfl, Nat.le_of_ble_eq_true rfl⟩), hts _ kw_412⟩ hK hZ hN hA kd_B_release_15) (wq_xout_ok hnt hlk) ?_
    refine wq_aload_n_ok h0 kd_B_release_18 rfl ?_
    refine wq_get_ok (wq_getOK h0 hts ki_B hown hK (ci := 0) rfl 6 (Nat.le_of_ble_eq_true rfl) kw_376 rfl) kd_B_release_19 ?_
    refine wq_iload_n_ok h0 kd_B_release_22 rfl ?_
    refine wq_iconst_ok h0 kd_B_release_23 (by decide +kernel) ?_
    refine wq_call_ok hA (wq_runV (ci := 7) ⟨h0.1, h0.2, hml, hown, hts⟩ (kv_L_unitsLeft hl) ⟨(wq_cB hts kw_G kw_927 kw_8 kw_924 ⟨by decide +kernel, by decide +kernel, by decide +kernel⟩ rfl rfl ⟨Nat.le_of_ble_eq_true rfl, Nat.le_of_ble_eq_true rfl⟩), hts _ kw_925, hts _ kw_926⟩ rfl rfl hK hZ hN hA kd_B_release_24) (wq_xout_ok hnt hlk) ?_
    refine wq_iload_n_ok h0 kd_B_release_27 rfl ?_
    refine wq_icmp_lt_ok (tgt := 35) h0 kd_B_release_28 (by decide) ?_ ?_
    · exact hb_35
    refine wq_iconst_ok h0 kd_B_release_31 (by decide +kernel) ?_
    refine wq_goto_ok (tgt := 36) h0 kd_B_release_32 (by decide) ?_
    exact hb_36
  exact hb_0 _ _ _ _ _ (wq_sp_t hsp)
-- BorderDesk.export(II)J
def kt_B_export_36 (rt : Option wq_V → wq_W → Prop) (xt : Nat → wq_W → Prop) : wq_T := (wq_call ks_B_requireState 1 1 6 3 18 (wq_xout 3 18 xt) (wq_aload 0 (wq_get 0 6 (wq_iload 1 (wq_iload 2 (wq_iconst (nI 0) (wq_call (wq_rv 7 wq_no) 4 0 0 3 18 (wq_xout 3 18 xt) (wq_lstore 3 (wq_aload 0 (wq_get 0 7 (wq_dup (wq_get 8 1 (wq_lload 3 (wq_l2 (fun x y => x + y) (wq_put 8 1 wq_isL (wq_lload 3 (wq_lreturn 3 18 rt)))))))))))))))))
def kt_B_export_35 (rt : Option wq_V → wq_W → Prop) (xt : Nat → wq_W → Prop) : wq_T := (wq_iconst (nI 0) (kt_B_export_36 rt xt))
def kt_B_export_0 (rt : Option wq_V → wq_W → Prop) (xt : Nat → wq_W → Prop) : wq_T := (wq_iload 1 (wq_call ks_B_isGood 1 0 0 3 18 (wq_xout 3 18 xt) (wq_call ks_B_requireArgument 1 1 6 3 18 (wq_xout 3 18 xt) (wq_iload 2 (wq_iconst (nI 1) (wq_iconst (nI 1000) (wq_call ks_B_isWithin 3 0 0 3 18 (wq_xout 3 18 xt) (wq_call ks_B_requireArgument 1 1 6 3 18 (wq_xout 3 18 xt) (wq_aload 0 (wq_get 0 6 (wq_iload 1 (wq_iconst (nI 0) (wq_call (wq_rv 7 ks_L_unitsLeft) 3 0 0 3 18 (wq_xout 3 18 xt) (wq_iload 2 (wq_f2 (fun x y => x < y) (kt_B_export_35 rt xt) (wq_iconst (nI 1) (kt_B_export_36 rt xt)))))))))))))))))
def ks_B_export : wq_S := wq_sp 5 (fun rt xt => kt_B_export_0 rt xt)
set_option maxRecDepth 100000 in
set_option maxHeartbeats 4000000 in
theorem kv_B_export {l : Launch} (hl : l.stackTraces = false) : wq_Vld l kz_cl ky_B_export kw_T ({ frames := 7, cells := 3, slots := 18, locals := 101 }) wq_G0 ks_B_export 3 18 := by
  refine wq_method (cc := kc_B_export) (maxL := 5) (ret := (some .long)) (by decide) kw_943 (fun _ _ => rfl) wq_sp_sz ?_
  intro p e s m args below meth c cs D ad as w rt xt hF hnt hsp
  obtain ⟨h0, hr, hts, hown, hlk, hnm, hml, hK, hZ, hN, hA⟩ := hF
  have hown : s.vm.findClass "BorderDesk" = some m.cls := hown
  obtain ⟨A, hAe⟩ : ∃ A, A = wq_A ad w s.heap.size := ⟨_, rfl⟩
  rw [← hAe] at hZ hA ⊢
  have hb_36 : wq_Snd p l e ({ frames := 7, cells := 3, slots := 18, locals := 101 } : Room) s m args below meth c 5 cs D kz_cl A (wq_G0 ad w) (wq_Q cs D kz_cl A (wq_G0 ad w) rt xt below s 3 18) 36 (kt_B_export_36 rt xt) := by
    refine wq_call_ok hA (wq_runS ⟨h0.1, h0.2, hml, hown, hts⟩ (kv_B_requireState hl) ⟨(wq_cB hts kw_G kw_480 kw_1 kw_478 ⟨by decide +kernel, by decide +kernel, by decide +kernel⟩ rfl rfl ⟨Nat.le_of_ble_eq_true rfl, Nat.le_of_ble_eq_true rfl⟩), hts _ kw_479⟩ hK hZ hN hA kd_B_export_36) (wq_xout_ok hnt hlk) ?_
    refine wq_aload_n_ok h0 kd_B_export_39 rfl ?_
    refine wq_get_ok (wq_getOK h0 hts ki_B hown hK (ci := 0) rfl 6 (Nat.le_of_ble_eq_true rfl) kw_376 rfl) kd_B_export_40 ?_
    refine wq_iload_n_ok h0 kd_B_export_43 rfl ?_
    refine wq_iload_n_ok h0 kd_B_export_44 rfl ?_
    refine wq_iconst_ok h0 kd_B_export_45 (by decide +kernel) ?_
    refine wq_call_ok hA (wq_runV (ci := 7) ⟨h0.1, h0.2, hml, hown, hts⟩ (wq_no_ok (y := ({ cls := "BorderDesk$Lots", name := "takeUnits", desc := "(IIZ)J" } : Jvm.MethodName)) (ws := kw_T) (rm := { frames := 0, cells := 0, slots := 0, locals := 0 }) (mc := 0) (ms := 0)) ⟨(wq_cB hts kw_G kw_931 kw_8 kw_928 ⟨by decide +kernel, by decide +kernel, by decide +kernel⟩ rfl rfl ⟨Nat.le_of_ble_eq_true rfl, Nat.le_of_ble_eq_true rfl⟩), hts _ kw_929, hts _ kw_930⟩ rfl rfl hK hZ hN hA kd_B_export_46) (wq_xout_ok hnt hlk) ?_
    refine wq_lstore_n_ok h0 kd_B_export_49 rfl (Nat.le_of_ble_eq_true rfl) ?_
    refine wq_aload_n_ok h0 kd_B_export_50 rfl ?_
    refine wq_get_ok (wq_getOK h0 hts ki_B hown hK (ci := 0) rfl 7 (Nat.le_of_ble_eq_true rfl) kw_377 rfl) kd_B_export_51 ?_
    refine wq_dup_ok h0 kd_B_export_54 ?_
    refine wq_get_ok (wq_getOK h0 hts ki_G hown hK (ci := 8) rfl 1 (Nat.le_of_ble_eq_true rfl) kw_352 rfl) kd_B_export_55 ?_
    refine wq_lload_n_ok h0 kd_B_export_58 rfl ?_
    refine wq_ladd_ok h0 kd_B_export_59 ?_
    refine wq_put_ok (wq_putOK h0 hts ki_G ka_G kb_G kn_G hown hK (ci := 8) rfl 1 (Nat.le_of_ble_eq_true rfl) kw_352 rfl (Or.inl rfl) wq_okL) kd_B_export_60 ?_
    refine wq_lload_n_ok h0 kd_B_export_63 rfl ?_
    exact wq_lreturn_ok h0 hr hlk kd_B_export_64
  have hb_35 : wq_Snd p l e ({ frames := 7, cells := 3, slots := 18, locals := 101 } : Room) s m args below meth c 5 cs D kz_cl A (wq_G0 ad w) (wq_Q cs D kz_cl A (wq_G0 ad w) rt xt below s 3 18) 35 (kt_B_export_35 rt xt) := by
    refine wq_iconst_ok h0 kd_B_export_35 (by decide +kernel) ?_
    exact hb_36
  have hb_0 : wq_Snd p l e ({ frames := 7, cells := 3, slots := 18, locals := 101 } : Room) s m args below meth c 5 cs D kz_cl A (wq_G0 ad w) (wq_Q cs D kz_cl A (wq_G0 ad w) rt xt below s 3 18) 0 (kt_B_export_0 rt xt) := by
    refine wq_iload_n_ok h0 kd_B_export_0 rfl ?_
    refine wq_call_ok hA (wq_runS ⟨h0.1, h0.2, hml, hown, hts⟩ (kv_B_isGood hl) ⟨(wq_cB hts kw_G kw_531 kw_1 kw_529 ⟨by decide +kernel, by decide +kernel, by decide +kernel⟩ rfl rfl ⟨Nat.le_of_ble_eq_true rfl, Nat.le_of_ble_eq_true rfl⟩), hts _ kw_530⟩ hK hZ hN hA kd_B_export_1) (wq_xout_ok hnt hlk) ?_
    refine wq_call_ok hA (wq_runS ⟨h0.1, h0.2, hml, hown, hts⟩ (kv_B_requireArgument hl) ⟨(wq_cB hts kw_G kw_413 kw_1 kw_411 ⟨by decide +kernel, by decide +kernel, by decide +kernel⟩ rfl rfl ⟨Nat.le_of_ble_eq_true rfl, Nat.le_of_ble_eq_true rfl⟩), hts _ kw_412⟩ hK hZ hN hA kd_B_export_4) (wq_xout_ok hnt hlk) ?_
    refine wq_iload_n_ok h0 kd_B_export_7 rfl ?_
    refine wq_iconst_ok h0 kd_B_export_8 (by decide +kernel) ?_
    refine wq_sipush_ok h0 kd_B_export_9 (by decide +kernel) ?_
    refine wq_call_ok hA (wq_runS ⟨h0.1, h0.2, hml, hown, hts⟩ (kv_B_isWithin hl) ⟨(wq_cB hts kw_G kw_517 kw_1 kw_515 ⟨by decide +kernel, by decide +kernel, by decide +kernel⟩ rfl rfl ⟨Nat.le_of_ble_eq_true rfl, Nat.le_of_ble_eq_true rfl⟩), hts _ kw_516⟩ hK hZ hN hA kd_B_export_12) (wq_xout_ok hnt hlk) ?_
    refine wq_call_ok hA (wq_runS ⟨h0.1, h0.2, hml, hown, hts⟩ (kv_B_requireArgument hl) ⟨(wq_cB hts kw_G kw_413 kw_1 kw_411 ⟨by decide +kernel, by decide +kernel, by decide +kernel⟩ rfl rfl ⟨Nat.le_of_ble_eq_true rfl, Nat.le_of_ble_eq_true rfl⟩), hts _ kw_412⟩ hK hZ hN hA kd_B_export_15) (wq_xout_ok hnt hlk) ?_
    refine wq_aload_n_ok h0 kd_B_export_18 rfl ?_
    refine wq_get_ok (wq_getOK h0 hts ki_B hown hK (ci := 0) rfl 6 (Nat.le_of_ble_eq_true rfl) kw_376 rfl) kd_B_export_19 ?_
    refine wq_iload_n_ok h0 kd_B_export_22 rfl ?_
    refine wq_iconst_ok h0 kd_B_export_23 (by decide +kernel) ?_
    refine wq_call_ok hA (wq_runV (ci := 7) ⟨h0.1, h0.2, hml, hown, hts⟩ (kv_L_unitsLeft hl) ⟨(wq_cB hts kw_G kw_927 kw_8 kw_924 ⟨by decide +kernel, by decide +kernel, by decide +kernel⟩ rfl rfl ⟨Nat.le_of_ble_eq_true rfl, Nat.le_of_ble_eq_true rfl⟩), hts _ kw_925, hts _ kw_926⟩ rfl rfl hK hZ hN hA kd_B_export_24) (wq_xout_ok hnt hlk) ?_
    refine wq_iload_n_ok h0 kd_B_export_27 rfl ?_
    refine wq_icmp_lt_ok (tgt := 35) h0 kd_B_export_28 (by decide) ?_ ?_
    · exact hb_35
    refine wq_iconst_ok h0 kd_B_export_31 (by decide +kernel) ?_
    refine wq_goto_ok (tgt := 36) h0 kd_B_export_32 (by decide) ?_
    exact hb_36
  exact hb_0 _ _ _ _ _ (wq_sp_t hsp)
-- BorderDesk.work(IIII)I
def kt_B_work_72 (rt : Option wq_V → wq_W → Prop) (xt : Nat → wq_W → Prop) : wq_T := (wq_call ks_B_requireState 1 1 6 4 24 (wq_xout 4 24 xt) (wq_aload 0 (wq_get 0 6 (wq_get 7 0 (wq_iconst (nI 1) (wq_i2 (fun x y => x + y) (wq_call ks_B_requireRoom 1 1 6 4 24 (wq_xout 4 24 xt) (wq_aload 0 (wq_get 0 6 (wq_iload 1 (wq_iload 2 (wq_iconst (nI 1) (wq_call (wq_rv 7 wq_no) 4 0 0 4 24 (wq_xout 4 24 xt) (wq_lstore 5 (wq_aload 0 (wq_get 0 7 (wq_get 8 3 (wq_iload 1 (wq_dup2 (wq_iald (wq_iload 2 (wq_i2 (fun x y => x + y) (wq_iast (wq_aload 0 (wq_get 0 7 (wq_get 8 4 (wq_iload 1 (wq_dup2 (wq_iald (wq_iload 2 (wq_iload 4 (wq_i2 (fun x y => x - y) (wq_i2 (fun x y => x + y) (wq_iast (wq_aload 0 (wq_get 0 6 (wq_iload 3 (wq_iload 4 (wq_lload 5 (wq_iconst (nI 1) (wq_iconst (nI 1) (wq_call (wq_rv 7 wq_no) 6 0 0 4 24 (wq_xout 4 24 xt) (wq_ireturn 4 24 rt)))))))))))))))))))))))))))))))))))))))))))
def kt_B_work_71 (rt : Option wq_V → wq_W → Prop) (xt : Nat → wq_W → Prop) : wq_T := (wq_iconst (nI 0) (kt_B_work_72 rt xt))
def kt_B_work_51 (rt : Option wq_V → wq_W → Prop) (xt : Nat → wq_W → Prop) : wq_T := (wq_call ks_B_requireArgument 1 1 6 4 24 (wq_xout 4 24 xt) (wq_aload 0 (wq_get 0 6 (wq_iload 1 (wq_iconst (nI 1) (wq_call (wq_rv 7 ks_L_unitsLeft) 3 0 0 4 24 (wq_xout 4 24 xt) (wq_iload 2 (wq_f2 (fun x y => x < y) (kt_B_work_71 rt xt) (wq_iconst (nI 1) (kt_B_work_72 rt xt))))))))))
def kt_B_work_50 (rt : Option wq_V → wq_W → Prop) (xt : Nat → wq_W → Prop) : wq_T := (wq_iconst (nI 0) (kt_B_work_51 rt xt))
def kt_B_work_24 (rt : Option wq_V → wq_W → Prop) (xt : Nat → wq_W → Prop) : wq_T := (wq_call ks_B_requireArgument 1 1 6 4 24 (wq_xout 4 24 xt) (wq_iconst (nI 1) (wq_iload 4 (wq_f2 (fun x y => y < x) (kt_B_work_50 rt xt) (wq_iload 4 (wq_iload 2 (wq_f2 (fun x y => y < x) (kt_B_work_50 rt xt) (wq_iload 2 (wq_iconst (nI 1000) (wq_f2 (fun x y => y < x) (kt_B_work_50 rt xt) (wq_iconst (nI 1) (kt_B_work_51 rt xt))))))))))))
def kt_B_work_23 (rt : Option wq_V → wq_W → Prop) (xt : Nat → wq_W → Prop) : wq_T := (wq_iconst (nI 0) (kt_B_work_24 rt xt))
def kt_B_work_0 (rt : Option wq_V → wq_W → Prop) (xt : Nat → wq_W → Prop) : wq_T := (wq_iload 1 (wq_call ks_B_isGood 1 0 0 4 24 (wq_xout 4 24 xt) (wq_f1 (fun x => x = 0) (kt_B_work_23 rt xt) (wq_iload 3 (wq_call ks_B_isGood 1 0 0 4 24 (wq_xout 4 24 xt) (wq_f1 (fun x => x = 0) (kt_B_work_23 rt xt) (wq_iload 1 (wq_iload 3 (wq_f2 (fun x y => x = y) (kt_B_work_23 rt xt) (wq_iconst (nI 1) (kt_B_work_24 rt xt)))))))))))
def ks_B_work : wq_S := wq_sp 7 (fun rt xt => kt_B_work_0 rt xt)
set_option maxRecDepth 100000 in
set_option maxHeartbeats 4000000 in
theorem kv_B_work {l : Launch} (hl : l.stackTraces = false) : wq_Vld l kz_cl ky_B_work kw_T ({ frames := 7, cells := 4, slots := 24, locals := 101 }) wq_G0 ks_B_work 4 24 := by
  refine wq_method (cc := kc_B_work) (maxL := 7) (ret := (some .int)) (by decide) kw_950 (fun _ _ => rfl) wq_sp_sz ?_
  intro p e s m args below meth c cs D ad as w rt xt hF hnt hsp
  obtain ⟨h0, hr, hts, hown, hlk, hnm, hml, hK, hZ, hN, hA⟩ := hF
  have hown : s.vm.findClass "BorderDesk" = some m.cls := hown
  obtain ⟨A, hAe⟩ : ∃ A, A = wq_A ad w s.heap.size := ⟨_, rfl⟩
  rw [← hAe] at hZ hA ⊢
  have hb_72 : wq_Snd p l e ({ frames := 7, cells := 4, slots := 24, locals := 101 } : Room) s m args below meth c 7 cs D kz_cl A (wq_G0 ad w) (wq_Q cs D kz_cl A (wq_G0 ad w) rt xt below s 4 24) 72 (kt_B_work_72 rt xt) := by
    refine wq_call_ok hA (wq_runS ⟨h0.1, h0.2, hml, hown, hts⟩ (kv_B_requireState hl) ⟨(wq_cB hts kw_G kw_480 kw_1 kw_478 ⟨by decide +kernel, by decide +kernel, by decide +kernel⟩ rfl rfl ⟨Nat.le_of_ble_eq_true rfl, Nat.le_of_ble_eq_true rfl⟩), hts _ kw_479⟩ hK hZ hN hA kd_B_work_72) (wq_xout_ok hnt hlk) ?_
    refine wq_aload_n_ok h0 kd_B_work_75 rfl ?_
    refine wq_get_ok (wq_getOK h0 hts ki_B hown hK (ci := 0) rfl 6 (Nat.le_of_ble_eq_true rfl) kw_376 rfl) kd_B_work_76 ?_
    refine wq_get_ok (wq_getOK h0 hts ki_L hown hK (ci := 7) rfl 0 (Nat.le_of_ble_eq_true rfl) kw_318 rfl) kd_B_work_79 ?_
    refine wq_iconst_ok h0 kd_B_work_82 (by decide +kernel) ?_
    refine wq_iadd_ok h0 kd_B_work_83 ?_
    refine wq_call_ok hA (wq_runS ⟨h0.1, h0.2, hml, hown, hts⟩ (kv_B_requireRoom hl) ⟨(wq_cB hts kw_G kw_858 kw_1 kw_856 ⟨by decide +kernel, by decide +kernel, by decide +kernel⟩ rfl rfl ⟨Nat.le_of_ble_eq_true rfl, Nat.le_of_ble_eq_true rfl⟩), hts _ kw_857⟩ hK hZ hN hA kd_B_work_84) (wq_xout_ok hnt hlk) ?_
    refine wq_aload_n_ok h0 kd_B_work_87 rfl ?_
    refine wq_get_ok (wq_getOK h0 hts ki_B hown hK (ci := 0) rfl 6 (Nat.le_of_ble_eq_true rfl) kw_376 rfl) kd_B_work_88 ?_
    refine wq_iload_n_ok h0 kd_B_work_91 rfl ?_
    refine wq_iload_n_ok h0 kd_B_work_92 rfl ?_
    refine wq_iconst_ok h0 kd_B_work_93 (by decide +kernel) ?_
    refine wq_call_ok hA (wq_runV (ci := 7) ⟨h0.1, h0.2, hml, hown, hts⟩ (wq_no_ok (y := ({ cls := "BorderDesk$Lots", name := "takeUnits", desc := "(IIZ)J" } : Jvm.MethodName)) (ws := kw_T) (rm := { frames := 0, cells := 0, slots := 0, locals := 0 }) (mc := 0) (ms := 0)) ⟨(wq_cB hts kw_G kw_931 kw_8 kw_928 ⟨by decide +kernel, by decide +kernel, by decide +kernel⟩ rfl rfl ⟨Nat.le_of_ble_eq_true rfl, Nat.le_of_ble_eq_true rfl⟩), hts _ kw_929, hts _ kw_930⟩ rfl rfl hK hZ hN hA kd_B_work_94) (wq_xout_ok hnt hlk) ?_
    refine wq_lstore_ok h0 kd_B_work_97 (Nat.le_of_ble_eq_true rfl) ?_
    refine wq_aload_n_ok h0 kd_B_work_99 rfl ?_
    refine wq_get_ok (wq_getOK h0 hts ki_B hown hK (ci := 0) rfl 7 (Nat.le_of_ble_eq_true rfl) kw_377 rfl) kd_B_work_100 ?_
    refine wq_get_ok (wq_getOK h0 hts ki_G hown hK (ci := 8) rfl 3 (Nat.le_of_ble_eq_true rfl) kw_356 rfl) kd_B_work_103 ?_
    refine wq_iload_n_ok h0 kd_B_work_106 rfl ?_
    refine wq_dup2_ok h0 kd_B_work_107 ?_
    refine wq_iald_ok h0 hK kd_B_work_108 ?_
    refine wq_iload_n_ok h0 kd_B_work_109 rfl ?_
    refine wq_iadd_ok h0 kd_B_work_110 ?_
    refine wq_iast_ok h0 hK kd_B_work_111 ?_
    refine wq_aload_n_ok h0 kd_B_work_112 rfl ?_
    refine wq_get_ok (wq_getOK h0 hts ki_B hown hK (ci := 0) rfl 7 (Nat.le_of_ble_eq_true rfl) kw_377 rfl) kd_B_work_113 ?_
    refine wq_get_ok (wq_getOK h0 hts ki_G hown hK (ci := 8) rfl 4 (Nat.le_of_ble_eq_true rfl) kw_358 rfl) kd_B_work_116 ?_
    refine wq_iload_n_ok h0 kd_B_work_119 rfl ?_
    refine wq_dup2_ok h0 kd_B_work_120 ?_
    refine wq_iald_ok h0 hK kd_B_work_121 ?_
    refine wq_iload_n_ok h0 kd_B_work_122 rfl ?_
    refine wq_iload_ok h0 kd_B_work_123 ?_
    refine wq_isub_ok h0 kd_B_work_125 ?_
    refine wq_iadd_ok h0 kd_B_work_126 ?_
    refine wq_iast_ok h0 hK kd_B_work_127 ?_
    refine wq_aload_n_ok h0 kd_B_work_128 rfl ?_
    refine wq_get_ok (wq_getOK h0 hts ki_B hown hK (ci := 0) rfl 6 (Nat.le_of_ble_eq_true rfl) kw_376 rfl) kd_B_work_129 ?_
    refine wq_iload_n_ok h0 kd_B_work_132 rfl ?_
    refine wq_iload_ok h0 kd_B_work_133 ?_
    refine wq_lload_ok h0 kd_B_work_135 ?_
    refine wq_iconst_ok h0 kd_B_work_137 (by decide +kernel) ?_
    refine wq_iconst_ok h0 kd_B_work_138 (by decide +kernel) ?_
    refine wq_call_ok hA (wq_runV (ci := 7) ⟨h0.1, h0.2, hml, hown, hts⟩ (wq_no_ok (y := ({ cls := "BorderDesk$Lots", name := "add", desc := "(IIJZZ)I" } : Jvm.MethodName)) (ws := kw_T) (rm := { frames := 0, cells := 0, slots := 0, locals := 0 }) (mc := 0) (ms := 0)) ⟨(wq_cB hts kw_G kw_885 kw_8 kw_882 ⟨by decide +kernel, by decide +kernel, by decide +kernel⟩ rfl rfl ⟨Nat.le_of_ble_eq_true rfl, Nat.le_of_ble_eq_true rfl⟩), hts _ kw_883, hts _ kw_884⟩ rfl rfl hK hZ hN hA kd_B_work_139) (wq_xout_ok hnt hlk) ?_
    exact wq_ireturn_ok h0 hr hlk kd_B_work_142
  have hb_71 : wq_Snd p l e ({ frames := 7, cells := 4, slots := 24, locals := 101 } : Room) s m args below meth c 7 cs D kz_cl A (wq_G0 ad w) (wq_Q cs D kz_cl A (wq_G0 ad w) rt xt below s 4 24) 71 (kt_B_work_71 rt xt) := by
    refine wq_iconst_ok h0 kd_B_work_71 (by decide +kernel) ?_
    exact hb_72
  have hb_51 : wq_Snd p l e ({ frames := 7, cells := 4, slots := 24, locals := 101 } : Room) s m args below meth c 7 cs D kz_cl A (wq_G0 ad w) (wq_Q cs D kz_cl A (wq_G0 ad w) rt xt below s 4 24) 51 (kt_B_work_51 rt xt) := by
    refine wq_call_ok hA (wq_runS ⟨h0.1, h0.2, hml, hown, hts⟩ (kv_B_requireArgument hl) ⟨(wq_cB hts kw_G kw_413 kw_1 kw_411 ⟨by decide +kernel, by decide +kernel, by decide +kernel⟩ rfl rfl ⟨Nat.le_of_ble_eq_true rfl, Nat.le_of_ble_eq_true rfl⟩), hts _ kw_412⟩ hK hZ hN hA kd_B_work_51) (wq_xout_ok hnt hlk) ?_
    refine wq_aload_n_ok h0 kd_B_work_54 rfl ?_
    refine wq_get_ok (wq_getOK h0 hts ki_B hown hK (ci := 0) rfl 6 (Nat.le_of_ble_eq_true rfl) kw_376 rfl) kd_B_work_55 ?_
    refine wq_iload_n_ok h0 kd_B_work_58 rfl ?_
    refine wq_iconst_ok h0 kd_B_work_59 (by decide +kernel) ?_
    refine wq_call_ok hA (wq_runV (ci := 7) ⟨h0.1, h0.2, hml, hown, hts⟩ (kv_L_unitsLeft hl) ⟨(wq_cB hts kw_G kw_927 kw_8 kw_924 ⟨by decide +kernel, by decide +kernel, by decide +kernel⟩ rfl rfl ⟨Nat.le_of_ble_eq_true rfl, Nat.le_of_ble_eq_true rfl⟩), hts _ kw_925, hts _ kw_926⟩ rfl rfl hK hZ hN hA kd_B_work_60) (wq_xout_ok hnt hlk) ?_
    refine wq_iload_n_ok h0 kd_B_work_63 rfl ?_
    refine wq_icmp_lt_ok (tgt := 71) h0 kd_B_work_64 (by decide) ?_ ?_
    · exact hb_71
    refine wq_iconst_ok h0 kd_B_work_67 (by decide +kernel) ?_
    refine wq_goto_ok (tgt := 72) h0 kd_B_work_68 (by decide) ?_
    exact hb_72
  have hb_50 : wq_Snd p l e ({ frames := 7, cells := 4, slots := 24, locals := 101 } : Room) s m args below meth c 7 cs D kz_cl A (wq_G0 ad w) (wq_Q cs D kz_cl A (wq_G0 ad w) rt xt below s 4 24) 50 (kt_B_work_50 rt xt) := by
    refine wq_iconst_ok h0 kd_B_work_50 (by decide +kernel) ?_
    exact hb_51
  have hb_24 : wq_Snd p l e ({ frames := 7, cells := 4, slots := 24, locals := 101 } : Room) s m args below meth c 7 cs D kz_cl A (wq_G0 ad w) (wq_Q cs D kz_cl A (wq_G0 ad w) rt xt below s 4 24) 24 (kt_B_work_24 rt xt) := by
    refine wq_call_ok hA (wq_runS ⟨h0.1, h0.2, hml, hown, hts⟩ (kv_B_requireArgument hl) ⟨(wq_cB hts kw_G kw_413 kw_1 kw_411 ⟨by decide +kernel, by decide +kernel, by decide +kernel⟩ rfl rfl ⟨Nat.le_of_ble_eq_true rfl, Nat.le_of_ble_eq_true rfl⟩), hts _ kw_412⟩ hK hZ hN hA kd_B_work_24) (wq_xout_ok hnt hlk) ?_
    refine wq_iconst_ok h0 kd_B_work_27 (by decide +kernel) ?_
    refine wq_iload_ok h0 kd_B_work_28 ?_
    refine wq_icmp_gt_ok (tgt := 50) h0 kd_B_work_30 (by decide) ?_ ?_
    · exact hb_50
    refine wq_iload_ok h0 kd_B_work_33 ?_
    refine wq_iload_n_ok h0 kd_B_work_35 rfl ?_
    refine wq_icmp_gt_ok (tgt := 50) h0 kd_B_work_36 (by decide) ?_ ?_
    · exact hb_50
    refine wq_iload_n_ok h0 kd_B_work_39 rfl ?_
    refine wq_sipush_ok h0 kd_B_work_40 (by decide +kernel) ?_
    refine wq_icmp_gt_ok (tgt := 50) h0 kd_B_work_43 (by decide) ?_ ?_
    · exact hb_50
    refine wq_iconst_ok h0 kd_B_work_46 (by decide +kernel) ?_
    refine wq_goto_ok (tgt := 51) h0 kd_B_work_47 (by decide) ?_
    exact hb_51
  have hb_23 : wq_Snd p l e ({ frames := 7, cells := 4, slots := 24, locals := 101 } : Room) s m args below meth c 7 cs D kz_cl A (wq_G0 ad w) (wq_Q cs D kz_cl A (wq_G0 ad w) rt xt below s 4 24) 23 (kt_B_work_23 rt xt) := by
    refine wq_iconst_ok h0 kd_B_work_23 (by decide +kernel) ?_
    exact hb_24
  have hb_0 : wq_Snd p l e ({ frames := 7, cells := 4, slots := 24, locals := 101 } : Room) s m args below meth c 7 cs D kz_cl A (wq_G0 ad w) (wq_Q cs D kz_cl A (wq_G0 ad w) rt xt below s 4 24) 0 (kt_B_work_0 rt xt) := by
    refine wq_iload_n_ok h0 kd_B_work_0 rfl ?_
    refine wq_call_ok hA (wq_runS ⟨h0.1, h0.2, hml, hown, hts⟩ (kv_B_isGood hl) ⟨(wq_cB hts kw_G kw_531 kw_1 kw_529 ⟨by decide +kernel, by decide +kernel, by decide +kernel⟩ rfl rfl ⟨Nat.le_of_ble_eq_true rfl, Nat.le_of_ble_eq_true rfl⟩), hts _ kw_530⟩ hK hZ hN hA kd_B_work_1) (wq_xout_ok hnt hlk) ?_
    refine wq_if_eq_ok (tgt := 23) h0 kd_B_work_4 (by decide) ?_ ?_
    · exact hb_23
    refine wq_iload_n_ok h0 kd_B_work_7 rfl ?_
    refine wq_call_ok hA (wq_runS ⟨h0.1, h0.2, hml, hown, hts⟩ (kv_B_isGood hl) ⟨(wq_cB hts kw_G kw_531 kw_1 kw_529 ⟨by decide +kernel, by decide +kernel, by decide +kernel⟩ rfl rfl ⟨Nat.le_of_ble_eq_true rfl, Nat.le_of_ble_eq_true rfl⟩), hts _ kw_530⟩ hK hZ hN hA kd_B_work_8) (wq_xout_ok hnt hlk) ?_
    refine wq_if_eq_ok (tgt := 23) h0 kd_B_work_11 (by decide) ?_ ?_
    · exact hb_23
    refine wq_iload_n_ok h0 kd_B_work_14 rfl ?_
    refine wq_iload_n_ok h0 kd_B_work_15 rfl ?_
    refine wq_icmp_eq_ok (tgt := 23) h0 kd_B_work_16 (by decide) ?_ ?_
    · exact hb_23
    refine wq_iconst_ok h0 kd_B_work_19 (by decide +kernel) ?_
    refine wq_goto_ok (tgt := 24) h0 kd_B_work_20 (by decide) ?_
    exact hb_24
  exact hb_0 _ _ _ _ _ (wq_sp_t hsp)
-- BorderDesk.lot(II)J
def kt_B_lot_56 (rt : Option wq_V → wq_W → Prop) (xt : Nat → wq_W → Prop) : wq_T := (wq_aload 0 (wq_get 0 6 (wq_get 7 1 (wq_iload 1 (wq_iald (wq_i2l (wq_lreturn 2 12 rt)))))))
def kt_B_lot_67 (rt : Option wq_V → wq_W → Prop) (xt : Nat → wq_W → Prop) : wq_T := (wq_aload 0 (wq_get 0 6 (wq_get 7 2 (wq_iload 1 (wq_iald (wq_i2l (wq_lreturn 2 12 rt)))))))
def kt_B_lot_78 (rt : Option wq_V → wq_W → Prop) (xt : Nat → wq_W → Prop) : wq_T := (wq_aload 0 (wq_get 0 6 (wq_get 7 3 (wq_iload 1 (wq_iald (wq_i2l (wq_lreturn 2 12 rt)))))))
def kt_B_lot_89 (rt : Option wq_V → wq_W → Prop) (xt : Nat → wq_W → Prop) : wq_T := (wq_aload 0 (wq_get 0 6 (wq_get 7 4 (wq_iload 1 (wq_lald (wq_lreturn 2 12 rt))))))
def kt_B_lot_116 (rt : Option wq_V → wq_W → Prop) (xt : Nat → wq_W → Prop) : wq_T := (wq_lreturn 2 12 rt)
def kt_B_lot_115 (rt : Option wq_V → wq_W → Prop) (xt : Nat → wq_W → Prop) : wq_T := (wq_lconst (0 : Int64) (kt_B_lot_116 rt xt))
def kt_B_lot_99 (rt : Option wq_V → wq_W → Prop) (xt : Nat → wq_W → Prop) : wq_T := (wq_aload 0 (wq_get 0 6 (wq_get 7 5 (wq_iload 1 (wq_zald (wq_f1 (fun x => x = 0) (kt_B_lot_115 rt xt) (wq_lconst (1 : Int64) (kt_B_lot_116 rt xt))))))))
def kt_B_lot_0 (rt : Option wq_V → wq_W → Prop) (xt : Nat → wq_W → Prop) : wq_T := (wq_iload 1 (wq_aload 0 (wq_get 0 6 (wq_get 7 0 (wq_call ks_B_isBelow 2 0 0 2 12 (wq_xout 2 12 xt) (wq_call ks_B_requireArgument 1 1 6 2 12 (wq_xout 2 12 xt) (wq_iload 2 (wq_iconst (nI 0) (wq_iconst (nI 4) (wq_call ks_B_isWithin 3 0 0 2 12 (wq_xout 2 12 xt) (wq_call ks_B_requireArgument 1 1 6 2 12 (wq_xout 2 12 xt) (wq_iload 2 (wq_sw [((nI 0), (kt_B_lot_56 rt xt)), ((nI 1), (kt_B_lot_67 rt xt)), ((nI 2), (kt_B_lot_78 rt xt)), ((nI 3), (kt_B_lot_89 rt xt))] (kt_B_lot_99 rt xt))))))))))))))
def ks_B_lot : wq_S := wq_sp 3 (fun rt xt => kt_B_lot_0 rt xt)
set_option maxRecDepth 100000 in
set_option maxHeartbeats 4000000 in
theorem kv_B_lot {l : Launch} (hl : l.stackTraces = false) : wq_Vld l kz_cl ky_B_lot kw_T ({ frames := 7, cells := 2, slots := 12, locals := 101 }) wq_G0 ks_B_lot 2 12 := by
  refine wq_method (cc := kc_B_lot) (maxL := 3) (ret := (some .long)) (by decide) kw_957 (fun _ _ => rfl) wq_sp_sz ?_
  intro p e s m args below meth c cs D ad as w rt xt hF hnt hsp
  obtain ⟨h0, hr, hts, hown, hlk, hnm, hml, hK, hZ, hN, hA⟩ := hF
  have hown : s.vm.findClass "BorderDesk" = some m.cls := hown
  obtain ⟨A, hAe⟩ : ∃ A, A = wq_A ad w s.heap.size := ⟨_, rfl⟩
  rw [← hAe] at hZ hA ⊢
  have hb_56 : wq_Snd p l e ({ frames := 7, cells := 2, slots := 12, locals := 101 } : Room) s m args below meth c 3 cs D kz_cl A (wq_G0 ad w) (wq_Q cs D kz_cl A (wq_G0 ad w) rt xt below s 2 12) 56 (kt_B_lot_56 rt xt) := by
    refine wq_aload_n_ok h0 kd_B_lot_56 rfl ?_
    refine wq_get_ok (wq_getOK h0 hts ki_B hown hK (ci := 0) rfl 6 (Nat.le_of_ble_eq_true rfl) kw_376 rfl) kd_B_lot_57 ?_
    refine wq_get_ok (wq_getOK h0 hts ki_L hown hK (ci := 7) rfl 1 (Nat.le_of_ble_eq_true rfl) kw_320 rfl) kd_B_lot_60 ?_
    refine wq_iload_n_ok h0 kd_B_lot_63 rfl ?_
    refine wq_iald_ok h0 hK kd_B_lot_64 ?_
    refine wq_i2l_ok h0 kd_B_lot_65 ?_
    exact wq_lreturn_ok h0 hr hlk kd_B_lot_66
  have hb_67 : wq_Snd p l e ({ frames := 7, cells := 2, slots := 12, locals := 101 } : Room) s m args below meth c 3 cs D kz_cl A (wq_G0 ad w) (wq_Q cs D kz_cl A (wq_G0 ad w) rt xt below s 2 12) 67 (kt_B_lot_67 rt xt) := by
    refine wq_aload_n_ok h0 kd_B_lot_67 rfl ?_
    refine wq_get_ok (wq_getOK h0 hts ki_B hown hK (ci := 0) rfl 6 (Nat.le_of_ble_eq_true rfl) kw_376 rfl) kd_B_lot_68 ?_
    refine wq_get_ok (wq_getOK h0 hts ki_L hown hK (ci := 7) rfl 2 (Nat.le_of_ble_eq_true rfl) kw_322 rfl) kd_B_lot_71 ?_
    refine wq_iload_n_ok h0 kd_B_lot_74 rfl ?_
    refine wq_iald_ok h0 hK kd_B_lot_75 ?_
    refine wq_i2l_ok h0 kd_B_lot_76 ?_
    exact wq_lreturn_ok h0 hr hlk kd_B_lot_77
  have hb_78 : wq_Snd p l e ({ frames := 7, cells := 2, slots := 12, locals := 101 } : Room) s m args below meth c 3 cs D kz_cl A (wq_G0 ad w) (wq_Q cs D kz_cl A (wq_G0 ad w) rt xt below s 2 12) 78 (kt_B_lot_78 rt xt) := by
    refine wq_aload_n_ok h0 kd_B_lot_78 rfl ?_
    refine wq_get_ok (wq_getOK h0 hts ki_B hown hK (ci := 0) rfl 6 (Nat.le_of_ble_eq_true rfl) kw_376 rfl) kd_B_lot_79 ?_
    refine wq_get_ok (wq_getOK h0 hts ki_L hown hK (ci := 7) rfl 3 (Nat.le_of_ble_eq_true rfl) kw_324 rfl) kd_B_lot_82 ?_
    refine wq_iload_n_ok h0 kd_B_lot_85 rfl ?_
    refine wq_iald_ok h0 hK kd_B_lot_86 ?_
    refine wq_i2l_ok h0 kd_B_lot_87 ?_
    exact wq_lreturn_ok h0 hr hlk kd_B_lot_88
  have hb_89 : wq_Snd p l e ({ frames := 7, cells := 2, slots := 12, locals := 101 } : Room) s m args below meth c 3 cs D kz_cl A (wq_G0 ad w) (wq_Q cs D kz_cl A (wq_G0 ad w) rt xt below s 2 12) 89 (kt_B_lot_89 rt xt) := by
    refine wq_aload_n_ok h0 kd_B_lot_89 rfl ?_
    refine wq_get_ok (wq_getOK h0 hts ki_B hown hK (ci := 0) rfl 6 (Nat.le_of_ble_eq_true rfl) kw_376 rfl) kd_B_lot_90 ?_
    refine wq_get_ok (wq_getOK h0 hts ki_L hown hK (ci := 7) rfl 4 (Nat.le_of_ble_eq_true rfl) kw_326 rfl) kd_B_lot_93 ?_
    refine wq_iload_n_ok h0 kd_B_lot_96 rfl ?_
    refine wq_lald_ok h0 hK kd_B_lot_97 ?_
    exact wq_lreturn_ok h0 hr hlk kd_B_lot_98
  have hb_116 : wq_Snd p l e ({ frames := 7, cells := 2, slots := 12, locals := 101 } : Room) s m args below meth c 3 cs D kz_cl A (wq_G0 ad w) (wq_Q cs D kz_cl A (wq_G0 ad w) rt xt below s 2 12) 116 (kt_B_lot_116 rt xt) := by
    exact wq_lreturn_ok h0 hr hlk kd_B_lot_116
  have hb_115 : wq_Snd p l e ({ frames := 7, cells := 2, slots := 12, locals := 101 } : Room) s m args below meth c 3 cs D kz_cl A (wq_G0 ad w) (wq_Q cs D kz_cl A (wq_G0 ad w) rt xt below s 2 12) 115 (kt_B_lot_115 rt xt) := by
    refine wq_lconst_ok h0 kd_B_lot_115 (by decide +kernel) ?_
    exact hb_116
  have hb_99 : wq_Snd p l e ({ frames := 7, cells := 2, slots := 12, locals := 101 } : Room) s m args below meth c 3 cs D kz_cl A (wq_G0 ad w) (wq_Q cs D kz_cl A (wq_G0 ad w) rt xt below s 2 12) 99 (kt_B_lot_99 rt xt) := by
    refine wq_aload_n_ok h0 kd_B_lot_99 rfl ?_
    refine wq_get_ok (wq_getOK h0 hts ki_B hown hK (ci := 0) rfl 6 (Nat.le_of_ble_eq_true rfl) kw_376 rfl) kd_B_lot_100 ?_
    refine wq_get_ok (wq_getOK h0 hts ki_L hown hK (ci := 7) rfl 5 (Nat.le_of_ble_eq_true rfl) kw_328 rfl) kd_B_lot_103 ?_
    refine wq_iload_n_ok h0 kd_B_lot_106 rfl ?_
    refine wq_zald_ok h0 hK kd_B_lot_107 ?_
    refine wq_if_eq_ok (tgt := 115) h0 kd_B_lot_108 (by decide) ?_ ?_
    · exact hb_115
    refine wq_lconst_ok h0 kd_B_lot_111 (by decide +kernel) ?_
    refine wq_goto_ok (tgt := 116) h0 kd_B_lot_112 (by decide) ?_
    exact hb_116
  have hb_0 : wq_Snd p l e ({ frames := 7, cells := 2, slots := 12, locals := 101 } : Room) s m args below meth c 3 cs D kz_cl A (wq_G0 ad w) (wq_Q cs D kz_cl A (wq_G0 ad w) rt xt below s 2 12) 0 (kt_B_lot_0 rt xt) := by
    refine wq_iload_n_ok h0 kd_B_lot_0 rfl ?_
    refine wq_aload_n_ok h0 kd_B_lot_1 rfl ?_
    refine wq_get_ok (wq_getOK h0 hts ki_B hown hK (ci := 0) rfl 6 (Nat.le_of_ble_eq_true rfl) kw_376 rfl) kd_B_lot_2 ?_
    refine wq_get_ok (wq_getOK h0 hts ki_L hown hK (ci := 7) rfl 0 (Nat.le_of_ble_eq_true rfl) kw_318 rfl) kd_B_lot_5 ?_
    refine wq_call_ok hA (wq_runS ⟨h0.1, h0.2, hml, hown, hts⟩ (kv_B_isBelow hl) ⟨(wq_cB hts kw_G kw_410 kw_1 kw_408 ⟨by decide +kernel, by decide +kernel, by decide +kernel⟩ rfl rfl ⟨Nat.le_of_ble_eq_true rfl, Nat.le_of_ble_eq_true rfl⟩), hts _ kw_409⟩ hK hZ hN hA kd_B_lot_8) (wq_xout_ok hnt hlk) ?_
    refine wq_call_ok hA (wq_runS ⟨h0.1, h0.2, hml, hown, hts⟩ (kv_B_requireArgument hl) ⟨(wq_cB hts kw_G kw_413 kw_1 kw_411 ⟨by decide +kernel, by decide +kernel, by decide +kernel⟩ rfl rfl ⟨Nat.le_of_ble_eq_true rfl, Nat.le_of_ble_eq_true rfl⟩), hts _ kw_412⟩ hK hZ hN hA kd_B_lot_11) (wq_xout_ok hnt hlk) ?_
    refine wq_iload_n_ok h0 kd_B_lot_14 rfl ?_
    refine wq_iconst_ok h0 kd_B_lot_15 (by decide +kernel) ?_
    refine wq_iconst_ok h0 kd_B_lot_16 (by decide +kernel) ?_
    refine wq_call_ok hA (wq_runS ⟨h0.1, h0.2, hml, hown, hts⟩ (kv_B_isWithin hl) ⟨(wq_cB hts kw_G kw_517 kw_1 kw_515 ⟨by decide +kernel, by decide +kernel, by decide +kernel⟩ rfl rfl ⟨Nat.le_of_ble_eq_true rfl, Nat.le_of_ble_eq_true rfl⟩), hts _ kw_516⟩ hK hZ hN hA kd_B_lot_17) (wq_xout_ok hnt hlk) ?_
    refine wq_call_ok hA (wq_runS ⟨h0.1, h0.2, hml, hown, hts⟩ (kv_B_requireArgument hl) ⟨(wq_cB hts kw_G kw_413 kw_1 kw_411 ⟨by decide +kernel, by decide +kernel, by decide +kernel⟩ rfl rfl ⟨Nat.le_of_ble_eq_true rfl, Nat.le_of_ble_eq_true rfl⟩), hts _ kw_412⟩ hK hZ hN hA kd_B_lot_20) (wq_xout_ok hnt hlk) ?_
    refine wq_iload_n_ok h0 kd_B_lot_23 rfl ?_
    refine wq_sw_ok ?_ ?_
    · exact List.forall_mem_cons.mpr ⟨⟨56, (by exact hb_56), fun H locs n1 n2 ls rest hw => lv_tableIn (tgt := 56) (off := 32) h0.1 h0.2 kd_B_lot_24 (show ¬ (nI 0).toInt < 0 by decide +kernel) (show ¬ 3 < (nI 0).toInt by decide +kernel) (show (#[32, 43, 54, 65] : Array Int)[((nI 0).toInt - 0).toNat]? = some 32 by decide +kernel) (by decide) hw⟩, List.forall_mem_cons.mpr ⟨⟨67, (by exact hb_67), fun H locs n1 n2 ls rest hw => lv_tableIn (tgt := 67) (off := 43) h0.1 h0.2 kd_B_lot_24 (show ¬ (nI 1).toInt < 0 by decide +kernel) (show ¬ 3 < (nI 1).toInt by decide +kernel) (show (#[32, 43, 54, 65] : Array Int)[((nI 1).toInt - 0).toNat]? = some 43 by decide +kernel) (by decide) hw⟩, List.forall_mem_cons.mpr ⟨⟨78, (by exact hb_78), fun H locs n1 n2 ls rest hw => lv_tableIn (tgt := 78) (off := 54) h0.1 h0.2 kd_B_lot_24 (show ¬ (nI 2).toInt < 0 by decide +kernel) (show ¬ 3 < (nI 2).toInt by decide +kernel) (show (#[32, 43, 54, 65] : Array Int)[((nI 2).toInt - 0).toNat]? = some 54 by decide +kernel) (by decide) hw⟩, List.forall_mem_cons.mpr ⟨⟨89, (by exact hb_89), fun H locs n1 n2 ls rest hw => lv_tableIn (tgt := 89) (off := 65) h0.1 h0.2 kd_B_lot_24 (show ¬ (nI 3).toInt < 0 by decide +kernel) (show ¬ 3 < (nI 3).toInt by decide +kernel) (show (#[32, 43, 54, 65] : Array Int)[((nI 3).toInt - 0).toNat]? = some 65 by decide +kernel) (by decide) hw⟩, fun _ h => absurd h List.not_mem_nil⟩⟩⟩⟩
    · exact ⟨99, (by exact hb_99), fun H locs n1 n2 ls rest x hq hw => lv_tableOut (tgt := 99) h0.1 h0.2 kd_B_lot_24 (wq_tabO 0 3 (by decide) (fun k h1 h2 => by rcases (show k = 0 ∨ k = 1 ∨ k = 2 ∨ k = 3 by omega) with rfl | rfl | rfl | rfl <;> first | exact hq _ List.mem_cons_self | exact hq _ (List.mem_cons_of_mem _ List.mem_cons_self) | exact hq _ (List.mem_cons_of_mem _ (List.mem_cons_of_mem _ List.mem_cons_self)) | exact hq _ (List.mem_cons_of_mem _ (List.mem_cons_of_mem _ (List.mem_cons_of_mem _ List.mem_cons_self))))) (by decide) hw⟩
  exact hb_0 _ _ _ _ _ (wq_sp_t hsp)
-- BorderDesk.account(II)J
def kt_B_account_52 (rt : Option wq_V → wq_W → Prop) (xt : Nat → wq_W → Prop) : wq_T := (wq_aload 0 (wq_get 0 6 (wq_iload 1 (wq_iconst (nI 0) (wq_call (wq_rv 7 ks_L_heldUnitsThatCame) 3 0 0 2 12 (wq_xout 2 12 xt) (wq_i2l (wq_lreturn 2 12 rt)))))))
def kt_B_account_63 (rt : Option wq_V → wq_W → Prop) (xt : Nat → wq_W → Prop) : wq_T := (wq_aload 0 (wq_get 0 6 (wq_iload 1 (wq_iconst (nI 1) (wq_call (wq_rv 7 ks_L_heldUnitsThatCame) 3 0 0 2 12 (wq_xout 2 12 xt) (wq_i2l (wq_lreturn 2 12 rt)))))))
def kt_B_account_74 (rt : Option wq_V → wq_W → Prop) (xt : Nat → wq_W → Prop) : wq_T := (wq_aload 0 (wq_get 0 7 (wq_get 8 2 (wq_iload 1 (wq_iald (wq_i2l (wq_lreturn 2 12 rt)))))))
def kt_B_account_85 (rt : Option wq_V → wq_W → Prop) (xt : Nat → wq_W → Prop) : wq_T := (wq_aload 0 (wq_get 0 7 (wq_get 8 3 (wq_iload 1 (wq_iald (wq_i2l (wq_lreturn 2 12 rt)))))))
def kt_B_account_96 (rt : Option wq_V → wq_W → Prop) (xt : Nat → wq_W → Prop) : wq_T := (wq_aload 0 (wq_get 0 7 (wq_get 8 4 (wq_iload 1 (wq_iald (wq_i2l (wq_lreturn 2 12 rt)))))))
def kt_B_account_107 (rt : Option wq_V → wq_W → Prop) (xt : Nat → wq_W → Prop) : wq_T := (wq_aload 0 (wq_get 0 6 (wq_iload 1 (wq_iconst (nI 1) (wq_call (wq_rv 7 ks_L_unitsLeft) 3 0 0 2 12 (wq_xout 2 12 xt) (wq_i2l (wq_lreturn 2 12 rt)))))))
def kt_B_account_0 (rt : Option wq_V → wq_W → Prop) (xt : Nat → wq_W → Prop) : wq_T := (wq_iload 1 (wq_call ks_B_isGood 1 0 0 2 12 (wq_xout 2 12 xt) (wq_call ks_B_requireArgument 1 1 6 2 12 (wq_xout 2 12 xt) (wq_iload 2 (wq_iconst (nI 0) (wq_iconst (nI 5) (wq_call ks_B_isWithin 3 0 0 2 12 (wq_xout 2 12 xt) (wq_call ks_B_requireArgument 1 1 6 2 12 (wq_xout 2 12 xt) (wq_iload 2 (wq_sw [((nI 0), (kt_B_account_52 rt xt)), ((nI 1), (kt_B_account_63 rt xt)), ((nI 2), (kt_B_account_74 rt xt)), ((nI 3), (kt_B_account_85 rt xt)), ((nI 4), (kt_B_account_96 rt xt))] (kt_B_account_107 rt xt)))))))))))
def ks_B_account : wq_S := wq_sp 3 (fun rt xt => kt_B_account_0 rt xt)
set_option maxRecDepth 100000 in
set_option maxHeartbeats 4000000 in
theorem kv_B_account {l : Launch} (hl : l.stackTraces = false) : wq_Vld l kz_cl ky_B_account kw_T ({ frames := 7, cells := 2, slots := 12, locals := 101 }) wq_G0 ks_B_account 2 12 := by
  refine wq_method (cc := kc_B_account) (maxL := 3) (ret := (some .long)) (by decide) kw_964 (fun _ _ => rfl) wq_sp_sz ?_
  intro p e s m args below meth c cs D ad as w rt xt hF hnt hsp
  obtain ⟨h0, hr, hts, hown, hlk, hnm, hml, hK, hZ, hN, hA⟩ := hF
  have hown : s.vm.findClass "BorderDesk" = some m.cls := hown
  obtain ⟨A, hAe⟩ : ∃ A, A = wq_A ad w s.heap.size := ⟨_, rfl⟩
  rw [← hAe] at hZ hA ⊢
  have hb_52 : wq_Snd p l e ({ frames := 7, cells := 2, slots := 12, locals := 101 } : Room) s m args below meth c 3 cs D kz_cl A (wq_G0 ad w) (wq_Q cs D kz_cl A (wq_G0 ad w) rt xt below s 2 12) 52 (kt_B_account_52 rt xt) := by
    refine wq_aload_n_ok h0 kd_B_account_52 rfl ?_
    refine wq_get_ok (wq_getOK h0 hts ki_B hown hK (ci := 0) rfl 6 (Nat.le_of_ble_eq_true rfl) kw_376 rfl) kd_B_account_53 ?_
    refine wq_iload_n_ok h0 kd_B_account_56 rfl ?_
    refine wq_iconst_ok h0 kd_B_account_57 (by decide +kernel) ?_
    refine wq_call_ok hA (wq_runV (ci := 7) ⟨h0.1, h0.2, hml, hown, hts⟩ (kv_L_heldUnitsThatCame hl) ⟨(wq_cB hts kw_G kw_968 kw_8 kw_965 ⟨by decide +kernel, by decide +kernel, by decide +kernel⟩ rfl rfl ⟨Nat.le_of_ble_eq_true rfl, Nat.le_of_ble_eq_true rfl⟩), hts _ kw_966, hts _ kw_967⟩ rfl rfl hK hZ hN hA kd_B_account_58) (wq_xout_ok hnt hlk) ?_
    refine wq_i2l_ok h0 kd_B_account_61 ?_
    exact wq_lreturn_ok h0 hr hlk kd_B_account_62
  have hb_63 : wq_Snd p l e ({ frames := 7, cells := 2, slots := 12, locals := 101 } : Room) s m args below meth c 3 cs D kz_cl A (wq_G0 ad w) (wq_Q cs D kz_cl A (wq_G0 ad w) rt xt below s 2 12) 63 (kt_B_account_63 rt xt) := by
    refine wq_aload_n_ok h0 kd_B_account_63 rfl ?_
    refine wq_get_ok (wq_getOK h0 hts ki_B hown hK (ci := 0) rfl 6 (Nat.le_of_ble_eq_true rfl) kw_376 rfl) kd_B_account_64 ?_
    refine wq_iload_n_ok h0 kd_B_account_67 rfl ?_
    refine wq_iconst_ok h0 kd_B_account_68 (by decide +kernel) ?_
    refine wq_call_ok hA (wq_runV (ci := 7) ⟨h0.1, h0.2, hml, hown, hts⟩ (kv_L_heldUnitsThatCame hl) ⟨(wq_cB hts kw_G kw_968 kw_8 kw_965 ⟨by decide +kernel, by decide +kernel, by decide +kernel⟩ rfl rfl ⟨Nat.le_of_ble_eq_true rfl, Nat.le_of_ble_eq_true rfl⟩), hts _ kw_966, hts _ kw_967⟩ rfl rfl hK hZ hN hA kd_B_account_69) (wq_xout_ok hnt hlk) ?_
    refine wq_i2l_ok h0 kd_B_account_72 ?_
    exact wq_lreturn_ok h0 hr hlk kd_B_account_73
  have hb_74 : wq_Snd p l e ({ frames := 7, cells := 2, slots := 12, locals := 101 } : Room) s m args below meth c 3 cs D kz_cl A (wq_G0 ad w) (wq_Q cs D kz_cl A (wq_G0 ad w) rt xt below s 2 12) 74 (kt_B_account_74 rt xt) := by
    refine wq_aload_n_ok h0 kd_B_account_74 rfl ?_
    refine wq_get_ok (wq_getOK h0 hts ki_B hown hK (ci := 0) rfl 7 (Nat.le_of_ble_eq_true rfl) kw_377 rfl) kd_B_account_75 ?_
    refine wq_get_ok (wq_getOK h0 hts ki_G hown hK (ci := 8) rfl 2 (Nat.le_of_ble_eq_true rfl) kw_354 rfl) kd_B_account_78 ?_
    refine wq_iload_n_ok h0 kd_B_account_81 rfl ?_
    refine wq_iald_ok h0 hK kd_B_account_82 ?_
    refine wq_i2l_ok h0 kd_B_account_83 ?_
    exact wq_lreturn_ok h0 hr hlk kd_B_account_84
  have hb_85 : wq_Snd p l e ({ frames := 7, cells := 2, slots := 12, locals := 101 } : Room) s m args below meth c 3 cs D kz_cl A (wq_G0 ad w) (wq_Q cs D kz_cl A (wq_G0 ad w) rt xt below s 2 12) 85 (kt_B_account_85 rt xt) := by
    refine wq_aload_n_ok h0 kd_B_account_85 rfl ?_
    refine wq_get_ok (wq_getOK h0 hts ki_B hown hK (ci := 0) rfl 7 (Nat.le_of_ble_eq_true rfl) kw_377 rfl) kd_B_account_86 ?_
    refine wq_get_ok (wq_getOK h0 hts ki_G hown hK (ci := 8) rfl 3 (Nat.le_of_ble_eq_true rfl) kw_356 rfl) kd_B_account_89 ?_
    refine wq_iload_n_ok h0 kd_B_account_92 rfl ?_
    refine wq_iald_ok h0 hK kd_B_account_93 ?_
    refine wq_i2l_ok h0 kd_B_account_94 ?_
    exact wq_lreturn_ok h0 hr hlk kd_B_account_95
  have hb_96 : wq_Snd p l e ({ frames := 7, cells := 2, slots := 12, locals := 101 } : Room) s m args below meth c 3 cs D kz_cl A (wq_G0 ad w) (wq_Q cs D kz_cl A (wq_G0 ad w) rt xt below s 2 12) 96 (kt_B_account_96 rt xt) := by
    refine wq_aload_n_ok h0 kd_B_account_96 rfl ?_
    refine wq_get_ok (wq_getOK h0 hts ki_B hown hK (ci := 0) rfl 7 (Nat.le_of_ble_eq_true rfl) kw_377 rfl) kd_B_account_97 ?_
    refine wq_get_ok (wq_getOK h0 hts ki_G hown hK (ci := 8) rfl 4 (Nat.le_of_ble_eq_true rfl) kw_358 rfl) kd_B_account_100 ?_
    refine wq_iload_n_ok h0 kd_B_account_103 rfl ?_
    refine wq_iald_ok h0 hK kd_B_account_104 ?_
    refine wq_i2l_ok h0 kd_B_account_105 ?_
    exact wq_lreturn_ok h0 hr hlk kd_B_account_106
  have hb_107 : wq_Snd p l e ({ frames := 7, cells := 2, slots := 12, locals := 101 } : Room) s m args below meth c 3 cs D kz_cl A (wq_G0 ad w) (wq_Q cs D kz_cl A (wq_G0 ad w) rt xt below s 2 12) 107 (kt_B_account_107 rt xt) := by
    refine wq_aload_n_ok h0 kd_B_account_107 rfl ?_
    refine wq_get_ok (wq_getOK h0 hts ki_B hown hK (ci := 0) rfl 6 (Nat.le_of_ble_eq_true rfl) kw_376 rfl) kd_B_account_108 ?_
    refine wq_iload_n_ok h0 kd_B_account_111 rfl ?_
    refine wq_iconst_ok h0 kd_B_account_112 (by decide +kernel) ?_
    refine wq_call_ok hA (wq_runV (ci := 7) ⟨h0.1, h0.2, hml, hown, hts⟩ (kv_L_unitsLeft hl) ⟨(wq_cB hts kw_G kw_927 kw_8 kw_924 ⟨by decide +kernel, by decide +kernel, by decide +kernel⟩ rfl rfl ⟨Nat.le_of_ble_eq_true rfl, Nat.le_of_ble_eq_true rfl⟩), hts _ kw_925, hts _ kw_926⟩ rfl rfl hK hZ hN hA kd_B_account_113) (wq_xout_ok hnt hlk) ?_
    refine wq_i2l_ok h0 kd_B_account_116 ?_
    exact wq_lreturn_ok h0 hr hlk kd_B_account_117
  have hb_0 : wq_Snd p l e ({ frames := 7, cells := 2, slots := 12, locals := 101 } : Room) s m args below meth c 3 cs D kz_cl A (wq_G0 ad w) (wq_Q cs D kz_cl A (wq_G0 ad w) rt xt below s 2 12) 0 (kt_B_account_0 rt xt) := by
    refine wq_iload_n_ok h0 kd_B_account_0 rfl ?_
    refine wq_call_ok hA (wq_runS ⟨h0.1, h0.2, hml, hown, hts⟩ (kv_B_isGood hl) ⟨(wq_cB hts kw_G kw_531 kw_1 kw_529 ⟨by decide +kernel, by decide +kernel, by decide +kernel⟩ rfl rfl ⟨Nat.le_of_ble_eq_true rfl, Nat.le_of_ble_eq_true rfl⟩), hts _ kw_530⟩ hK hZ hN hA kd_B_account_1) (wq_xout_ok hnt hlk) ?_
    refine wq_call_ok hA (wq_runS ⟨h0.1, h0.2, hml, hown, hts⟩ (kv_B_requireArgument hl) ⟨(wq_cB hts kw_G kw_413 kw_1 kw_411 ⟨by decide +kernel, by decide +kernel, by decide +kernel⟩ rfl rfl ⟨Nat.le_of_ble_eq_true rfl, Nat.le_of_ble_eq_true rfl⟩), hts _ kw_412⟩ hK hZ hN hA kd_B_account_4) (wq_xout_ok hnt hlk) ?_
    refine wq_iload_n_ok h0 kd_B_account_7 rfl ?_
    refine wq_iconst_ok h0 kd_B_account_8 (by decide +kernel) ?_
    refine wq_iconst_ok h0 kd_B_account_9 (by decide +kernel) ?_
    refine wq_call_ok hA (wq_runS ⟨h0.1, h0.2, hml, hown, hts⟩ (kv_B_isWithin hl) ⟨(wq_cB hts kw_G kw_517 kw_1 kw_515 ⟨by decide +kernel, by decide +kernel, by decide +kernel⟩ rfl rfl ⟨Nat.le_of_ble_eq_true rfl, Nat.le_of_ble_eq_true rfl⟩), hts _ kw_516⟩ hK hZ hN hA kd_B_account_10) (wq_xout_ok hnt hlk) ?_
    refine wq_call_ok hA (wq_runS ⟨h0.1, h0.2, hml, hown, hts⟩ (kv_B_requireArgument hl) ⟨(wq_cB hts kw_G kw_413 kw_1 kw_411 ⟨by decide +kernel, by decide +kernel, by decide +kernel⟩ rfl rfl ⟨Nat.le_of_ble_eq_true rfl, Nat.le_of_ble_eq_true rfl⟩), hts _ kw_412⟩ hK hZ hN hA kd_B_account_13) (wq_xout_ok hnt hlk) ?_
    refine wq_iload_n_ok h0 kd_B_account_16 rfl ?_
    refine wq_sw_ok ?_ ?_
    · exact List.forall_mem_cons.mpr ⟨⟨52, (by exact hb_52), fun H locs n1 n2 ls rest hw => lv_tableIn (tgt := 52) (off := 35) h0.1 h0.2 kd_B_account_17 (show ¬ (nI 0).toInt < 0 by decide +kernel) (show ¬ 4 < (nI 0).toInt by decide +kernel) (show (#[35, 46, 57, 68, 79] : Array Int)[((nI 0).toInt - 0).toNat]? = some 35 by decide +kernel) (by decide) hw⟩, List.forall_mem_cons.mpr ⟨⟨63, (by exact hb_63), fun H locs n1 n2 ls rest hw => lv_tableIn (tgt := 63) (off := 46) h0.1 h0.2 kd_B_account_17 (show ¬ (nI 1).toInt < 0 by decide +kernel) (show ¬ 4 < (nI 1).toInt by decide +kernel) (show (#[35, 46, 57, 68, 79] : Array Int)[((nI 1).toInt - 0).toNat]? = some 46 by decide +kernel) (by decide) hw⟩, List.forall_mem_cons.mpr ⟨⟨74, (by exact hb_74), fun H locs n1 n2 ls rest hw => lv_tableIn (tgt := 74) (off := 57) h0.1 h0.2 kd_B_account_17 (show ¬ (nI 2).toInt < 0 by decide +kernel) (show ¬ 4 < (nI 2).toInt by decide +kernel) (show (#[35, 46, 57, 68, 79] : Array Int)[((nI 2).toInt - 0).toNat]? = some 57 by decide +kernel) (by decide) hw⟩, List.forall_mem_cons.mpr ⟨⟨85, (by exact hb_85), fun H locs n1 n2 ls rest hw => lv_tableIn (tgt := 85) (off := 68) h0.1 h0.2 kd_B_account_17 (show ¬ (nI 3).toInt < 0 by decide +kernel) (show ¬ 4 < (nI 3).toInt by decide +kernel) (show (#[35, 46, 57, 68, 79] : Array Int)[((nI 3).toInt - 0).toNat]? = some 68 by decide +kernel) (by decide) hw⟩, List.forall_mem_cons.mpr ⟨⟨96, (by exact hb_96), fun H locs n1 n2 ls rest hw => lv_tableIn (tgt := 96) (off := 79) h0.1 h0.2 kd_B_account_17 (show ¬ (nI 4).toInt < 0 by decide +kernel) (show ¬ 4 < (nI 4).toInt by decide +kernel) (show (#[35, 46, 57, 68, 79] : Array Int)[((nI 4).toInt - 0).toNat]? = some 79 by decide +kernel) (by decide) hw⟩, fun _ h => absurd h List.not_mem_nil⟩⟩⟩⟩⟩
    · exact ⟨107, (by exact hb_107), fun H locs n1 n2 ls rest x hq hw => lv_tableOut (tgt := 107) h0.1 h0.2 kd_B_account_17 (wq_tabO 0 4 (by decide) (fun k h1 h2 => by rcases (show k = 0 ∨ k = 1 ∨ k = 2 ∨ k = 3 ∨ k = 4 by omega) with rfl | rfl | rfl | rfl | rfl <;> first | exact hq _ List.mem_cons_self | exact hq _ (List.mem_cons_of_mem _ List.mem_cons_self) | exact hq _ (List.mem_cons_of_mem _ (List.mem_cons_of_mem _ List.mem_cons_self)) | exact hq _ (List.mem_cons_of_mem _ (List.mem_cons_of_mem _ (List.mem_cons_of_mem _ List.mem_cons_self))) | exact hq _ (List.mem_cons_of_mem _ (List.mem_cons_of_mem _ (List.mem_cons_of_mem _ (List.mem_cons_of_mem _ List.mem_cons_self)))))) (by decide) hw⟩
  exact hb_0 _ _ _ _ _ (wq_sp_t hsp)
-- BorderDesk.books(I)J
def kt_B_books_30 (rt : Option wq_V → wq_W → Prop) (xt : Nat → wq_W → Prop) : wq_T := (wq_lreturn 1 6 rt)
def kt_B_books_23 (rt : Option wq_V → wq_W → Prop) (xt : Nat → wq_W → Prop) : wq_T := (wq_aload 0 (wq_get 0 7 (wq_get 8 1 (kt_B_books_30 rt xt))))
def kt_B_books_0 (rt : Option wq_V → wq_W → Prop) (xt : Nat → wq_W → Prop) : wq_T := (wq_iload 1 (wq_iconst (nI 0) (wq_iconst (nI 1) (wq_call ks_B_isWithin 3 0 0 1 6 (wq_xout 1 6 xt) (wq_call ks_B_requireArgument 1 1 6 1 6 (wq_xout 1 6 xt) (wq_iload 1 (wq_f1 (fun x => x = 0) (wq_aload 0 (wq_get 0 7 (wq_get 8 0 (kt_B_books_30 rt xt)))) (kt_B_books_23 rt xt))))))))
def ks_B_books : wq_S := wq_sp 2 (fun rt xt => kt_B_books_0 rt xt)
set_option maxRecDepth 100000 in
set_option maxHeartbeats 4000000 in
theorem kv_B_books {l : Launch} (hl : l.stackTraces = false) : wq_Vld l kz_cl ky_B_books kw_T ({ frames := 7, cells := 1, slots := 6, locals := 101 }) wq_G0 ks_B_books 1 6 := by
  refine wq_method (cc := kc_B_books) (maxL := 2) (ret := (some .long)) (by decide) kw_975 (fun _ _ => rfl) wq_sp_sz ?_
  intro p e s m args below meth c cs D ad as w rt xt hF hnt hsp
  obtain ⟨h0, hr, hts, hown, hlk, hnm, hml, hK, hZ, hN, hA⟩ := hF
  have hown : s.vm.findClass "BorderDesk" = some m.cls := hown
  obtain ⟨A, hAe⟩ : ∃ A, A = wq_A ad w s.heap.size := ⟨_, rfl⟩
  rw [← hAe] at hZ hA ⊢
  have hb_30 : wq_Snd p l e ({ frames := 7, cells := 1, slots := 6, locals := 101 } : Room) s m args below meth c 2 cs D kz_cl A (wq_G0 ad w) (wq_Q cs D kz_cl A (wq_G0 ad w) rt xt below s 1 6) 30 (kt_B_books_30 rt xt) := by
    exact wq_lreturn_ok h0 hr hlk kd_B_books_30
  have hb_23 : wq_Snd p l e ({ frames := 7, cells := 1, slots := 6, locals := 101 } : Room) s m args below meth c 2 cs D kz_cl A (wq_G0 ad w) (wq_Q cs D kz_cl A (wq_G0 ad w) rt xt below s 1 6) 23 (kt_B_books_23 rt xt) := by
    refine wq_aload_n_ok h0 kd_B_books_23 rfl ?_
    refine wq_get_ok (wq_getOK h0 hts ki_B hown hK (ci := 0) rfl 7 (Nat.le_of_ble_eq_true rfl) kw_377 rfl) kd_B_books_24 ?_
    refine wq_get_ok (wq_getOK h0 hts ki_G hown hK (ci := 8) rfl 1 (Nat.le_of_ble_eq_true rfl) kw_352 rfl) kd_B_books_27 ?_
    exact hb_30
  have hb_0 : wq_Snd p l e ({ frames := 7, cells := 1, slots := 6, locals := 101 } : Room) s m args below meth c 2 cs D kz_cl A (wq_G0 ad w) (wq_Q cs D kz_cl A (wq_G0 ad w) rt xt below s 1 6) 0 (kt_B_books_0 rt xt) := by
    refine wq_iload_n_ok h0 kd_B_books_0 rfl ?_
    refine wq_iconst_ok h0 kd_B_books_1 (by decide +kernel) ?_
    refine wq_iconst_ok h0 kd_B_books_2 (by decide +kernel) ?_
    refine wq_call_ok hA (wq_runS ⟨h0.1, h0.2, hml, hown, hts⟩ (kv_B_isWithin hl) ⟨(wq_cB hts kw_G kw_517 kw_1 kw_515 ⟨by decide +kernel, by decide +kernel, by decide +kernel⟩ rfl rfl ⟨Nat.le_of_ble_eq_true rfl, Nat.le_of_ble_eq_true rfl⟩), hts _ kw_516⟩ hK hZ hN hA kd_B_books_3) (wq_xout_ok hnt hlk) ?_
    refine wq_call_ok hA (wq_runS ⟨h0.1, h0.2, hml, hown, hts⟩ (kv_B_requireArgument hl) ⟨(wq_cB hts kw_G kw_413 kw_1 kw_411 ⟨by decide +kernel, by decide +kernel, by decide +kernel⟩ rfl rfl ⟨Nat.le_of_ble_eq_true rfl, Nat.le_of_ble_eq_true rfl⟩), hts _ kw_412⟩ hK hZ hN hA kd_B_books_6) (wq_xout_ok hnt hlk) ?_
    refine wq_iload_n_ok h0 kd_B_books_9 rfl ?_
    refine wq_if_ne_ok (tgt := 23) h0 kd_B_books_10 (by decide) ?_ ?_
    · exact hb_23
    refine wq_aload_n_ok h0 kd_B_books_13 rfl ?_
    refine wq_get_ok (wq_getOK h0 hts ki_B hown hK (ci := 0) rfl 7 (Nat.le_of_ble_eq_true rfl) kw_377 rfl) kd_B_books_14 ?_
    refine wq_get_ok (wq_getOK h0 hts ki_G hown hK (ci := 8) rfl 0 (Nat.le_of_ble_eq_true rfl) kw_351 rfl) kd_B_books_17 ?_
    refine wq_goto_ok (tgt := 30) h0 kd_B_books_20 (by decide) ?_
    exact hb_30
  exact hb_0 _ _ _ _ _ (wq_sp_t hsp)
