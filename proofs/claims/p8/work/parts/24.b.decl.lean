set_option maxRecDepth 100000 in
set_option maxHeartbeats 4000000 in
theorem kv_D_add {l : Launch} (hl : l.stackTraces = false) : wq_Vld l kz_cl ky_D_add kw_T ({ frames := 0, cells := 0, slots := 0, locals := 0 }) wq_G0 ks_D_add 0 0 := by
  refine wq_method (cc := kc_D_add) (maxL := 4) (ret := (some .int)) (by decide) kw_700 (fun _ _ => rfl) wq_sp_sz ?_
  intro p e s m args below meth c cs D ad as w rt xt hF hnt hsp
  obtain ⟨h0, hr, hts, hown, hlk, hnm, hml, hK, hZ, hN, hA⟩ := hF
  have hown : s.vm.findClass "BorderDesk$Declarations" = some m.cls := hown
  obtain ⟨A, hAe⟩ : ∃ A, A = wq_A ad w s.heap.size := ⟨_, rfl⟩
  rw [← hAe] at hZ hA ⊢
  have hb_0 : wq_Snd p l e ({ frames := 0, cells := 0, slots := 0, locals := 0 } : Room) s m args below meth c 4 cs D kz_cl A (wq_G0 ad w) (wq_Q cs D kz_cl A (wq_G0 ad w) rt xt below s 0 0) 0 (kt_D_add_0 rt xt) := by
    refine wq_aload_n_ok h0 kd_D_add_0 rfl ?_
    refine wq_get_ok (wq_getOK h0 hts ki_D hown hK (ci := 5) rfl 0 (Nat.le_of_ble_eq_true rfl) kw_195 rfl) kd_D_add_1 ?_
    refine wq_istore_n_ok h0 kd_D_add_4 rfl (Nat.le_of_ble_eq_true rfl) ?_
    refine wq_aload_n_ok h0 kd_D_add_5 rfl ?_
    refine wq_get_ok (wq_getOK h0 hts ki_D hown hK (ci := 5) rfl 1 (Nat.le_of_ble_eq_true rfl) kw_197 rfl) kd_D_add_6 ?_
    refine wq_iload_n_ok h0 kd_D_add_9 rfl ?_
    refine wq_iload_n_ok h0 kd_D_add_10 rfl ?_
    refine wq_iast_ok h0 hK kd_D_add_11 ?_
    refine wq_aload_n_ok h0 kd_D_add_12 rfl ?_
    refine wq_get_ok (wq_getOK h0 hts ki_D hown hK (ci := 5) rfl 2 (Nat.le_of_ble_eq_true rfl) kw_199 rfl) kd_D_add_13 ?_
    refine wq_iload_n_ok h0 kd_D_add_16 rfl ?_
    refine wq_iload_n_ok h0 kd_D_add_17 rfl ?_
    refine wq_iast_ok h0 hK kd_D_add_18 ?_
    refine wq_aload_n_ok h0 kd_D_add_19 rfl ?_
    refine wq_dup_ok h0 kd_D_add_20 ?_
    refine wq_get_ok (wq_getOK h0 hts ki_D hown hK (ci := 5) rfl 0 (Nat.le_of_ble_eq_true rfl) kw_195 rfl) kd_D_add_21 ?_
    refine wq_iconst_ok h0 kd_D_add_24 (by decide +kernel) ?_
    refine wq_iadd_ok h0 kd_D_add_25 ?_
    refine wq_put_ok (wq_putOK h0 hts ki_D ka_D kb_D kn_D hown hK (ci := 5) rfl 0 (Nat.le_of_ble_eq_true rfl) kw_195 rfl (Or.inl rfl) wq_okI) kd_D_add_26 ?_
    refine wq_iload_n_ok h0 kd_D_add_29 rfl ?_
    exact wq_ireturn_ok h0 hr hlk kd_D_add_30
  exact hb_0 _ _ _ _ _ (wq_sp_t hsp)
set_option maxRecDepth 100000 in
set_option maxHeartbeats 4000000 in
theorem kv_D_rowOf {l : Launch} (hl : l.stackTraces = false) : wq_Vld l kz_cl ky_D_rowOf kw_T ({ frames := 0, cells := 0, slots := 0, locals := 0 }) wq_G0 ks_D_rowOf 0 0 := by
  refine wq_method (cc := kc_D_rowOf) (maxL := 2) (ret := (some .int)) (by decide) kw_724 (fun _ _ => rfl) wq_sp_sz ?_
  intro p e s m args below meth c cs D ad as w rt xt hF hnt hsp
  obtain ⟨h0, hr, hts, hown, hlk, hnm, hml, hK, hZ, hN, hA⟩ := hF
  have hown : s.vm.findClass "BorderDesk$Declarations" = some m.cls := hown
  obtain ⟨A, hAe⟩ : ∃ A, A = wq_A ad w s.heap.size := ⟨_, rfl⟩
  rw [← hAe] at hZ hA ⊢
  have hb_0 : wq_Snd p l e ({ frames := 0, cells := 0, slots := 0, locals := 0 } : Room) s m args below meth c 2 cs D kz_cl A (wq_G0 ad w) (wq_Q cs D kz_cl A (wq_G0 ad w) rt xt below s 0 0) 0 (kt_D_rowOf_0 rt xt) := by
    refine wq_iload_n_ok h0 kd_D_rowOf_0 rfl ?_
    refine wq_iconst_ok h0 kd_D_rowOf_1 (by decide +kernel) ?_
    refine wq_imul_ok h0 kd_D_rowOf_2 ?_
    refine wq_iload_n_ok h0 kd_D_rowOf_3 rfl ?_
    refine wq_iadd_ok h0 kd_D_rowOf_4 ?_
    exact wq_ireturn_ok h0 hr hlk kd_D_rowOf_5
  exact hb_0 _ _ _ _ _ (wq_sp_t hsp)
set_option maxRecDepth 100000 in
set_option maxHeartbeats 4000000 in
theorem kv_D_isInBounds {l : Launch} (hl : l.stackTraces = false) : wq_Vld l kz_cl ky_D_isInBounds kw_T ({ frames := 1, cells := 0, slots := 0, locals := 22 }) wq_G0 ks_D_isInBounds 0 0 := by
  refine wq_method (cc := kc_D_isInBounds) (maxL := 2) (ret := (some .boolean)) (by decide) kw_714 (fun _ _ => rfl) wq_sp_sz ?_
  intro p e s m args below meth c cs D ad as w rt xt hF hnt hsp
  obtain ⟨h0, hr, hts, hown, hlk, hnm, hml, hK, hZ, hN, hA⟩ := hF
  have hown : s.vm.findClass "BorderDesk$Declarations" = some m.cls := hown
  obtain ⟨A, hAe⟩ : ∃ A, A = wq_A ad w s.heap.size := ⟨_, rfl⟩
  rw [← hAe] at hZ hA ⊢
  have hb_28 : wq_Snd p l e ({ frames := 1, cells := 0, slots := 0, locals := 22 } : Room) s m args below meth c 2 cs D kz_cl A (wq_G0 ad w) (wq_Q cs D kz_cl A (wq_G0 ad w) rt xt below s 0 0) 28 (kt_D_isInBounds_28 rt xt) := by
    refine wq_iload_n_ok h0 kd_D_isInBounds_28 rfl ?_
    refine wq_iconst_ok h0 kd_D_isInBounds_29 (by decide +kernel) ?_
    refine wq_sipush_ok h0 kd_D_isInBounds_30 (by decide +kernel) ?_
    refine wq_call_ok hA (wq_runSN ⟨h0.1, h0.2, hml, hown, hts⟩ (kv_B_isWithin hl) ⟨(wq_cN hts kw_G kw_517 kw_1 (va_Nw.use rfl (hN.2.2.1 _ (List.mem_of_getElem? (i := 5) rfl))) ⟨by decide +kernel, by decide +kernel, by decide +kernel⟩ rfl rfl ⟨Nat.le_of_ble_eq_true rfl, Nat.le_of_ble_eq_true rfl⟩), hts _ kw_516⟩ hK hZ hN hA kd_D_isInBounds_33) (wq_xout_ok hnt hlk) ?_
    exact wq_zreturn_ok h0 hr hlk kd_D_isInBounds_36
  have hb_37 : wq_Snd p l e ({ frames := 1, cells := 0, slots := 0, locals := 22 } : Room) s m args below meth c 2 cs D kz_cl A (wq_G0 ad w) (wq_Q cs D kz_cl A (wq_G0 ad w) rt xt below s 0 0) 37 (kt_D_isInBounds_37 rt xt) := by
    refine wq_iload_n_ok h0 kd_D_isInBounds_37 rfl ?_
    refine wq_iconst_ok h0 kd_D_isInBounds_38 (by decide +kernel) ?_
    refine wq_ldc_ok (v := 1000000) h0 hown (hts _ kw_716) kd_D_isInBounds_39 ?_
    refine wq_call_ok hA (wq_runSN ⟨h0.1, h0.2, hml, hown, hts⟩ (kv_B_isWithin hl) ⟨(wq_cN hts kw_G kw_517 kw_1 (va_Nw.use rfl (hN.2.2.1 _ (List.mem_of_getElem? (i := 5) rfl))) ⟨by decide +kernel, by decide +kernel, by decide +kernel⟩ rfl rfl ⟨Nat.le_of_ble_eq_true rfl, Nat.le_of_ble_eq_true rfl⟩), hts _ kw_516⟩ hK hZ hN hA kd_D_isInBounds_41) (wq_xout_ok hnt hlk) ?_
    exact wq_zreturn_ok h0 hr hlk kd_D_isInBounds_44
  have hb_45 : wq_Snd p l e ({ frames := 1, cells := 0, slots := 0, locals := 22 } : Room) s m args below meth c 2 cs D kz_cl A (wq_G0 ad w) (wq_Q cs D kz_cl A (wq_G0 ad w) rt xt below s 0 0) 45 (kt_D_isInBounds_45 rt xt) := by
    refine wq_iload_n_ok h0 kd_D_isInBounds_45 rfl ?_
    refine wq_iconst_ok h0 kd_D_isInBounds_46 (by decide +kernel) ?_
    refine wq_ldc_ok (v := 100000000) h0 hown (hts _ kw_717) kd_D_isInBounds_47 ?_
    refine wq_call_ok hA (wq_runSN ⟨h0.1, h0.2, hml, hown, hts⟩ (kv_B_isWithin hl) ⟨(wq_cN hts kw_G kw_517 kw_1 (va_Nw.use rfl (hN.2.2.1 _ (List.mem_of_getElem? (i := 5) rfl))) ⟨by decide +kernel, by decide +kernel, by decide +kernel⟩ rfl rfl ⟨Nat.le_of_ble_eq_true rfl, Nat.le_of_ble_eq_true rfl⟩), hts _ kw_516⟩ hK hZ hN hA kd_D_isInBounds_49) (wq_xout_ok hnt hlk) ?_
    exact wq_zreturn_ok h0 hr hlk kd_D_isInBounds_52
  have hb_53 : wq_Snd p l e ({ frames := 1, cells := 0, slots := 0, locals := 22 } : Room) s m args below meth c 2 cs D kz_cl A (wq_G0 ad w) (wq_Q cs D kz_cl A (wq_G0 ad w) rt xt below s 0 0) 53 (kt_D_isInBounds_53 rt xt) := by
    refine wq_iconst_ok h0 kd_D_isInBounds_53 (by decide +kernel) ?_
    exact wq_zreturn_ok h0 hr hlk kd_D_isInBounds_54
  have hb_0 : wq_Snd p l e ({ frames := 1, cells := 0, slots := 0, locals := 22 } : Room) s m args below meth c 2 cs D kz_cl A (wq_G0 ad w) (wq_Q cs D kz_cl A (wq_G0 ad w) rt xt below s 0 0) 0 (kt_D_isInBounds_0 rt xt) := by
    refine wq_iload_n_ok h0 kd_D_isInBounds_0 rfl ?_
    refine wq_sw_ok ?_ ?_
    · exact List.forall_mem_cons.mpr ⟨⟨28, (by exact hb_28), fun H locs n1 n2 ls rest hw => lv_tableIn (tgt := 28) (off := 27) h0.1 h0.2 kd_D_isInBounds_1 (show ¬ (nI 0).toInt < 0 by decide +kernel) (show ¬ 2 < (nI 0).toInt by decide +kernel) (show (#[27, 36, 44] : Array Int)[((nI 0).toInt - 0).toNat]? = some 27 by decide +kernel) (by decide) hw⟩, List.forall_mem_cons.mpr ⟨⟨37, (by exact hb_37), fun H locs n1 n2 ls rest hw => lv_tableIn (tgt := 37) (off := 36) h0.1 h0.2 kd_D_isInBounds_1 (show ¬ (nI 1).toInt < 0 by decide +kernel) (show ¬ 2 < (nI 1).toInt by decide +kernel) (show (#[27, 36, 44] : Array Int)[((nI 1).toInt - 0).toNat]? = some 36 by decide +kernel) (by decide) hw⟩, List.forall_mem_cons.mpr ⟨⟨45, (by exact hb_45), fun H locs n1 n2 ls rest hw => lv_tableIn (tgt := 45) (off := 44) h0.1 h0.2 kd_D_isInBounds_1 (show ¬ (nI 2).toInt < 0 by decide +kernel) (show ¬ 2 < (nI 2).toInt by decide +kernel) (show (#[27, 36, 44] : Array Int)[((nI 2).toInt - 0).toNat]? = some 44 by decide +kernel) (by decide) hw⟩, fun _ h => absurd h List.not_mem_nil⟩⟩⟩
    · exact ⟨53, (by exact hb_53), fun H locs n1 n2 ls rest x hq hw => lv_tableOut (tgt := 53) h0.1 h0.2 kd_D_isInBounds_1 (wq_tabO 0 2 (by decide) (fun k h1 h2 => by rcases (show k = 0 ∨ k = 1 ∨ k = 2 by omega) with rfl | rfl | rfl <;> first | exact hq _ List.mem_cons_self | exact hq _ (List.mem_cons_of_mem _ List.mem_cons_self) | exact hq _ (List.mem_cons_of_mem _ (List.mem_cons_of_mem _ List.mem_cons_self)))) (by decide) hw⟩
  exact hb_0 _ _ _ _ _ (wq_sp_t hsp)
set_option maxRecDepth 100000 in
set_option maxHeartbeats 4000000 in
theorem kv_D_addLine {l : Launch} (hl : l.stackTraces = false) : wq_Vld l kz_cl ky_D_addLine kw_T ({ frames := 1, cells := 0, slots := 0, locals := 21 }) wq_G0 ks_D_addLine 0 0 := by
  refine wq_method (cc := kc_D_addLine) (maxL := 10) (ret := (some .int)) (by decide) kw_721 (fun _ _ => rfl) wq_sp_sz ?_
  intro p e s m args below meth c cs D ad as w rt xt hF hnt hsp
  obtain ⟨h0, hr, hts, hown, hlk, hnm, hml, hK, hZ, hN, hA⟩ := hF
  have hown : s.vm.findClass "BorderDesk$Declarations" = some m.cls := hown
  obtain ⟨A, hAe⟩ : ∃ A, A = wq_A ad w s.heap.size := ⟨_, rfl⟩
  rw [← hAe] at hZ hA ⊢
  have hb_0 : wq_Snd p l e ({ frames := 1, cells := 0, slots := 0, locals := 21 } : Room) s m args below meth c 10 cs D kz_cl A (wq_G0 ad w) (wq_Q cs D kz_cl A (wq_G0 ad w) rt xt below s 0 0) 0 (kt_D_addLine_0 rt xt) := by
    refine wq_aload_n_ok h0 kd_D_addLine_0 rfl ?_
    refine wq_get_ok (wq_getOK h0 hts ki_D hown hK (ci := 5) rfl 3 (Nat.le_of_ble_eq_true rfl) kw_200 rfl) kd_D_addLine_1 ?_
    refine wq_iload_n_ok h0 kd_D_addLine_4 rfl ?_
    refine wq_iald_ok h0 hK kd_D_addLine_5 ?_
    refine wq_istore_ok h0 kd_D_addLine_6 (Nat.le_of_ble_eq_true rfl) ?_
    refine wq_iload_n_ok h0 kd_D_addLine_8 rfl ?_
    refine wq_iload_ok h0 kd_D_addLine_9 ?_
    refine wq_call_ok hA (wq_runS ⟨h0.1, h0.2, hml, hown, hts⟩ (kv_D_rowOf hl) ⟨(wq_cB hts kw_G kw_724 kw_6 kw_722 ⟨by decide +kernel, by decide +kernel, by decide +kernel⟩ rfl rfl ⟨Nat.le_of_ble_eq_true rfl, Nat.le_of_ble_eq_true rfl⟩), hts _ kw_723⟩ hK hZ hN hA kd_D_addLine_11) (wq_xout_ok hnt hlk) ?_
    refine wq_istore_ok h0 kd_D_addLine_14 (Nat.le_of_ble_eq_true rfl) ?_
    refine wq_aload_n_ok h0 kd_D_addLine_16 rfl ?_
    refine wq_get_ok (wq_getOK h0 hts ki_D hown hK (ci := 5) rfl 7 (Nat.le_of_ble_eq_true rfl) kw_210 rfl) kd_D_addLine_17 ?_
    refine wq_iload_ok h0 kd_D_addLine_20 ?_
    refine wq_iload_n_ok h0 kd_D_addLine_22 rfl ?_
    refine wq_iast_ok h0 hK kd_D_addLine_23 ?_
    refine wq_aload_n_ok h0 kd_D_addLine_24 rfl ?_
    refine wq_get_ok (wq_getOK h0 hts ki_D hown hK (ci := 5) rfl 8 (Nat.le_of_ble_eq_true rfl) kw_213 rfl) kd_D_addLine_25 ?_
    refine wq_iload_ok h0 kd_D_addLine_28 ?_
    refine wq_iload_n_ok h0 kd_D_addLine_30 rfl ?_
    refine wq_iast_ok h0 hK kd_D_addLine_31 ?_
    refine wq_aload_n_ok h0 kd_D_addLine_32 rfl ?_
    refine wq_get_ok (wq_getOK h0 hts ki_D hown hK (ci := 5) rfl 9 (Nat.le_of_ble_eq_true rfl) kw_215 rfl) kd_D_addLine_33 ?_
    refine wq_iload_ok h0 kd_D_addLine_36 ?_
    refine wq_iload_ok h0 kd_D_addLine_38 ?_
    refine wq_iast_ok h0 hK kd_D_addLine_40 ?_
    refine wq_aload_n_ok h0 kd_D_addLine_41 rfl ?_
    refine wq_get_ok (wq_getOK h0 hts ki_D hown hK (ci := 5) rfl 10 (Nat.le_of_ble_eq_true rfl) kw_218 rfl) kd_D_addLine_42 ?_
    refine wq_iload_ok h0 kd_D_addLine_45 ?_
    refine wq_iload_ok h0 kd_D_addLine_47 ?_
    refine wq_iast_ok h0 hK kd_D_addLine_49 ?_
    refine wq_aload_n_ok h0 kd_D_addLine_50 rfl ?_
    refine wq_get_ok (wq_getOK h0 hts ki_D hown hK (ci := 5) rfl 11 (Nat.le_of_ble_eq_true rfl) kw_220 rfl) kd_D_addLine_51 ?_
    refine wq_iload_ok h0 kd_D_addLine_54 ?_
    refine wq_iload_ok h0 kd_D_addLine_56 ?_
    refine wq_iast_ok h0 hK kd_D_addLine_58 ?_
    refine wq_aload_n_ok h0 kd_D_addLine_59 rfl ?_
    refine wq_get_ok (wq_getOK h0 hts ki_D hown hK (ci := 5) rfl 12 (Nat.le_of_ble_eq_true rfl) kw_222 rfl) kd_D_addLine_60 ?_
    refine wq_iload_ok h0 kd_D_addLine_63 ?_
    refine wq_iload_ok h0 kd_D_addLine_65 ?_
    refine wq_zast_ok h0 hK kd_D_addLine_67 ?_
    refine wq_aload_n_ok h0 kd_D_addLine_68 rfl ?_
    refine wq_get_ok (wq_getOK h0 hts ki_D hown hK (ci := 5) rfl 3 (Nat.le_of_ble_eq_true rfl) kw_200 rfl) kd_D_addLine_69 ?_
    refine wq_iload_n_ok h0 kd_D_addLine_72 rfl ?_
    refine wq_dup2_ok h0 kd_D_addLine_73 ?_
    refine wq_iald_ok h0 hK kd_D_addLine_74 ?_
    refine wq_iconst_ok h0 kd_D_addLine_75 (by decide +kernel) ?_
    refine wq_iadd_ok h0 kd_D_addLine_76 ?_
    refine wq_iast_ok h0 hK kd_D_addLine_77 ?_
    refine wq_iload_ok h0 kd_D_addLine_78 ?_
    exact wq_ireturn_ok h0 hr hlk kd_D_addLine_80
  exact hb_0 _ _ _ _ _ (wq_sp_t hsp)
set_option maxRecDepth 100000 in
set_option maxHeartbeats 4000000 in
theorem kv_D_setField {l : Launch} (hl : l.stackTraces = false) : wq_Vld l kz_cl ky_D_setField kw_T ({ frames := 0, cells := 0, slots := 0, locals := 0 }) wq_G0 ks_D_setField 0 0 := by
  refine wq_method (cc := kc_D_setField) (maxL := 4) (ret := none) (by decide) kw_904 (fun _ _ => rfl) wq_sp_sz ?_
  intro p e s m args below meth c cs D ad as w rt xt hF hnt hsp
  obtain ⟨h0, hr, hts, hown, hlk, hnm, hml, hK, hZ, hN, hA⟩ := hF
  have hown : s.vm.findClass "BorderDesk$Declarations" = some m.cls := hown
  obtain ⟨A, hAe⟩ : ∃ A, A = wq_A ad w s.heap.size := ⟨_, rfl⟩
  rw [← hAe] at hZ hA ⊢
  have hb_55 : wq_Snd p l e ({ frames := 0, cells := 0, slots := 0, locals := 0 } : Room) s m args below meth c 4 cs D kz_cl A (wq_G0 ad w) (wq_Q cs D kz_cl A (wq_G0 ad w) rt xt below s 0 0) 55 (kt_D_setField_55 rt xt) := by
    exact wq_vreturn_ok h0 hr hlk kd_D_setField_55
  have hb_28 : wq_Snd p l e ({ frames := 0, cells := 0, slots := 0, locals := 0 } : Room) s m args below meth c 4 cs D kz_cl A (wq_G0 ad w) (wq_Q cs D kz_cl A (wq_G0 ad w) rt xt below s 0 0) 28 (kt_D_setField_28 rt xt) := by
    refine wq_aload_n_ok h0 kd_D_setField_28 rfl ?_
    refine wq_get_ok (wq_getOK h0 hts ki_D hown hK (ci := 5) rfl 9 (Nat.le_of_ble_eq_true rfl) kw_215 rfl) kd_D_setField_29 ?_
    refine wq_iload_n_ok h0 kd_D_setField_32 rfl ?_
    refine wq_iload_n_ok h0 kd_D_setField_33 rfl ?_
    refine wq_iast_ok h0 hK kd_D_setField_34 ?_
    refine wq_goto_ok (tgt := 55) h0 kd_D_setField_35 (by decide) ?_
    exact hb_55
  have hb_38 : wq_Snd p l e ({ frames := 0, cells := 0, slots := 0, locals := 0 } : Room) s m args below meth c 4 cs D kz_cl A (wq_G0 ad w) (wq_Q cs D kz_cl A (wq_G0 ad w) rt xt below s 0 0) 38 (kt_D_setField_38 rt xt) := by
    refine wq_aload_n_ok h0 kd_D_setField_38 rfl ?_
    refine wq_get_ok (wq_getOK h0 hts ki_D hown hK (ci := 5) rfl 10 (Nat.le_of_ble_eq_true rfl) kw_218 rfl) kd_D_setField_39 ?_
    refine wq_iload_n_ok h0 kd_D_setField_42 rfl ?_
    refine wq_iload_n_ok h0 kd_D_setField_43 rfl ?_
    refine wq_iast_ok h0 hK kd_D_setField_44 ?_
    refine wq_goto_ok (tgt := 55) h0 kd_D_setField_45 (by decide) ?_
    exact hb_55
  have hb_48 : wq_Snd p l e ({ frames := 0, cells := 0, slots := 0, locals := 0 } : Room) s m args below meth c 4 cs D kz_cl A (wq_G0 ad w) (wq_Q cs D kz_cl A (wq_G0 ad w) rt xt below s 0 0) 48 (kt_D_setField_48 rt xt) := by
    refine wq_aload_n_ok h0 kd_D_setField_48 rfl ?_
    refine wq_get_ok (wq_getOK h0 hts ki_D hown hK (ci := 5) rfl 11 (Nat.le_of_ble_eq_true rfl) kw_220 rfl) kd_D_setField_49 ?_
    refine wq_iload_n_ok h0 kd_D_setField_52 rfl ?_
    refine wq_iload_n_ok h0 kd_D_setField_53 rfl ?_
    refine wq_iast_ok h0 hK kd_D_setField_54 ?_
    exact hb_55
  have hb_0 : wq_Snd p l e ({ frames := 0, cells := 0, slots := 0, locals := 0 } : Room) s m args below meth c 4 cs D kz_cl A (wq_G0 ad w) (wq_Q cs D kz_cl A (wq_G0 ad w) rt xt below s 0 0) 0 (kt_D_setField_0 rt xt) := by
    refine wq_iload_n_ok h0 kd_D_setField_0 rfl ?_
    refine wq_sw_ok ?_ ?_
    · exact List.forall_mem_cons.mpr ⟨⟨28, (by exact hb_28), fun H locs n1 n2 ls rest hw => lv_lookup (tgt := 28) (off := 27) h0.1 h0.2 kd_D_setField_1 (by decide +kernel) (show Op.lookupswitch.offset [(0, 27), (1, 37)] 47 (nI 0).toInt = 27 by decide +kernel) (by decide) hw⟩, List.forall_mem_cons.mpr ⟨⟨38, (by exact hb_38), fun H locs n1 n2 ls rest hw => lv_lookup (tgt := 38) (off := 37) h0.1 h0.2 kd_D_setField_1 (by decide +kernel) (show Op.lookupswitch.offset [(0, 27), (1, 37)] 47 (nI 1).toInt = 37 by decide +kernel) (by decide) hw⟩, fun _ h => absurd h List.not_mem_nil⟩⟩
    · exact ⟨48, (by exact hb_48), fun H locs n1 n2 ls rest x hq hw => lv_lookup (tgt := 48) (off := 47) h0.1 h0.2 kd_D_setField_1 (by decide +kernel) (by show Op.lookupswitch.offset [(0, 27), (1, 37)] 47 x.toInt = 47; rw [lv_osw (k := (nI 0)) (hq _ List.mem_cons_self) (by decide +kernel), lv_osw (k := (nI 1)) (hq _ (List.mem_cons_of_mem _ List.mem_cons_self)) (by decide +kernel)]; rfl) (by decide) hw⟩
  exact hb_0 _ _ _ _ _ (wq_sp_t hsp)
set_option maxRecDepth 100000 in
set_option maxHeartbeats 4000000 in
theorem kv_D_isLater {l : Launch} (hl : l.stackTraces = false) : wq_Vld l kz_cl ky_D_isLater kw_T ({ frames := 0, cells := 0, slots := 0, locals := 0 }) wq_G0 ks_D_isLater 0 0 := by
  refine wq_method (cc := kc_D_isLater) (maxL := 3) (ret := (some .boolean)) (by decide) kw_855 (fun _ _ => rfl) wq_sp_sz ?_
  intro p e s m args below meth c cs D ad as w rt xt hF hnt hsp
  obtain ⟨h0, hr, hts, hown, hlk, hnm, hml, hK, hZ, hN, hA⟩ := hF
  have hown : s.vm.findClass "BorderDesk$Declarations" = some m.cls := hown
  obtain ⟨A, hAe⟩ : ∃ A, A = wq_A ad w s.heap.size := ⟨_, rfl⟩
  rw [← hAe] at hZ hA ⊢
  have hb_82 : wq_Snd p l e ({ frames := 0, cells := 0, slots := 0, locals := 0 } : Room) s m args below meth c 3 cs D kz_cl A (wq_G0 ad w) (wq_Q cs D kz_cl A (wq_G0 ad w) rt xt below s 0 0) 82 (kt_D_isLater_82 rt xt) := by
    exact wq_zreturn_ok h0 hr hlk kd_D_isLater_82
  have hb_81 : wq_Snd p l e ({ frames := 0, cells := 0, slots := 0, locals := 0 } : Room) s m args below meth c 3 cs D kz_cl A (wq_G0 ad w) (wq_Q cs D kz_cl A (wq_G0 ad w) rt xt below s 0 0) 81 (kt_D_isLater_81 rt xt) := by
    refine wq_iconst_ok h0 kd_D_isLater_81 (by decide +kernel) ?_
    exact hb_82
  have hb_72 : wq_Snd p l e ({ frames := 0, cells := 0, slots := 0, locals := 0 } : Room) s m args below meth c 3 cs D kz_cl A (wq_G0 ad w) (wq_Q cs D kz_cl A (wq_G0 ad w) rt xt below s 0 0) 72 (kt_D_isLater_72 rt xt) := by
    refine wq_iload_n_ok h0 kd_D_isLater_72 rfl ?_
    refine wq_iload_n_ok h0 kd_D_isLater_73 rfl ?_
    refine wq_icmp_le_ok (tgt := 81) h0 kd_D_isLater_74 (by decide) ?_ ?_
    · exact hb_81
    refine wq_iconst_ok h0 kd_D_isLater_77 (by decide +kernel) ?_
    refine wq_goto_ok (tgt := 82) h0 kd_D_isLater_78 (by decide) ?_
    exact hb_82
  have hb_71 : wq_Snd p l e ({ frames := 0, cells := 0, slots := 0, locals := 0 } : Room) s m args below meth c 3 cs D kz_cl A (wq_G0 ad w) (wq_Q cs D kz_cl A (wq_G0 ad w) rt xt below s 0 0) 71 (kt_D_isLater_71 rt xt) := by
    exact wq_zreturn_ok h0 hr hlk kd_D_isLater_71
  have hb_70 : wq_Snd p l e ({ frames := 0, cells := 0, slots := 0, locals := 0 } : Room) s m args below meth c 3 cs D kz_cl A (wq_G0 ad w) (wq_Q cs D kz_cl A (wq_G0 ad w) rt xt below s 0 0) 70 (kt_D_isLater_70 rt xt) := by
    refine wq_iconst_ok h0 kd_D_isLater_70 (by decide +kernel) ?_
    exact hb_71
  have hb_36 : wq_Snd p l e ({ frames := 0, cells := 0, slots := 0, locals := 0 } : Room) s m args below meth c 3 cs D kz_cl A (wq_G0 ad w) (wq_Q cs D kz_cl A (wq_G0 ad w) rt xt below s 0 0) 36 (kt_D_isLater_36 rt xt) := by
    refine wq_aload_n_ok h0 kd_D_isLater_36 rfl ?_
    refine wq_get_ok (wq_getOK h0 hts ki_D hown hK (ci := 5) rfl 2 (Nat.le_of_ble_eq_true rfl) kw_199 rfl) kd_D_isLater_37 ?_
    refine wq_iload_n_ok h0 kd_D_isLater_40 rfl ?_
    refine wq_iald_ok h0 hK kd_D_isLater_41 ?_
    refine wq_aload_n_ok h0 kd_D_isLater_42 rfl ?_
    refine wq_get_ok (wq_getOK h0 hts ki_D hown hK (ci := 5) rfl 2 (Nat.le_of_ble_eq_true rfl) kw_199 rfl) kd_D_isLater_43 ?_
    refine wq_iload_n_ok h0 kd_D_isLater_46 rfl ?_
    refine wq_iald_ok h0 hK kd_D_isLater_47 ?_
    refine wq_icmp_eq_ok (tgt := 72) h0 kd_D_isLater_48 (by decide) ?_ ?_
    · exact hb_72
    refine wq_aload_n_ok h0 kd_D_isLater_51 rfl ?_
    refine wq_get_ok (wq_getOK h0 hts ki_D hown hK (ci := 5) rfl 2 (Nat.le_of_ble_eq_true rfl) kw_199 rfl) kd_D_isLater_52 ?_
    refine wq_iload_n_ok h0 kd_D_isLater_55 rfl ?_
    refine wq_iald_ok h0 hK kd_D_isLater_56 ?_
    refine wq_aload_n_ok h0 kd_D_isLater_57 rfl ?_
    refine wq_get_ok (wq_getOK h0 hts ki_D hown hK (ci := 5) rfl 2 (Nat.le_of_ble_eq_true rfl) kw_199 rfl) kd_D_isLater_58 ?_
    refine wq_iload_n_ok h0 kd_D_isLater_61 rfl ?_
    refine wq_iald_ok h0 hK kd_D_isLater_62 ?_
    refine wq_icmp_le_ok (tgt := 70) h0 kd_D_isLater_63 (by decide) ?_ ?_
    · exact hb_70
    refine wq_iconst_ok h0 kd_D_isLater_66 (by decide +kernel) ?_
    refine wq_goto_ok (tgt := 71) h0 kd_D_isLater_67 (by decide) ?_
    exact hb_71
  have hb_35 : wq_Snd p l e ({ frames := 0, cells := 0, slots := 0, locals := 0 } : Room) s m args below meth c 3 cs D kz_cl A (wq_G0 ad w) (wq_Q cs D kz_cl A (wq_G0 ad w) rt xt below s 0 0) 35 (kt_D_isLater_35 rt xt) := by
    exact wq_zreturn_ok h0 hr hlk kd_D_isLater_35
  have hb_34 : wq_Snd p l e ({ frames := 0, cells := 0, slots := 0, locals := 0 } : Room) s m args below meth c 3 cs D kz_cl A (wq_G0 ad w) (wq_Q cs D kz_cl A (wq_G0 ad w) rt xt below s 0 0) 34 (kt_D_isLater_34 rt xt) := by
    refine wq_iconst_ok h0 kd_D_isLater_34 (by decide +kernel) ?_
    exact hb_35
  have hb_0 : wq_Snd p l e ({ frames := 0, cells := 0, slots := 0, locals := 0 } : Room) s m args below meth c 3 cs D kz_cl A (wq_G0 ad w) (wq_Q cs D kz_cl A (wq_G0 ad w) rt xt below s 0 0) 0 (kt_D_isLater_0 rt xt) := by
    refine wq_aload_n_ok h0 kd_D_isLater_0 rfl ?_
    refine wq_get_ok (wq_getOK h0 hts ki_D hown hK (ci := 5) rfl 1 (Nat.le_of_ble_eq_true rfl) kw_197 rfl) kd_D_isLater_1 ?_
    refine wq_iload_n_ok h0 kd_D_isLater_4 rfl ?_
    refine wq_iald_ok h0 hK kd_D_isLater_5 ?_
    refine wq_aload_n_ok h0 kd_D_isLater_6 rfl ?_
    refine wq_get_ok (wq_getOK h0 hts ki_D hown hK (ci := 5) rfl 1 (Nat.le_of_ble_eq_true rfl) kw_197 rfl) kd_D_isLater_7 ?_
    refine wq_iload_n_ok h0 kd_D_isLater_10 rfl ?_
    refine wq_iald_ok h0 hK kd_D_isLater_11 ?_
    refine wq_icmp_eq_ok (tgt := 36) h0 kd_D_isLater_12 (by decide) ?_ ?_
    · exact hb_36
    refine wq_aload_n_ok h0 kd_D_isLater_15 rfl ?_
    refine wq_get_ok (wq_getOK h0 hts ki_D hown hK (ci := 5) rfl 1 (Nat.le_of_ble_eq_true rfl) kw_197 rfl) kd_D_isLater_16 ?_
    refine wq_iload_n_ok h0 kd_D_isLater_19 rfl ?_
    refine wq_iald_ok h0 hK kd_D_isLater_20 ?_
    refine wq_aload_n_ok h0 kd_D_isLater_21 rfl ?_
    refine wq_get_ok (wq_getOK h0 hts ki_D hown hK (ci := 5) rfl 1 (Nat.le_of_ble_eq_true rfl) kw_197 rfl) kd_D_isLater_22 ?_
    refine wq_iload_n_ok h0 kd_D_isLater_25 rfl ?_
    refine wq_iald_ok h0 hK kd_D_isLater_26 ?_
    refine wq_icmp_le_ok (tgt := 34) h0 kd_D_isLater_27 (by decide) ?_ ?_
    · exact hb_34
    refine wq_iconst_ok h0 kd_D_isLater_30 (by decide +kernel) ?_
    refine wq_goto_ok (tgt := 35) h0 kd_D_isLater_31 (by decide) ?_
    exact hb_35
  exact hb_0 _ _ _ _ _ (wq_sp_t hsp)
set_option maxRecDepth 100000 in
set_option maxHeartbeats 4000000 in
theorem kv_D_isLaterAccepted {l : Launch} (hl : l.stackTraces = false) : wq_Vld l kz_cl ky_D_isLaterAccepted kw_T ({ frames := 1, cells := 0, slots := 0, locals := 22 }) wq_G0 ks_D_isLaterAccepted 0 0 := by
  refine wq_method (cc := kc_D_isLaterAccepted) (maxL := 3) (ret := (some .boolean)) (by decide) kw_851 (fun _ _ => rfl) wq_sp_sz ?_
  intro p e s m args below meth c cs D ad as w rt xt hF hnt hsp
  obtain ⟨h0, hr, hts, hown, hlk, hnm, hml, hK, hZ, hN, hA⟩ := hF
  have hown : s.vm.findClass "BorderDesk$Declarations" = some m.cls := hown
  obtain ⟨A, hAe⟩ : ∃ A, A = wq_A ad w s.heap.size := ⟨_, rfl⟩
  rw [← hAe] at hZ hA ⊢
  have hall : ∀ K : Nat → wq_T, (∀ pc, pc ∈ [2] → wq_Snd p l e ({ frames := 1, cells := 0, slots := 0, locals := 22 } : Room) s m args below meth c 3 cs D kz_cl A (wq_G0 ad w) (wq_Q cs D kz_cl A (wq_G0 ad w) rt xt below s 0 0) pc (K pc)) → (∀ pc, pc ∈ [2] → wq_Snd p l e ({ frames := 1, cells := 0, slots := 0, locals := 22 } : Room) s m args below meth c 3 cs D kz_cl A (wq_G0 ad w) (wq_Q cs D kz_cl A (wq_G0 ad w) rt xt below s 0 0) pc (cond (Nat.beq pc 2) (kh_D_isLaterAccepted_2 rt xt K) (fun _ _ _ _ _ => False))) ∧ wq_Snd p l e ({ frames := 1, cells := 0, slots := 0, locals := 22 } : Room) s m args below meth c 3 cs D kz_cl A (wq_G0 ad w) (wq_Q cs D kz_cl A (wq_G0 ad w) rt xt below s 0 0) 0 (kt_D_isLaterAccepted_0 rt xt K) := by
    intro K hKc
    have hb_36 : wq_Snd p l e ({ frames := 1, cells := 0, slots := 0, locals := 22 } : Room) s m args below meth c 3 cs D kz_cl A (wq_G0 ad w) (wq_Q cs D kz_cl A (wq_G0 ad w) rt xt below s 0 0) 36 (kt_D_isLaterAccepted_36 rt xt K) := by
      refine wq_iconst_ok h0 kd_D_isLaterAccepted_36 (by decide +kernel) ?_
      exact wq_zreturn_ok h0 hr hlk kd_D_isLaterAccepted_37
    have hb_30 : wq_Snd p l e ({ frames := 1, cells := 0, slots := 0, locals := 22 } : Room) s m args below meth c 3 cs D kz_cl A (wq_G0 ad w) (wq_Q cs D kz_cl A (wq_G0 ad w) rt xt below s 0 0) 30 (kt_D_isLaterAccepted_30 rt xt K) := by
      refine wq_iinc_ok h0 kd_D_isLaterAccepted_30 (by decide +kernel) (Nat.le_of_ble_eq_true rfl) ?_
      refine wq_goto_ok (tgt := 2) h0 kd_D_isLaterAccepted_33 (by decide) ?_
      exact wq_can_ok (hKc 2 (by decide))
    have hb_2 : wq_Snd p l e ({ frames := 1, cells := 0, slots := 0, locals := 22 } : Room) s m args below meth c 3 cs D kz_cl A (wq_G0 ad w) (wq_Q cs D kz_cl A (wq_G0 ad w) rt xt below s 0 0) 2 (kh_D_isLaterAccepted_2 rt xt K) := by
      refine wq_iload_n_ok h0 kd_D_isLaterAccepted_2 rfl ?_
      refine wq_aload_n_ok h0 kd_D_isLaterAccepted_3 rfl ?_
      refine wq_get_ok (wq_getOK h0 hts ki_D hown hK (ci := 5) rfl 0 (Nat.le_of_ble_eq_true rfl) kw_195 rfl) kd_D_isLaterAccepted_4 ?_
      refine wq_icmp_ge_ok (tgt := 36) h0 kd_D_isLaterAccepted_7 (by decide) ?_ ?_
      · exact hb_36
      refine wq_aload_n_ok h0 kd_D_isLaterAccepted_10 rfl ?_
      refine wq_get_ok (wq_getOK h0 hts ki_D hown hK (ci := 5) rfl 5 (Nat.le_of_ble_eq_true rfl) kw_206 rfl) kd_D_isLaterAccepted_11 ?_
      refine wq_iload_n_ok h0 kd_D_isLaterAccepted_14 rfl ?_
      refine wq_zald_ok h0 hK kd_D_isLaterAccepted_15 ?_
      refine wq_if_eq_ok (tgt := 30) h0 kd_D_isLaterAccepted_16 (by decide) ?_ ?_
      · exact hb_30
      refine wq_aload_n_ok h0 kd_D_isLaterAccepted_19 rfl ?_
      refine wq_iload_n_ok h0 kd_D_isLaterAccepted_20 rfl ?_
      refine wq_iload_n_ok h0 kd_D_isLaterAccepted_21 rfl ?_
      refine wq_call_ok hA (wq_runV (ci := 5) ⟨h0.1, h0.2, hml, hown, hts⟩ (kv_D_isLater hl) ⟨(wq_cB hts kw_G kw_855 kw_6 kw_852 ⟨by decide +kernel, by decide +kernel, by decide +kernel⟩ rfl rfl ⟨Nat.le_of_ble_eq_true rfl, Nat.le_of_ble_eq_true rfl⟩), hts _ kw_854, hts _ kw_s22⟩ rfl rfl hK hZ hN hA kd_D_isLaterAccepted_22) (wq_xout_ok hnt hlk) ?_
      refine wq_if_eq_ok (tgt := 30) h0 kd_D_isLaterAccepted_25 (by decide) ?_ ?_
      · exact hb_30
      refine wq_iconst_ok h0 kd_D_isLaterAccepted_28 (by decide +kernel) ?_
      exact wq_zreturn_ok h0 hr hlk kd_D_isLaterAccepted_29
    have hb_0 : wq_Snd p l e ({ frames := 1, cells := 0, slots := 0, locals := 22 } : Room) s m args below meth c 3 cs D kz_cl A (wq_G0 ad w) (wq_Q cs D kz_cl A (wq_G0 ad w) rt xt below s 0 0) 0 (kt_D_isLaterAccepted_0 rt xt K) := by
      refine wq_iconst_ok h0 kd_D_isLaterAccepted_0 (by decide +kernel) ?_
      refine wq_istore_n_ok h0 kd_D_isLaterAccepted_1 rfl (Nat.le_of_ble_eq_true rfl) ?_
      exact wq_can_ok (hKc 2 (by decide))
    refine ⟨?_, hb_0⟩
    exact List.forall_mem_cons.mpr ⟨hb_2, fun _ h => absurd h List.not_mem_nil⟩
  have hun : ∀ (n pc : Nat), pc ∈ [2] → wq_Snd p l e ({ frames := 1, cells := 0, slots := 0, locals := 22 } : Room) s m args below meth c 3 cs D kz_cl A (wq_G0 ad w) (wq_Q cs D kz_cl A (wq_G0 ad w) rt xt below s 0 0) pc (ku_D_isLaterAccepted rt xt n pc) := by
    intro n
    induction n with
    | zero => intro pc _ L S w9 n1 n2 h; exact h.elim
    | succ n ih => intro pc hpc; exact (hall (ku_D_isLaterAccepted rt xt n) ih).1 pc hpc
  exact (hall (ku_D_isLaterAccepted rt xt 1000000000000) (hun 1000000000000)).2 _ _ _ _ _ (wq_sp_t hsp)
set_option maxRecDepth 100000 in
set_option maxHeartbeats 4000000 in
theorem kv_D_dutyOfAll {l : Launch} (hl : l.stackTraces = false) : wq_Vld l kz_cl ky_D_dutyOfAll kw_T ({ frames := 1, cells := 0, slots := 0, locals := 21 }) wq_G0 ks_D_dutyOfAll 0 0 := by
  refine wq_method (cc := kc_D_dutyOfAll) (maxL := 5) (ret := (some .long)) (by decide) kw_889 (fun _ _ => rfl) wq_sp_sz ?_
  intro p e s m args below meth c cs D ad as w rt xt hF hnt hsp
  obtain ⟨h0, hr, hts, hown, hlk, hnm, hml, hK, hZ, hN, hA⟩ := hF
  have hown : s.vm.findClass "BorderDesk$Declarations" = some m.cls := hown
  obtain ⟨A, hAe⟩ : ∃ A, A = wq_A ad w s.heap.size := ⟨_, rfl⟩
  rw [← hAe] at hZ hA ⊢
  have hall : ∀ K : Nat → wq_T, (∀ pc, pc ∈ [5] → wq_Snd p l e ({ frames := 1, cells := 0, slots := 0, locals := 21 } : Room) s m args below meth c 5 cs D kz_cl A (wq_G0 ad w) (wq_Q cs D kz_cl A (wq_G0 ad w) rt xt below s 0 0) pc (K pc)) → (∀ pc, pc ∈ [5] → wq_Snd p l e ({ frames := 1, cells := 0, slots := 0, locals := 21 } : Room) s m args below meth c 5 cs D kz_cl A (wq_G0 ad w) (wq_Q cs D kz_cl A (wq_G0 ad w) rt xt below s 0 0) pc (cond (Nat.beq pc 5) (kh_D_dutyOfAll_5 rt xt K) (fun _ _ _ _ _ => False))) ∧ wq_Snd p l e ({ frames := 1, cells := 0, slots := 0, locals := 21 } : Room) s m args below meth c 5 cs D kz_cl A (wq_G0 ad w) (wq_Q cs D kz_cl A (wq_G0 ad w) rt xt below s 0 0) 0 (kt_D_dutyOfAll_0 rt xt K) := by
    intro K hKc
    have hb_36 : wq_Snd p l e ({ frames := 1, cells := 0, slots := 0, locals := 21 } : Room) s m args below meth c 5 cs D kz_cl A (wq_G0 ad w) (wq_Q cs D kz_cl A (wq_G0 ad w) rt xt below s 0 0) 36 (kt_D_dutyOfAll_36 rt xt K) := by
      refine wq_lload_n_ok h0 kd_D_dutyOfAll_36 rfl ?_
      exact wq_lreturn_ok h0 hr hlk kd_D_dutyOfAll_37
    have hb_5 : wq_Snd p l e ({ frames := 1, cells := 0, slots := 0, locals := 21 } : Room) s m args below meth c 5 cs D kz_cl A (wq_G0 ad w) (wq_Q cs D kz_cl A (wq_G0 ad w) rt xt below s 0 0) 5 (kh_D_dutyOfAll_5 rt xt K) := by
      refine wq_iload_ok h0 kd_D_dutyOfAll_5 ?_
      refine wq_aload_n_ok h0 kd_D_dutyOfAll_7 rfl ?_
      refine wq_get_ok (wq_getOK h0 hts ki_D hown hK (ci := 5) rfl 3 (Nat.le_of_ble_eq_true rfl) kw_200 rfl) kd_D_dutyOfAll_8 ?_
      refine wq_iload_n_ok h0 kd_D_dutyOfAll_11 rfl ?_
      refine wq_iald_ok h0 hK kd_D_dutyOfAll_12 ?_
      refine wq_icmp_ge_ok (tgt := 36) h0 kd_D_dutyOfAll_13 (by decide) ?_ ?_
      · exact hb_36
      refine wq_lload_n_ok h0 kd_D_dutyOfAll_16 rfl ?_
      refine wq_aload_n_ok h0 kd_D_dutyOfAll_17 rfl ?_
      refine wq_get_ok (wq_getOK h0 hts ki_D hown hK (ci := 5) rfl 15 (Nat.le_of_ble_eq_true rfl) kw_229 rfl) kd_D_dutyOfAll_18 ?_
      refine wq_iload_n_ok h0 kd_D_dutyOfAll_21 rfl ?_
      refine wq_iload_ok h0 kd_D_dutyOfAll_22 ?_
      refine wq_call_ok hA (wq_runS ⟨h0.1, h0.2, hml, hown, hts⟩ (kv_D_rowOf hl) ⟨(wq_cB hts kw_G kw_724 kw_6 kw_722 ⟨by decide +kernel, by decide +kernel, by decide +kernel⟩ rfl rfl ⟨Nat.le_of_ble_eq_true rfl, Nat.le_of_ble_eq_true rfl⟩), hts _ kw_723⟩ hK hZ hN hA kd_D_dutyOfAll_24) (wq_xout_ok hnt hlk) ?_
      refine wq_lald_ok h0 hK kd_D_dutyOfAll_27 ?_
      refine wq_ladd_ok h0 kd_D_dutyOfAll_28 ?_
      refine wq_lstore_n_ok h0 kd_D_dutyOfAll_29 rfl (Nat.le_of_ble_eq_true rfl) ?_
      refine wq_iinc_ok h0 kd_D_dutyOfAll_30 (by decide +kernel) (Nat.le_of_ble_eq_true rfl) ?_
      refine wq_goto_ok (tgt := 5) h0 kd_D_dutyOfAll_33 (by decide) ?_
      exact wq_can_ok (hKc 5 (by decide))
    have hb_0 : wq_Snd p l e ({ frames := 1, cells := 0, slots := 0, locals := 21 } : Room) s m args below meth c 5 cs D kz_cl A (wq_G0 ad w) (wq_Q cs D kz_cl A (wq_G0 ad w) rt xt below s 0 0) 0 (kt_D_dutyOfAll_0 rt xt K) := by
      refine wq_lconst_ok h0 kd_D_dutyOfAll_0 (by decide +kernel) ?_
      refine wq_lstore_n_ok h0 kd_D_dutyOfAll_1 rfl (Nat.le_of_ble_eq_true rfl) ?_
      refine wq_iconst_ok h0 kd_D_dutyOfAll_2 (by decide +kernel) ?_
      refine wq_istore_ok h0 kd_D_dutyOfAll_3 (Nat.le_of_ble_eq_true rfl) ?_
      exact wq_can_ok (hKc 5 (by decide))
    refine ⟨?_, hb_0⟩
    exact List.forall_mem_cons.mpr ⟨hb_5, fun _ h => absurd h List.not_mem_nil⟩
  have hun : ∀ (n pc : Nat), pc ∈ [5] → wq_Snd p l e ({ frames := 1, cells := 0, slots := 0, locals := 21 } : Room) s m args below meth c 5 cs D kz_cl A (wq_G0 ad w) (wq_Q cs D kz_cl A (wq_G0 ad w) rt xt below s 0 0) pc (ku_D_dutyOfAll rt xt n pc) := by
    intro n
    induction n with
    | zero => intro pc _ L S w9 n1 n2 h; exact h.elim
    | succ n ih => intro pc hpc; exact (hall (ku_D_dutyOfAll rt xt n) ih).1 pc hpc
  exact (hall (ku_D_dutyOfAll rt xt 1000000000000) (hun 1000000000000)).2 _ _ _ _ _ (wq_sp_t hsp)
set_option maxRecDepth 100000 in
set_option maxHeartbeats 4000000 in
theorem kv_L_add {l : Launch} (hl : l.stackTraces = false) : wq_Vld l kz_cl ky_L_add kw_T ({ frames := 0, cells := 0, slots := 0, locals := 0 }) wq_G0 ks_L_add 0 0 := by
  refine wq_method (cc := kc_L_add) (maxL := 8) (ret := (some .int)) (by decide) kw_885 (fun _ _ => rfl) wq_sp_sz ?_
  intro p e s m args below meth c cs D ad as w rt xt hF hnt hsp
  obtain ⟨h0, hr, hts, hown, hlk, hnm, hml, hK, hZ, hN, hA⟩ := hF
  have hown : s.vm.findClass "BorderDesk$Lots" = some m.cls := hown
  obtain ⟨A, hAe⟩ : ∃ A, A = wq_A ad w s.heap.size := ⟨_, rfl⟩
  rw [← hAe] at hZ hA ⊢
  have hb_0 : wq_Snd p l e ({ frames := 0, cells := 0, slots := 0, locals := 0 } : Room) s m args below meth c 8 cs D kz_cl A (wq_G0 ad w) (wq_Q cs D kz_cl A (wq_G0 ad w) rt xt below s 0 0) 0 (kt_L_add_0 rt xt) := by
    refine wq_aload_n_ok h0 kd_L_add_0 rfl ?_
    refine wq_get_ok (wq_getOK h0 hts ki_L hown hK (ci := 7) rfl 0 (Nat.le_of_ble_eq_true rfl) kw_317 rfl) kd_L_add_1 ?_
    refine wq_istore_ok h0 kd_L_add_4 (Nat.le_of_ble_eq_true rfl) ?_
    refine wq_aload_n_ok h0 kd_L_add_6 rfl ?_
    refine wq_get_ok (wq_getOK h0 hts ki_L hown hK (ci := 7) rfl 1 (Nat.le_of_ble_eq_true rfl) kw_319 rfl) kd_L_add_7 ?_
    refine wq_iload_ok h0 kd_L_add_10 ?_
    refine wq_iload_n_ok h0 kd_L_add_12 rfl ?_
    refine wq_iast_ok h0 hK kd_L_add_13 ?_
    refine wq_aload_n_ok h0 kd_L_add_14 rfl ?_
    refine wq_get_ok (wq_getOK h0 hts ki_L hown hK (ci := 7) rfl 2 (Nat.le_of_ble_eq_true rfl) kw_321 rfl) kd_L_add_15 ?_
    refine wq_iload_ok h0 kd_L_add_18 ?_
    refine wq_iload_n_ok h0 kd_L_add_20 rfl ?_
    refine wq_iast_ok h0 hK kd_L_add_21 ?_
    refine wq_aload_n_ok h0 kd_L_add_22 rfl ?_
    refine wq_get_ok (wq_getOK h0 hts ki_L hown hK (ci := 7) rfl 4 (Nat.le_of_ble_eq_true rfl) kw_325 rfl) kd_L_add_23 ?_
    refine wq_iload_ok h0 kd_L_add_26 ?_
    refine wq_lload_n_ok h0 kd_L_add_28 rfl ?_
    refine wq_last_ok h0 hK kd_L_add_29 ?_
    refine wq_aload_n_ok h0 kd_L_add_30 rfl ?_
    refine wq_get_ok (wq_getOK h0 hts ki_L hown hK (ci := 7) rfl 5 (Nat.le_of_ble_eq_true rfl) kw_327 rfl) kd_L_add_31 ?_
    refine wq_iload_ok h0 kd_L_add_34 ?_
    refine wq_iload_ok h0 kd_L_add_36 ?_
    refine wq_zast_ok h0 hK kd_L_add_38 ?_
    refine wq_aload_n_ok h0 kd_L_add_39 rfl ?_
    refine wq_get_ok (wq_getOK h0 hts ki_L hown hK (ci := 7) rfl 6 (Nat.le_of_ble_eq_true rfl) kw_329 rfl) kd_L_add_40 ?_
    refine wq_iload_ok h0 kd_L_add_43 ?_
    refine wq_iload_ok h0 kd_L_add_45 ?_
    refine wq_zast_ok h0 hK kd_L_add_47 ?_
    refine wq_aload_n_ok h0 kd_L_add_48 rfl ?_
    refine wq_dup_ok h0 kd_L_add_49 ?_
    refine wq_get_ok (wq_getOK h0 hts ki_L hown hK (ci := 7) rfl 0 (Nat.le_of_ble_eq_true rfl) kw_317 rfl) kd_L_add_50 ?_
    refine wq_iconst_ok h0 kd_L_add_53 (by decide +kernel) ?_
    refine wq_iadd_ok h0 kd_L_add_54 ?_
    refine wq_put_ok (wq_putOK h0 hts ki_L ka_L kb_L kn_L hown hK (ci := 7) rfl 0 (Nat.le_of_ble_eq_true rfl) kw_317 rfl (Or.inl rfl) wq_okI) kd_L_add_55 ?_
    refine wq_iload_ok h0 kd_L_add_58 ?_
    exact wq_ireturn_ok h0 hr hlk kd_L_add_60
  exact hb_0 _ _ _ _ _ (wq_sp_t hsp)
set_option maxRecDepth 100000 in
set_option maxHeartbeats 4000000 in
theorem kv_L_unitsLeft {l : Launch} (hl : l.stackTraces = false) : wq_Vld l kz_cl ky_L_unitsLeft kw_T ({ frames := 0, cells := 0, slots := 0, locals := 0 }) wq_G0 ks_L_unitsLeft 0 0 := by
  refine wq_method (cc := kc_L_unitsLeft) (maxL := 5) (ret := (some .int)) (by decide) kw_927 (fun _ _ => rfl) wq_sp_sz ?_
  intro p e s m args below meth c cs D ad as w rt xt hF hnt hsp
  obtain ⟨h0, hr, hts, hown, hlk, hnm, hml, hK, hZ, hN, hA⟩ := hF
  have hown : s.vm.findClass "BorderDesk$Lots" = some m.cls := hown
  obtain ⟨A, hAe⟩ : ∃ A, A = wq_A ad w s.heap.size := ⟨_, rfl⟩
  rw [← hAe] at hZ hA ⊢
  have hall : ∀ K : Nat → wq_T, (∀ pc, pc ∈ [5] → wq_Snd p l e ({ frames := 0, cells := 0, slots := 0, locals := 0 } : Room) s m args below meth c 5 cs D kz_cl A (wq_G0 ad w) (wq_Q cs D kz_cl A (wq_G0 ad w) rt xt below s 0 0) pc (K pc)) → (∀ pc, pc ∈ [5] → wq_Snd p l e ({ frames := 0, cells := 0, slots := 0, locals := 0 } : Room) s m args below meth c 5 cs D kz_cl A (wq_G0 ad w) (wq_Q cs D kz_cl A (wq_G0 ad w) rt xt below s 0 0) pc (cond (Nat.beq pc 5) (kh_L_unitsLeft_5 rt xt K) (fun _ _ _ _ _ => False))) ∧ wq_Snd p l e ({ frames := 0, cells := 0, slots := 0, locals := 0 } : Room) s m args below meth c 5 cs D kz_cl A (wq_G0 ad w) (wq_Q cs D kz_cl A (wq_G0 ad w) rt xt below s 0 0) 0 (kt_L_unitsLeft_0 rt xt K) := by
    intro K hKc
    have hb_60 : wq_Snd p l e ({ frames := 0, cells := 0, slots := 0, locals := 0 } : Room) s m args below meth c 5 cs D kz_cl A (wq_G0 ad w) (wq_Q cs D kz_cl A (wq_G0 ad w) rt xt below s 0 0) 60 (kt_L_unitsLeft_60 rt xt K) := by
      refine wq_iload_n_ok h0 kd_L_unitsLeft_60 rfl ?_
      exact wq_ireturn_ok h0 hr hlk kd_L_unitsLeft_61
    have hb_54 : wq_Snd p l e ({ frames := 0, cells := 0, slots := 0, locals := 0 } : Room) s m args below meth c 5 cs D kz_cl A (wq_G0 ad w) (wq_Q cs D kz_cl A (wq_G0 ad w) rt xt below s 0 0) 54 (kt_L_unitsLeft_54 rt xt K) := by
      refine wq_iinc_ok h0 kd_L_unitsLeft_54 (by decide +kernel) (Nat.le_of_ble_eq_true rfl) ?_
      refine wq_goto_ok (tgt := 5) h0 kd_L_unitsLeft_57 (by decide) ?_
      exact wq_can_ok (hKc 5 (by decide))
    have hb_5 : wq_Snd p l e ({ frames := 0, cells := 0, slots := 0, locals := 0 } : Room) s m args below meth c 5 cs D kz_cl A (wq_G0 ad w) (wq_Q cs D kz_cl A (wq_G0 ad w) rt xt below s 0 0) 5 (kh_L_unitsLeft_5 rt xt K) := by
      refine wq_iload_ok h0 kd_L_unitsLeft_5 ?_
      refine wq_aload_n_ok h0 kd_L_unitsLeft_7 rfl ?_
      refine wq_get_ok (wq_getOK h0 hts ki_L hown hK (ci := 7) rfl 0 (Nat.le_of_ble_eq_true rfl) kw_317 rfl) kd_L_unitsLeft_8 ?_
      refine wq_icmp_ge_ok (tgt := 60) h0 kd_L_unitsLeft_11 (by decide) ?_ ?_
      · exact hb_60
      refine wq_aload_n_ok h0 kd_L_unitsLeft_14 rfl ?_
      refine wq_get_ok (wq_getOK h0 hts ki_L hown hK (ci := 7) rfl 1 (Nat.le_of_ble_eq_true rfl) kw_319 rfl) kd_L_unitsLeft_15 ?_
      refine wq_iload_ok h0 kd_L_unitsLeft_18 ?_
      refine wq_iald_ok h0 hK kd_L_unitsLeft_20 ?_
      refine wq_iload_n_ok h0 kd_L_unitsLeft_21 rfl ?_
      refine wq_icmp_ne_ok (tgt := 54) h0 kd_L_unitsLeft_22 (by decide) ?_ ?_
      · exact hb_54
      refine wq_aload_n_ok h0 kd_L_unitsLeft_25 rfl ?_
      refine wq_get_ok (wq_getOK h0 hts ki_L hown hK (ci := 7) rfl 5 (Nat.le_of_ble_eq_true rfl) kw_327 rfl) kd_L_unitsLeft_26 ?_
      refine wq_iload_ok h0 kd_L_unitsLeft_29 ?_
      refine wq_zald_ok h0 hK kd_L_unitsLeft_31 ?_
      refine wq_iload_n_ok h0 kd_L_unitsLeft_32 rfl ?_
      refine wq_icmp_ne_ok (tgt := 54) h0 kd_L_unitsLeft_33 (by decide) ?_ ?_
      · exact hb_54
      refine wq_iload_n_ok h0 kd_L_unitsLeft_36 rfl ?_
      refine wq_aload_n_ok h0 kd_L_unitsLeft_37 rfl ?_
      refine wq_get_ok (wq_getOK h0 hts ki_L hown hK (ci := 7) rfl 2 (Nat.le_of_ble_eq_true rfl) kw_321 rfl) kd_L_unitsLeft_38 ?_
      refine wq_iload_ok h0 kd_L_unitsLeft_41 ?_
      refine wq_iald_ok h0 hK kd_L_unitsLeft_43 ?_
      refine wq_aload_n_ok h0 kd_L_unitsLeft_44 rfl ?_
      refine wq_get_ok (wq_getOK h0 hts ki_L hown hK (ci := 7) rfl 3 (Nat.le_of_ble_eq_true rfl) kw_323 rfl) kd_L_unitsLeft_45 ?_
      refine wq_iload_ok h0 kd_L_unitsLeft_48 ?_
      refine wq_iald_ok h0 hK kd_L_unitsLeft_50 ?_
      refine wq_isub_ok h0 kd_L_unitsLeft_51 ?_
      refine wq_iadd_ok h0 kd_L_unitsLeft_52 ?_
      refine wq_istore_n_ok h0 kd_L_unitsLeft_53 rfl (Nat.le_of_ble_eq_true rfl) ?_
      exact hb_54
    have hb_0 : wq_Snd p l e ({ frames := 0, cells := 0, slots := 0, locals := 0 } : Room) s m args below meth c 5 cs D kz_cl A (wq_G0 ad w) (wq_Q cs D kz_cl A (wq_G0 ad w) rt xt below s 0 0) 0 (kt_L_unitsLeft_0 rt xt K) := by
      refine wq_iconst_ok h0 kd_L_unitsLeft_0 (by decide +kernel) ?_
      refine wq_istore_n_ok h0 kd_L_unitsLeft_1 rfl (Nat.le_of_ble_eq_true rfl) ?_
      refine wq_iconst_ok h0 kd_L_unitsLeft_2 (by decide +kernel) ?_
      refine wq_istore_ok h0 kd_L_unitsLeft_3 (Nat.le_of_ble_eq_true rfl) ?_
      exact wq_can_ok (hKc 5 (by decide))
    refine ⟨?_, hb_0⟩
    exact List.forall_mem_cons.mpr ⟨hb_5, fun _ h => absurd h List.not_mem_nil⟩
  have hun : ∀ (n pc : Nat), pc ∈ [5] → wq_Snd p l e ({ frames := 0, cells := 0, slots := 0, locals := 0 } : Room) s m args below meth c 5 cs D kz_cl A (wq_G0 ad w) (wq_Q cs D kz_cl A (wq_G0 ad w) rt xt below s 0 0) pc (ku_L_unitsLeft rt xt n pc) := by
    intro n
    induction n with
    | zero => intro pc _ L S w9 n1 n2 h; exact h.elim
    | succ n ih => intro pc hpc; exact (hall (ku_L_unitsLeft rt xt n) ih).1 pc hpc
  exact (hall (ku_L_unitsLeft rt xt 1000000000000) (hun 1000000000000)).2 _ _ _ _ _ (wq_sp_t hsp)
set_option maxRecDepth 100000 in
set_option maxHeartbeats 4000000 in
theorem kv_L_heldUnitsThatCame {l : Launch} (hl : l.stackTraces = false) : wq_Vld l kz_cl ky_L_heldUnitsThatCame kw_T ({ frames := 0, cells := 0, slots := 0, locals := 0 }) wq_G0 ks_L_heldUnitsThatCame 0 0 := by
  refine wq_method (cc := kc_L_heldUnitsThatCame) (maxL := 5) (ret := (some .int)) (by decide) kw_968 (fun _ _ => rfl) wq_sp_sz ?_
  intro p e s m args below meth c cs D ad as w rt xt hF hnt hsp
  obtain ⟨h0, hr, hts, hown, hlk, hnm, hml, hK, hZ, hN, hA⟩ := hF
  have hown : s.vm.findClass "BorderDesk$Lots" = some m.cls := hown
  obtain ⟨A, hAe⟩ : ∃ A, A = wq_A ad w s.heap.size := ⟨_, rfl⟩
  rw [← hAe] at hZ hA ⊢
  have hall : ∀ K : Nat → wq_T, (∀ pc, pc ∈ [5] → wq_Snd p l e ({ frames := 0, cells := 0, slots := 0, locals := 0 } : Room) s m args below meth c 5 cs D kz_cl A (wq_G0 ad w) (wq_Q cs D kz_cl A (wq_G0 ad w) rt xt below s 0 0) pc (K pc)) → (∀ pc, pc ∈ [5] → wq_Snd p l e ({ frames := 0, cells := 0, slots := 0, locals := 0 } : Room) s m args below meth c 5 cs D kz_cl A (wq_G0 ad w) (wq_Q cs D kz_cl A (wq_G0 ad w) rt xt below s 0 0) pc (cond (Nat.beq pc 5) (kh_L_heldUnitsThatCame_5 rt xt K) (fun _ _ _ _ _ => False))) ∧ wq_Snd p l e ({ frames := 0, cells := 0, slots := 0, locals := 0 } : Room) s m args below meth c 5 cs D kz_cl A (wq_G0 ad w) (wq_Q cs D kz_cl A (wq_G0 ad w) rt xt below s 0 0) 0 (kt_L_heldUnitsThatCame_0 rt xt K) := by
    intro K hKc
    have hb_62 : wq_Snd p l e ({ frames := 0, cells := 0, slots := 0, locals := 0 } : Room) s m args below meth c 5 cs D kz_cl A (wq_G0 ad w) (wq_Q cs D kz_cl A (wq_G0 ad w) rt xt below s 0 0) 62 (kt_L_heldUnitsThatCame_62 rt xt K) := by
      refine wq_iload_n_ok h0 kd_L_heldUnitsThatCame_62 rfl ?_
      exact wq_ireturn_ok h0 hr hlk kd_L_heldUnitsThatCame_63
    have hb_56 : wq_Snd p l e ({ frames := 0, cells := 0, slots := 0, locals := 0 } : Room) s m args below meth c 5 cs D kz_cl A (wq_G0 ad w) (wq_Q cs D kz_cl A (wq_G0 ad w) rt xt below s 0 0) 56 (kt_L_heldUnitsThatCame_56 rt xt K) := by
      refine wq_iinc_ok h0 kd_L_heldUnitsThatCame_56 (by decide +kernel) (Nat.le_of_ble_eq_true rfl) ?_
      refine wq_goto_ok (tgt := 5) h0 kd_L_heldUnitsThatCame_59 (by decide) ?_
      exact wq_can_ok (hKc 5 (by decide))
    have hb_5 : wq_Snd p l e ({ frames := 0, cells := 0, slots := 0, locals := 0 } : Room) s m args below meth c 5 cs D kz_cl A (wq_G0 ad w) (wq_Q cs D kz_cl A (wq_G0 ad w) rt xt below s 0 0) 5 (kh_L_heldUnitsThatCame_5 rt xt K) := by
      refine wq_iload_ok h0 kd_L_heldUnitsThatCame_5 ?_
      refine wq_aload_n_ok h0 kd_L_heldUnitsThatCame_7 rfl ?_
      refine wq_get_ok (wq_getOK h0 hts ki_L hown hK (ci := 7) rfl 0 (Nat.le_of_ble_eq_true rfl) kw_317 rfl) kd_L_heldUnitsThatCame_8 ?_
      refine wq_icmp_ge_ok (tgt := 62) h0 kd_L_heldUnitsThatCame_11 (by decide) ?_ ?_
      · exact hb_62
      refine wq_aload_n_ok h0 kd_L_heldUnitsThatCame_14 rfl ?_
      refine wq_get_ok (wq_getOK h0 hts ki_L hown hK (ci := 7) rfl 1 (Nat.le_of_ble_eq_true rfl) kw_319 rfl) kd_L_heldUnitsThatCame_15 ?_
      refine wq_iload_ok h0 kd_L_heldUnitsThatCame_18 ?_
      refine wq_iald_ok h0 hK kd_L_heldUnitsThatCame_20 ?_
      refine wq_iload_n_ok h0 kd_L_heldUnitsThatCame_21 rfl ?_
      refine wq_icmp_ne_ok (tgt := 56) h0 kd_L_heldUnitsThatCame_22 (by decide) ?_ ?_
      · exact hb_56
      refine wq_aload_n_ok h0 kd_L_heldUnitsThatCame_25 rfl ?_
      refine wq_get_ok (wq_getOK h0 hts ki_L hown hK (ci := 7) rfl 5 (Nat.le_of_ble_eq_true rfl) kw_327 rfl) kd_L_heldUnitsThatCame_26 ?_
      refine wq_iload_ok h0 kd_L_heldUnitsThatCame_29 ?_
      refine wq_zald_ok h0 hK kd_L_heldUnitsThatCame_31 ?_
      refine wq_if_eq_ok (tgt := 56) h0 kd_L_heldUnitsThatCame_32 (by decide) ?_ ?_
      · exact hb_56
      refine wq_aload_n_ok h0 kd_L_heldUnitsThatCame_35 rfl ?_
      refine wq_get_ok (wq_getOK h0 hts ki_L hown hK (ci := 7) rfl 6 (Nat.le_of_ble_eq_true rfl) kw_329 rfl) kd_L_heldUnitsThatCame_36 ?_
      refine wq_iload_ok h0 kd_L_heldUnitsThatCame_39 ?_
      refine wq_zald_ok h0 hK kd_L_heldUnitsThatCame_41 ?_
      refine wq_iload_n_ok h0 kd_L_heldUnitsThatCame_42 rfl ?_
      refine wq_icmp_ne_ok (tgt := 56) h0 kd_L_heldUnitsThatCame_43 (by decide) ?_ ?_
      · exact hb_56
      refine wq_iload_n_ok h0 kd_L_heldUnitsThatCame_46 rfl ?_
      refine wq_aload_n_ok h0 kd_L_heldUnitsThatCame_47 rfl ?_
      refine wq_get_ok (wq_getOK h0 hts ki_L hown hK (ci := 7) rfl 2 (Nat.le_of_ble_eq_true rfl) kw_321 rfl) kd_L_heldUnitsThatCame_48 ?_
      refine wq_iload_ok h0 kd_L_heldUnitsThatCame_51 ?_
      refine wq_iald_ok h0 hK kd_L_heldUnitsThatCame_53 ?_
      refine wq_iadd_ok h0 kd_L_heldUnitsThatCame_54 ?_
      refine wq_istore_n_ok h0 kd_L_heldUnitsThatCame_55 rfl (Nat.le_of_ble_eq_true rfl) ?_
      exact hb_56
    have hb_0 : wq_Snd p l e ({ frames := 0, cells := 0, slots := 0, locals := 0 } : Room) s m args below meth c 5 cs D kz_cl A (wq_G0 ad w) (wq_Q cs D kz_cl A (wq_G0 ad w) rt xt below s 0 0) 0 (kt_L_heldUnitsThatCame_0 rt xt K) := by
      refine wq_iconst_ok h0 kd_L_heldUnitsThatCame_0 (by decide +kernel) ?_
      refine wq_istore_n_ok h0 kd_L_heldUnitsThatCame_1 rfl (Nat.le_of_ble_eq_true rfl) ?_
      refine wq_iconst_ok h0 kd_L_heldUnitsThatCame_2 (by decide +kernel) ?_
      refine wq_istore_ok h0 kd_L_heldUnitsThatCame_3 (Nat.le_of_ble_eq_true rfl) ?_
      exact wq_can_ok (hKc 5 (by decide))
    refine ⟨?_, hb_0⟩
    exact List.forall_mem_cons.mpr ⟨hb_5, fun _ h => absurd h List.not_mem_nil⟩
  have hun : ∀ (n pc : Nat), pc ∈ [5] → wq_Snd p l e ({ frames := 0, cells := 0, slots := 0, locals := 0 } : Room) s m args below meth c 5 cs D kz_cl A (wq_G0 ad w) (wq_Q cs D kz_cl A (wq_G0 ad w) rt xt below s 0 0) pc (ku_L_heldUnitsThatCame rt xt n pc) := by
    intro n
    induction n with
    | zero => intro pc _ L S w9 n1 n2 h; exact h.elim
    | succ n ih => intro pc hpc; exact (hall (ku_L_heldUnitsThatCame rt xt n) ih).1 pc hpc
  exact (hall (ku_L_heldUnitsThatCame rt xt 1000000000000) (hun 1000000000000)).2 _ _ _ _ _ (wq_sp_t hsp)
set_option maxRecDepth 100000 in
set_option maxHeartbeats 4000000 in
theorem kv_L_dutyGone {l : Launch} (hl : l.stackTraces = false) : wq_Vld l kz_cl ky_L_dutyGone kw_T ({ frames := 0, cells := 0, slots := 0, locals := 0 }) wq_G0 ks_L_dutyGone 0 0 := by
  refine wq_method (cc := kc_L_dutyGone) (maxL := 2) (ret := (some .long)) (by decide) kw_936 (fun _ _ => rfl) wq_sp_sz ?_
  intro p e s m args below meth c cs D ad as w rt xt hF hnt hsp
  obtain ⟨h0, hr, hts, hown, hlk, hnm, hml, hK, hZ, hN, hA⟩ := hF
  have hown : s.vm.findClass "BorderDesk$Lots" = some m.cls := hown
  obtain ⟨A, hAe⟩ : ∃ A, A = wq_A ad w s.heap.size := ⟨_, rfl⟩
  rw [← hAe] at hZ hA ⊢
  have hb_35 : wq_Snd p l e ({ frames := 0, cells := 0, slots := 0, locals := 0 } : Room) s m args below meth c 2 cs D kz_cl A (wq_G0 ad w) (wq_Q cs D kz_cl A (wq_G0 ad w) rt xt below s 0 0) 35 (kt_L_dutyGone_35 rt xt) := by
    exact wq_lreturn_ok h0 hr hlk kd_L_dutyGone_35
  have hb_13 : wq_Snd p l e ({ frames := 0, cells := 0, slots := 0, locals := 0 } : Room) s m args below meth c 2 cs D kz_cl A (wq_G0 ad w) (wq_Q cs D kz_cl A (wq_G0 ad w) rt xt below s 0 0) 13 (kt_L_dutyGone_13 rt xt) := by
    refine wq_aload_n_ok h0 kd_L_dutyGone_13 rfl ?_
    refine wq_get_ok (wq_getOK h0 hts ki_L hown hK (ci := 7) rfl 4 (Nat.le_of_ble_eq_true rfl) kw_325 rfl) kd_L_dutyGone_14 ?_
    refine wq_iload_n_ok h0 kd_L_dutyGone_17 rfl ?_
    refine wq_lald_ok h0 hK kd_L_dutyGone_18 ?_
    refine wq_aload_n_ok h0 kd_L_dutyGone_19 rfl ?_
    refine wq_get_ok (wq_getOK h0 hts ki_L hown hK (ci := 7) rfl 3 (Nat.le_of_ble_eq_true rfl) kw_323 rfl) kd_L_dutyGone_20 ?_
    refine wq_iload_n_ok h0 kd_L_dutyGone_23 rfl ?_
    refine wq_iald_ok h0 hK kd_L_dutyGone_24 ?_
    refine wq_i2l_ok h0 kd_L_dutyGone_25 ?_
    refine wq_lmul_ok h0 kd_L_dutyGone_26 ?_
    refine wq_aload_n_ok h0 kd_L_dutyGone_27 rfl ?_
    refine wq_get_ok (wq_getOK h0 hts ki_L hown hK (ci := 7) rfl 2 (Nat.le_of_ble_eq_true rfl) kw_321 rfl) kd_L_dutyGone_28 ?_
    refine wq_iload_n_ok h0 kd_L_dutyGone_31 rfl ?_
    refine wq_iald_ok h0 hK kd_L_dutyGone_32 ?_
    refine wq_i2l_ok h0 kd_L_dutyGone_33 ?_
    refine wq_ldiv_ok h0 kd_L_dutyGone_34 ?_
    exact hb_35
  have hb_0 : wq_Snd p l e ({ frames := 0, cells := 0, slots := 0, locals := 0 } : Room) s m args below meth c 2 cs D kz_cl A (wq_G0 ad w) (wq_Q cs D kz_cl A (wq_G0 ad w) rt xt below s 0 0) 0 (kt_L_dutyGone_0 rt xt) := by
    refine wq_aload_n_ok h0 kd_L_dutyGone_0 rfl ?_
    refine wq_get_ok (wq_getOK h0 hts ki_L hown hK (ci := 7) rfl 2 (Nat.le_of_ble_eq_true rfl) kw_321 rfl) kd_L_dutyGone_1 ?_
    refine wq_iload_n_ok h0 kd_L_dutyGone_4 rfl ?_
    refine wq_iald_ok h0 hK kd_L_dutyGone_5 ?_
    refine wq_if_gt_ok (tgt := 13) h0 kd_L_dutyGone_6 (by decide) ?_ ?_
    · exact hb_13
    refine wq_lconst_ok h0 kd_L_dutyGone_9 (by decide +kernel) ?_
    refine wq_goto_ok (tgt := 35) h0 kd_L_dutyGone_10 (by decide) ?_
    exact hb_35
  exact hb_0 _ _ _ _ _ (wq_sp_t hsp)
set_option maxRecDepth 100000 in
set_option maxHeartbeats 4000000 in
theorem kv_L_takeUnits {l : Launch} (hl : l.stackTraces = false) : wq_Vld l kz_cl ky_L_takeUnits kw_T ({ frames := 1, cells := 0, slots := 0, locals := 23 }) wq_G0 ks_L_takeUnits 0 0 := by
  refine wq_method (cc := kc_L_takeUnits) (maxL := 11) (ret := (some .long)) (by decide) kw_931 (fun _ _ => rfl) wq_sp_sz ?_
  intro p e s m args below meth c cs D ad as w rt xt hF hnt hsp
  obtain ⟨h0, hr, hts, hown, hlk, hnm, hml, hK, hZ, hN, hA⟩ := hF
  have hown : s.vm.findClass "BorderDesk$Lots" = some m.cls := hown
  obtain ⟨A, hAe⟩ : ∃ A, A = wq_A ad w s.heap.size := ⟨_, rfl⟩
  rw [← hAe] at hZ hA ⊢
  have hall : ∀ K : Nat → wq_T, (∀ pc, pc ∈ [9] → wq_Snd p l e ({ frames := 1, cells := 0, slots := 0, locals := 23 } : Room) s m args below meth c 11 cs D kz_cl A (wq_G0 ad w) (wq_Q cs D kz_cl A (wq_G0 ad w) rt xt below s 0 0) pc (K pc)) → (∀ pc, pc ∈ [9] → wq_Snd p l e ({ frames := 1, cells := 0, slots := 0, locals := 23 } : Room) s m args below meth c 11 cs D kz_cl A (wq_G0 ad w) (wq_Q cs D kz_cl A (wq_G0 ad w) rt xt below s 0 0) pc (cond (Nat.beq pc 9) (kh_L_takeUnits_9 rt xt K) (fun _ _ _ _ _ => False))) ∧ wq_Snd p l e ({ frames := 1, cells := 0, slots := 0, locals := 23 } : Room) s m args below meth c 11 cs D kz_cl A (wq_G0 ad w) (wq_Q cs D kz_cl A (wq_G0 ad w) rt xt below s 0 0) 0 (kt_L_takeUnits_0 rt xt K) := by
    intro K hKc
    have hb_114 : wq_Snd p l e ({ frames := 1, cells := 0, slots := 0, locals := 23 } : Room) s m args below meth c 11 cs D kz_cl A (wq_G0 ad w) (wq_Q cs D kz_cl A (wq_G0 ad w) rt xt below s 0 0) 114 (kt_L_takeUnits_114 rt xt K) := by
      refine wq_lload_ok h0 kd_L_takeUnits_114 ?_
      exact wq_lreturn_ok h0 hr hlk kd_L_takeUnits_116
    have hb_108 : wq_Snd p l e ({ frames := 1, cells := 0, slots := 0, locals := 23 } : Room) s m args below meth c 11 cs D kz_cl A (wq_G0 ad w) (wq_Q cs D kz_cl A (wq_G0 ad w) rt xt below s 0 0) 108 (kt_L_takeUnits_108 rt xt K) := by
      refine wq_iinc_ok h0 kd_L_takeUnits_108 (by decide +kernel) (Nat.le_of_ble_eq_true rfl) ?_
      refine wq_goto_ok (tgt := 9) h0 kd_L_takeUnits_111 (by decide) ?_
      exact wq_can_ok (hKc 9 (by decide))
    have hb_9 : wq_Snd p l e ({ frames := 1, cells := 0, slots := 0, locals := 23 } : Room) s m args below meth c 11 cs D kz_cl A (wq_G0 ad w) (wq_Q cs D kz_cl A (wq_G0 ad w) rt xt below s 0 0) 9 (kh_L_takeUnits_9 rt xt K) := by
      refine wq_iload_ok h0 kd_L_takeUnits_9 ?_
      refine wq_aload_n_ok h0 kd_L_takeUnits_11 rfl ?_
      refine wq_get_ok (wq_getOK h0 hts ki_L hown hK (ci := 7) rfl 0 (Nat.le_of_ble_eq_true rfl) kw_317 rfl) kd_L_takeUnits_12 ?_
      refine wq_icmp_ge_ok (tgt := 114) h0 kd_L_takeUnits_15 (by decide) ?_ ?_
      · exact hb_114
      refine wq_iload_ok h0 kd_L_takeUnits_18 ?_
      refine wq_if_le_ok (tgt := 114) h0 kd_L_takeUnits_20 (by decide) ?_ ?_
      · exact hb_114
      refine wq_aload_n_ok h0 kd_L_takeUnits_23 rfl ?_
      refine wq_get_ok (wq_getOK h0 hts ki_L hown hK (ci := 7) rfl 1 (Nat.le_of_ble_eq_true rfl) kw_319 rfl) kd_L_takeUnits_24 ?_
      refine wq_iload_ok h0 kd_L_takeUnits_27 ?_
      refine wq_iald_ok h0 hK kd_L_takeUnits_29 ?_
      refine wq_iload_n_ok h0 kd_L_takeUnits_30 rfl ?_
      refine wq_icmp_ne_ok (tgt := 108) h0 kd_L_takeUnits_31 (by decide) ?_ ?_
      · exact hb_108
      refine wq_aload_n_ok h0 kd_L_takeUnits_34 rfl ?_
      refine wq_get_ok (wq_getOK h0 hts ki_L hown hK (ci := 7) rfl 5 (Nat.le_of_ble_eq_true rfl) kw_327 rfl) kd_L_takeUnits_35 ?_
      refine wq_iload_ok h0 kd_L_takeUnits_38 ?_
      refine wq_zald_ok h0 hK kd_L_takeUnits_40 ?_
      refine wq_iload_n_ok h0 kd_L_takeUnits_41 rfl ?_
      refine wq_icmp_ne_ok (tgt := 108) h0 kd_L_takeUnits_42 (by decide) ?_ ?_
      · exact hb_108
      refine wq_iload_ok h0 kd_L_takeUnits_45 ?_
      refine wq_aload_n_ok h0 kd_L_takeUnits_47 rfl ?_
      refine wq_get_ok (wq_getOK h0 hts ki_L hown hK (ci := 7) rfl 2 (Nat.le_of_ble_eq_true rfl) kw_321 rfl) kd_L_takeUnits_48 ?_
      refine wq_iload_ok h0 kd_L_takeUnits_51 ?_
      refine wq_iald_ok h0 hK kd_L_takeUnits_53 ?_
      refine wq_aload_n_ok h0 kd_L_takeUnits_54 rfl ?_
      refine wq_get_ok (wq_getOK h0 hts ki_L hown hK (ci := 7) rfl 3 (Nat.le_of_ble_eq_true rfl) kw_323 rfl) kd_L_takeUnits_55 ?_
      refine wq_iload_ok h0 kd_L_takeUnits_58 ?_
      refine wq_iald_ok h0 hK kd_L_takeUnits_60 ?_
      refine wq_isub_ok h0 kd_L_takeUnits_61 ?_
      refine wq_m2_ok (fun H locs n1 n2 ls rest x y hsz hrs hc hs hw => va_mmin h0.1 h0.2 (hml.trans hsz.symm) hown (hts _ kw_932) (hts _ kw_817) (hts _ kw_16) (hts _ kw_818) (Nat.le_of_ble_eq_true rfl) (Nat.le_trans (Nat.add_le_add_right hrs 13) (Nat.le_of_ble_eq_true rfl)) hc hs kd_L_takeUnits_62 hw) ?_
      refine wq_istore_ok h0 kd_L_takeUnits_65 (Nat.le_of_ble_eq_true rfl) ?_
      refine wq_aload_n_ok h0 kd_L_takeUnits_67 rfl ?_
      refine wq_iload_ok h0 kd_L_takeUnits_68 ?_
      refine wq_call_ok hA (wq_runV (ci := 7) ⟨h0.1, h0.2, hml, hown, hts⟩ (kv_L_dutyGone hl) ⟨(wq_cB hts kw_G kw_936 kw_8 kw_933 ⟨by decide +kernel, by decide +kernel, by decide +kernel⟩ rfl rfl ⟨Nat.le_of_ble_eq_true rfl, Nat.le_of_ble_eq_true rfl⟩), hts _ kw_935, hts _ kw_s27⟩ rfl rfl hK hZ hN hA kd_L_takeUnits_70) (wq_xout_ok hnt hlk) ?_
      refine wq_lstore_ok h0 kd_L_takeUnits_73 (Nat.le_of_ble_eq_true rfl) ?_
      refine wq_aload_n_ok h0 kd_L_takeUnits_75 rfl ?_
      refine wq_get_ok (wq_getOK h0 hts ki_L hown hK (ci := 7) rfl 3 (Nat.le_of_ble_eq_true rfl) kw_323 rfl) kd_L_takeUnits_76 ?_
      refine wq_iload_ok h0 kd_L_takeUnits_79 ?_
      refine wq_dup2_ok h0 kd_L_takeUnits_81 ?_
      refine wq_iald_ok h0 hK kd_L_takeUnits_82 ?_
      refine wq_iload_ok h0 kd_L_takeUnits_83 ?_
      refine wq_iadd_ok h0 kd_L_takeUnits_85 ?_
      refine wq_iast_ok h0 hK kd_L_takeUnits_86 ?_
      refine wq_iload_ok h0 kd_L_takeUnits_87 ?_
      refine wq_iload_ok h0 kd_L_takeUnits_89 ?_
      refine wq_isub_ok h0 kd_L_takeUnits_91 ?_
      refine wq_istore_ok h0 kd_L_takeUnits_92 (Nat.le_of_ble_eq_true rfl) ?_
      refine wq_lload_ok h0 kd_L_takeUnits_94 ?_
      refine wq_aload_n_ok h0 kd_L_takeUnits_96 rfl ?_
      refine wq_iload_ok h0 kd_L_takeUnits_97 ?_
      refine wq_call_ok hA (wq_runV (ci := 7) ⟨h0.1, h0.2, hml, hown, hts⟩ (kv_L_dutyGone hl) ⟨(wq_cB hts kw_G kw_936 kw_8 kw_933 ⟨by decide +kernel, by decide +kernel, by decide +kernel⟩ rfl rfl ⟨Nat.le_of_ble_eq_true rfl, Nat.le_of_ble_eq_true rfl⟩), hts _ kw_935, hts _ kw_s27⟩ rfl rfl hK hZ hN hA kd_L_takeUnits_99) (wq_xout_ok hnt hlk) ?_
      refine wq_lload_ok h0 kd_L_takeUnits_102 ?_
      refine wq_lsub_ok h0 kd_L_takeUnits_104 ?_
      refine wq_ladd_ok h0 kd_L_takeUnits_105 ?_
      refine wq_lstore_ok h0 kd_L_takeUnits_106 (Nat.le_of_ble_eq_true rfl) ?_
      exact hb_108
    have hb_0 : wq_Snd p l e ({ frames := 1, cells := 0, slots := 0, locals := 23 } : Room) s m args below meth c 11 cs D kz_cl A (wq_G0 ad w) (wq_Q cs D kz_cl A (wq_G0 ad w) rt xt below s 0 0) 0 (kt_L_takeUnits_0 rt xt K) := by
      refine wq_lconst_ok h0 kd_L_takeUnits_0 (by decide +kernel) ?_
      refine wq_lstore_ok h0 kd_L_takeUnits_1 (Nat.le_of_ble_eq_true rfl) ?_
      refine wq_iload_n_ok h0 kd_L_takeUnits_3 rfl ?_
      refine wq_istore_ok h0 kd_L_takeUnits_4 (Nat.le_of_ble_eq_true rfl) ?_
      refine wq_iconst_ok h0 kd_L_takeUnits_6 (by decide +kernel) ?_
      refine wq_istore_ok h0 kd_L_takeUnits_7 (Nat.le_of_ble_eq_true rfl) ?_
      exact wq_can_ok (hKc 9 (by decide))
    refine ⟨?_, hb_0⟩
    exact List.forall_mem_cons.mpr ⟨hb_9, fun _ h => absurd h List.not_mem_nil⟩
  have hun : ∀ (n pc : Nat), pc ∈ [9] → wq_Snd p l e ({ frames := 1, cells := 0, slots := 0, locals := 23 } : Room) s m args below meth c 11 cs D kz_cl A (wq_G0 ad w) (wq_Q cs D kz_cl A (wq_G0 ad w) rt xt below s 0 0) pc (ku_L_takeUnits rt xt n pc) := by
    intro n
    induction n with
    | zero => intro pc _ L S w9 n1 n2 h; exact h.elim
    | succ n ih => intro pc hpc; exact (hall (ku_L_takeUnits rt xt n) ih).1 pc hpc
  exact (hall (ku_L_takeUnits rt xt 1000000000000) (hun 1000000000000)).2 _ _ _ _ _ (wq_sp_t hsp)
