set_option maxRecDepth 100000 in
set_option maxHeartbeats 4000000 in
theorem kv_I_bitCount {l : Launch} (hl : l.stackTraces = false) : wq_Vld l kz_cl ky_I_bitCount kw_T ({ frames := 0, cells := 0, slots := 0, locals := 0 }) wq_G0 ks_I_bitCount 0 0 := by
  refine wq_method (cc := kc_I_bitCount) (maxL := 1) (ret := (some .int)) (by decide) kw_664 (fun _ _ => rfl) wq_sp_sz ?_
  intro p e s m args below meth c cs D ad as w rt xt hF hnt hsp
  obtain ⟨h0, hr, hts, hown, hlk, hnm, hml, hK, hZ, hN, hA⟩ := hF
  have hown : s.vm.findClass "java/lang/Integer" = some m.cls := hown
  obtain ⟨A, hAe⟩ : ∃ A, A = wq_A ad w s.heap.size := ⟨_, rfl⟩
  rw [← hAe] at hZ hA ⊢
  have hb_0 : wq_Snd p l e ({ frames := 0, cells := 0, slots := 0, locals := 0 } : Room) s m args below meth c 1 cs D kz_cl A (wq_G0 ad w) (wq_Q cs D kz_cl A (wq_G0 ad w) rt xt below s 0 0) 0 (kt_I_bitCount_0 rt xt) := by
    refine wq_iload_n_ok h0 kd_I_bitCount_0 rfl ?_
    refine wq_iload_n_ok h0 kd_I_bitCount_1 rfl ?_
    refine wq_iconst_ok h0 kd_I_bitCount_2 (by decide +kernel) ?_
    refine wq_iushr_ok h0 kd_I_bitCount_3 ?_
    refine wq_ldcw_ok (v := 1431655765) h0 hown (hts _ kw_665) kd_I_bitCount_4 ?_
    refine wq_iand_ok h0 kd_I_bitCount_7 ?_
    refine wq_isub_ok h0 kd_I_bitCount_8 ?_
    refine wq_istore_n_ok h0 kd_I_bitCount_9 rfl (Nat.le_of_ble_eq_true rfl) ?_
    refine wq_iload_n_ok h0 kd_I_bitCount_10 rfl ?_
    refine wq_ldcw_ok (v := 858993459) h0 hown (hts _ kw_666) kd_I_bitCount_11 ?_
    refine wq_iand_ok h0 kd_I_bitCount_14 ?_
    refine wq_iload_n_ok h0 kd_I_bitCount_15 rfl ?_
    refine wq_iconst_ok h0 kd_I_bitCount_16 (by decide +kernel) ?_
    refine wq_iushr_ok h0 kd_I_bitCount_17 ?_
    refine wq_ldcw_ok (v := 858993459) h0 hown (hts _ kw_666) kd_I_bitCount_18 ?_
    refine wq_iand_ok h0 kd_I_bitCount_21 ?_
    refine wq_iadd_ok h0 kd_I_bitCount_22 ?_
    refine wq_istore_n_ok h0 kd_I_bitCount_23 rfl (Nat.le_of_ble_eq_true rfl) ?_
    refine wq_iload_n_ok h0 kd_I_bitCount_24 rfl ?_
    refine wq_iload_n_ok h0 kd_I_bitCount_25 rfl ?_
    refine wq_iconst_ok h0 kd_I_bitCount_26 (by decide +kernel) ?_
    refine wq_iushr_ok h0 kd_I_bitCount_27 ?_
    refine wq_iadd_ok h0 kd_I_bitCount_28 ?_
    refine wq_ldcw_ok (v := 252645135) h0 hown (hts _ kw_667) kd_I_bitCount_29 ?_
    refine wq_iand_ok h0 kd_I_bitCount_32 ?_
    refine wq_istore_n_ok h0 kd_I_bitCount_33 rfl (Nat.le_of_ble_eq_true rfl) ?_
    refine wq_iload_n_ok h0 kd_I_bitCount_34 rfl ?_
    refine wq_iload_n_ok h0 kd_I_bitCount_35 rfl ?_
    refine wq_bipush_ok h0 kd_I_bitCount_36 (by decide +kernel) ?_
    refine wq_iushr_ok h0 kd_I_bitCount_38 ?_
    refine wq_iadd_ok h0 kd_I_bitCount_39 ?_
    refine wq_istore_n_ok h0 kd_I_bitCount_40 rfl (Nat.le_of_ble_eq_true rfl) ?_
    refine wq_iload_n_ok h0 kd_I_bitCount_41 rfl ?_
    refine wq_iload_n_ok h0 kd_I_bitCount_42 rfl ?_
    refine wq_bipush_ok h0 kd_I_bitCount_43 (by decide +kernel) ?_
    refine wq_iushr_ok h0 kd_I_bitCount_45 ?_
    refine wq_iadd_ok h0 kd_I_bitCount_46 ?_
    refine wq_istore_n_ok h0 kd_I_bitCount_47 rfl (Nat.le_of_ble_eq_true rfl) ?_
    refine wq_iload_n_ok h0 kd_I_bitCount_48 rfl ?_
    refine wq_bipush_ok h0 kd_I_bitCount_49 (by decide +kernel) ?_
    refine wq_iand_ok h0 kd_I_bitCount_51 ?_
    exact wq_ireturn_ok h0 hr hlk kd_I_bitCount_52
  exact hb_0 _ _ _ _ _ (wq_sp_t hsp)
set_option maxRecDepth 100000 in
set_option maxHeartbeats 4000000 in
theorem kv_B_isBelow {l : Launch} (hl : l.stackTraces = false) : wq_Vld l kz_cl ky_B_isBelow kw_T ({ frames := 0, cells := 0, slots := 0, locals := 0 }) wq_G0 ks_B_isBelow 0 0 := by
  refine wq_method (cc := kc_B_isBelow) (maxL := 2) (ret := (some .boolean)) (by decide) kw_410 (fun _ _ => rfl) wq_sp_sz ?_
  intro p e s m args below meth c cs D ad as w rt xt hF hnt hsp
  obtain ⟨h0, hr, hts, hown, hlk, hnm, hml, hK, hZ, hN, hA⟩ := hF
  have hown : s.vm.findClass "BorderDesk" = some m.cls := hown
  obtain ⟨A, hAe⟩ : ∃ A, A = wq_A ad w s.heap.size := ⟨_, rfl⟩
  rw [← hAe] at hZ hA ⊢
  have hb_15 : wq_Snd p l e ({ frames := 0, cells := 0, slots := 0, locals := 0 } : Room) s m args below meth c 2 cs D kz_cl A (wq_G0 ad w) (wq_Q cs D kz_cl A (wq_G0 ad w) rt xt below s 0 0) 15 (kt_B_isBelow_15 rt xt) := by
    exact wq_zreturn_ok h0 hr hlk kd_B_isBelow_15
  have hb_14 : wq_Snd p l e ({ frames := 0, cells := 0, slots := 0, locals := 0 } : Room) s m args below meth c 2 cs D kz_cl A (wq_G0 ad w) (wq_Q cs D kz_cl A (wq_G0 ad w) rt xt below s 0 0) 14 (kt_B_isBelow_14 rt xt) := by
    refine wq_iconst_ok h0 kd_B_isBelow_14 (by decide +kernel) ?_
    exact hb_15
  have hb_0 : wq_Snd p l e ({ frames := 0, cells := 0, slots := 0, locals := 0 } : Room) s m args below meth c 2 cs D kz_cl A (wq_G0 ad w) (wq_Q cs D kz_cl A (wq_G0 ad w) rt xt below s 0 0) 0 (kt_B_isBelow_0 rt xt) := by
    refine wq_iconst_ok h0 kd_B_isBelow_0 (by decide +kernel) ?_
    refine wq_iload_n_ok h0 kd_B_isBelow_1 rfl ?_
    refine wq_icmp_gt_ok (tgt := 14) h0 kd_B_isBelow_2 (by decide) ?_ ?_
    · exact hb_14
    refine wq_iload_n_ok h0 kd_B_isBelow_5 rfl ?_
    refine wq_iload_n_ok h0 kd_B_isBelow_6 rfl ?_
    refine wq_icmp_ge_ok (tgt := 14) h0 kd_B_isBelow_7 (by decide) ?_ ?_
    · exact hb_14
    refine wq_iconst_ok h0 kd_B_isBelow_10 (by decide +kernel) ?_
    refine wq_goto_ok (tgt := 15) h0 kd_B_isBelow_11 (by decide) ?_
    exact hb_15
  exact hb_0 _ _ _ _ _ (wq_sp_t hsp)
set_option maxRecDepth 100000 in
set_option maxHeartbeats 4000000 in
theorem kv_B_isWithin {l : Launch} (hl : l.stackTraces = false) : wq_Vld l kz_cl ky_B_isWithin kw_T ({ frames := 0, cells := 0, slots := 0, locals := 0 }) wq_G0 ks_B_isWithin 0 0 := by
  refine wq_method (cc := kc_B_isWithin) (maxL := 3) (ret := (some .boolean)) (by decide) kw_517 (fun _ _ => rfl) wq_sp_sz ?_
  intro p e s m args below meth c cs D ad as w rt xt hF hnt hsp
  obtain ⟨h0, hr, hts, hown, hlk, hnm, hml, hK, hZ, hN, hA⟩ := hF
  have hown : s.vm.findClass "BorderDesk" = some m.cls := hown
  obtain ⟨A, hAe⟩ : ∃ A, A = wq_A ad w s.heap.size := ⟨_, rfl⟩
  rw [← hAe] at hZ hA ⊢
  have hb_15 : wq_Snd p l e ({ frames := 0, cells := 0, slots := 0, locals := 0 } : Room) s m args below meth c 3 cs D kz_cl A (wq_G0 ad w) (wq_Q cs D kz_cl A (wq_G0 ad w) rt xt below s 0 0) 15 (kt_B_isWithin_15 rt xt) := by
    exact wq_zreturn_ok h0 hr hlk kd_B_isWithin_15
  have hb_14 : wq_Snd p l e ({ frames := 0, cells := 0, slots := 0, locals := 0 } : Room) s m args below meth c 3 cs D kz_cl A (wq_G0 ad w) (wq_Q cs D kz_cl A (wq_G0 ad w) rt xt below s 0 0) 14 (kt_B_isWithin_14 rt xt) := by
    refine wq_iconst_ok h0 kd_B_isWithin_14 (by decide +kernel) ?_
    exact hb_15
  have hb_0 : wq_Snd p l e ({ frames := 0, cells := 0, slots := 0, locals := 0 } : Room) s m args below meth c 3 cs D kz_cl A (wq_G0 ad w) (wq_Q cs D kz_cl A (wq_G0 ad w) rt xt below s 0 0) 0 (kt_B_isWithin_0 rt xt) := by
    refine wq_iload_n_ok h0 kd_B_isWithin_0 rfl ?_
    refine wq_iload_n_ok h0 kd_B_isWithin_1 rfl ?_
    refine wq_icmp_gt_ok (tgt := 14) h0 kd_B_isWithin_2 (by decide) ?_ ?_
    · exact hb_14
    refine wq_iload_n_ok h0 kd_B_isWithin_5 rfl ?_
    refine wq_iload_n_ok h0 kd_B_isWithin_6 rfl ?_
    refine wq_icmp_gt_ok (tgt := 14) h0 kd_B_isWithin_7 (by decide) ?_ ?_
    · exact hb_14
    refine wq_iconst_ok h0 kd_B_isWithin_10 (by decide +kernel) ?_
    refine wq_goto_ok (tgt := 15) h0 kd_B_isWithin_11 (by decide) ?_
    exact hb_15
  exact hb_0 _ _ _ _ _ (wq_sp_t hsp)
set_option maxRecDepth 100000 in
set_option maxHeartbeats 4000000 in
theorem kv_B_isGood {l : Launch} (hl : l.stackTraces = false) : wq_Vld l kz_cl ky_B_isGood kw_T ({ frames := 1, cells := 0, slots := 0, locals := 21 }) wq_G0 ks_B_isGood 0 0 := by
  refine wq_method (cc := kc_B_isGood) (maxL := 1) (ret := (some .boolean)) (by decide) kw_531 (fun _ _ => rfl) wq_sp_sz ?_
  intro p e s m args below meth c cs D ad as w rt xt hF hnt hsp
  obtain ⟨h0, hr, hts, hown, hlk, hnm, hml, hK, hZ, hN, hA⟩ := hF
  have hown : s.vm.findClass "BorderDesk" = some m.cls := hown
  obtain ⟨A, hAe⟩ : ∃ A, A = wq_A ad w s.heap.size := ⟨_, rfl⟩
  rw [← hAe] at hZ hA ⊢
  have hb_0 : wq_Snd p l e ({ frames := 1, cells := 0, slots := 0, locals := 21 } : Room) s m args below meth c 1 cs D kz_cl A (wq_G0 ad w) (wq_Q cs D kz_cl A (wq_G0 ad w) rt xt below s 0 0) 0 (kt_B_isGood_0 rt xt) := by
    refine wq_iload_n_ok h0 kd_B_isGood_0 rfl ?_
    refine wq_bipush_ok h0 kd_B_isGood_1 (by decide +kernel) ?_
    refine wq_call_ok hA (wq_runS ⟨h0.1, h0.2, hml, hown, hts⟩ (kv_B_isBelow hl) ⟨(wq_cB hts kw_G kw_410 kw_1 kw_408 ⟨by decide +kernel, by decide +kernel, by decide +kernel⟩ rfl rfl ⟨Nat.le_of_ble_eq_true rfl, Nat.le_of_ble_eq_true rfl⟩), hts _ kw_409⟩ hK hZ hN hA kd_B_isGood_3) (wq_xout_ok hnt hlk) ?_
    exact wq_zreturn_ok h0 hr hlk kd_B_isGood_6
  exact hb_0 _ _ _ _ _ (wq_sp_t hsp)
set_option maxRecDepth 100000 in
set_option maxHeartbeats 4000000 in
theorem kv_B_isLand {l : Launch} (hl : l.stackTraces = false) : wq_Vld l kz_cl ky_B_isLand kw_T ({ frames := 1, cells := 0, slots := 0, locals := 21 }) wq_G0 ks_B_isLand 0 0 := by
  refine wq_method (cc := kc_B_isLand) (maxL := 1) (ret := (some .boolean)) (by decide) kw_575 (fun _ _ => rfl) wq_sp_sz ?_
  intro p e s m args below meth c cs D ad as w rt xt hF hnt hsp
  obtain ⟨h0, hr, hts, hown, hlk, hnm, hml, hK, hZ, hN, hA⟩ := hF
  have hown : s.vm.findClass "BorderDesk" = some m.cls := hown
  obtain ⟨A, hAe⟩ : ∃ A, A = wq_A ad w s.heap.size := ⟨_, rfl⟩
  rw [← hAe] at hZ hA ⊢
  have hb_0 : wq_Snd p l e ({ frames := 1, cells := 0, slots := 0, locals := 21 } : Room) s m args below meth c 1 cs D kz_cl A (wq_G0 ad w) (wq_Q cs D kz_cl A (wq_G0 ad w) rt xt below s 0 0) 0 (kt_B_isLand_0 rt xt) := by
    refine wq_iload_n_ok h0 kd_B_isLand_0 rfl ?_
    refine wq_bipush_ok h0 kd_B_isLand_1 (by decide +kernel) ?_
    refine wq_call_ok hA (wq_runS ⟨h0.1, h0.2, hml, hown, hts⟩ (kv_B_isBelow hl) ⟨(wq_cB hts kw_G kw_410 kw_1 kw_408 ⟨by decide +kernel, by decide +kernel, by decide +kernel⟩ rfl rfl ⟨Nat.le_of_ble_eq_true rfl, Nat.le_of_ble_eq_true rfl⟩), hts _ kw_409⟩ hK hZ hN hA kd_B_isLand_3) (wq_xout_ok hnt hlk) ?_
    exact wq_zreturn_ok h0 hr hlk kd_B_isLand_6
  exact hb_0 _ _ _ _ _ (wq_sp_t hsp)
set_option maxRecDepth 100000 in
set_option maxHeartbeats 4000000 in
theorem kv_B_isDay {l : Launch} (hl : l.stackTraces = false) : wq_Vld l kz_cl ky_B_isDay kw_T ({ frames := 1, cells := 0, slots := 0, locals := 21 }) wq_G0 ks_B_isDay 0 0 := by
  refine wq_method (cc := kc_B_isDay) (maxL := 1) (ret := (some .boolean)) (by decide) kw_578 (fun _ _ => rfl) wq_sp_sz ?_
  intro p e s m args below meth c cs D ad as w rt xt hF hnt hsp
  obtain ⟨h0, hr, hts, hown, hlk, hnm, hml, hK, hZ, hN, hA⟩ := hF
  have hown : s.vm.findClass "BorderDesk" = some m.cls := hown
  obtain ⟨A, hAe⟩ : ∃ A, A = wq_A ad w s.heap.size := ⟨_, rfl⟩
  rw [← hAe] at hZ hA ⊢
  have hb_0 : wq_Snd p l e ({ frames := 1, cells := 0, slots := 0, locals := 21 } : Room) s m args below meth c 1 cs D kz_cl A (wq_G0 ad w) (wq_Q cs D kz_cl A (wq_G0 ad w) rt xt below s 0 0) 0 (kt_B_isDay_0 rt xt) := by
    refine wq_iload_n_ok h0 kd_B_isDay_0 rfl ?_
    refine wq_sipush_ok h0 kd_B_isDay_1 (by decide +kernel) ?_
    refine wq_call_ok hA (wq_runS ⟨h0.1, h0.2, hml, hown, hts⟩ (kv_B_isBelow hl) ⟨(wq_cB hts kw_G kw_410 kw_1 kw_408 ⟨by decide +kernel, by decide +kernel, by decide +kernel⟩ rfl rfl ⟨Nat.le_of_ble_eq_true rfl, Nat.le_of_ble_eq_true rfl⟩), hts _ kw_409⟩ hK hZ hN hA kd_B_isDay_4) (wq_xout_ok hnt hlk) ?_
    exact wq_zreturn_ok h0 hr hlk kd_B_isDay_7
  exact hb_0 _ _ _ _ _ (wq_sp_t hsp)
set_option maxRecDepth 100000 in
set_option maxHeartbeats 4000000 in
theorem kv_B_isFact {l : Launch} (hl : l.stackTraces = false) : wq_Vld l kz_cl ky_B_isFact kw_T ({ frames := 1, cells := 0, slots := 0, locals := 21 }) wq_G0 ks_B_isFact 0 0 := by
  refine wq_method (cc := kc_B_isFact) (maxL := 1) (ret := (some .boolean)) (by decide) kw_514 (fun _ _ => rfl) wq_sp_sz ?_
  intro p e s m args below meth c cs D ad as w rt xt hF hnt hsp
  obtain ⟨h0, hr, hts, hown, hlk, hnm, hml, hK, hZ, hN, hA⟩ := hF
  have hown : s.vm.findClass "BorderDesk" = some m.cls := hown
  obtain ⟨A, hAe⟩ : ∃ A, A = wq_A ad w s.heap.size := ⟨_, rfl⟩
  rw [← hAe] at hZ hA ⊢
  have hb_0 : wq_Snd p l e ({ frames := 1, cells := 0, slots := 0, locals := 21 } : Room) s m args below meth c 1 cs D kz_cl A (wq_G0 ad w) (wq_Q cs D kz_cl A (wq_G0 ad w) rt xt below s 0 0) 0 (kt_B_isFact_0 rt xt) := by
    refine wq_iload_n_ok h0 kd_B_isFact_0 rfl ?_
    refine wq_bipush_ok h0 kd_B_isFact_1 (by decide +kernel) ?_
    refine wq_call_ok hA (wq_runS ⟨h0.1, h0.2, hml, hown, hts⟩ (kv_B_isBelow hl) ⟨(wq_cB hts kw_G kw_410 kw_1 kw_408 ⟨by decide +kernel, by decide +kernel, by decide +kernel⟩ rfl rfl ⟨Nat.le_of_ble_eq_true rfl, Nat.le_of_ble_eq_true rfl⟩), hts _ kw_409⟩ hK hZ hN hA kd_B_isFact_3) (wq_xout_ok hnt hlk) ?_
    exact wq_zreturn_ok h0 hr hlk kd_B_isFact_6
  exact hb_0 _ _ _ _ _ (wq_sp_t hsp)
theorem kx_B_requireArgument : ∀ w ∈ Bundle.ownAtoms0 "BorderDesk" 302 (wq_en 0) ["java/lang/RuntimeException", "java/lang/Exception"], wq_hw w = true ∨ w ∈ wq_fw ∨ (w ∈ kw_T ∧ w.onTables = true) := kx_of (by decide +kernel)
set_option maxRecDepth 100000 in
set_option maxHeartbeats 4000000 in
theorem kv_B_requireArgument {l : Launch} (hl : l.stackTraces = false) : wq_Vld l kz_cl ky_B_requireArgument kw_T ({ frames := 6, cells := 1, slots := 6, locals := 81 }) wq_G0 ks_B_requireArgument 1 6 := by
  refine wq_method (cc := kc_B_requireArgument) (maxL := 1) (ret := none) (by decide) kw_413 (fun _ _ => rfl) wq_sp_sz ?_
  intro p e s m args below meth c cs D ad as w rt xt hF hnt hsp
  obtain ⟨h0, hr, hts, hown, hlk, hnm, hml, hK, hZ, hN, hA⟩ := hF
  have hown : s.vm.findClass "BorderDesk" = some m.cls := hown
  obtain ⟨A, hAe⟩ : ∃ A, A = wq_A ad w s.heap.size := ⟨_, rfl⟩
  rw [← hAe] at hZ hA ⊢
  have hb_12 : wq_Snd p l e ({ frames := 6, cells := 1, slots := 6, locals := 81 } : Room) s m args below meth c 1 cs D kz_cl A (wq_G0 ad w) (wq_Q cs D kz_cl A (wq_G0 ad w) rt xt below s 1 6) 12 (kt_B_requireArgument_12 rt xt) := by
    exact wq_vreturn_ok h0 hr hlk kd_B_requireArgument_12
  have hb_0 : wq_Snd p l e ({ frames := 6, cells := 1, slots := 6, locals := 81 } : Room) s m args below meth c 1 cs D kz_cl A (wq_G0 ad w) (wq_Q cs D kz_cl A (wq_G0 ad w) rt xt below s 1 6) 0 (kt_B_requireArgument_0 rt xt) := by
    refine wq_iload_n_ok h0 kd_B_requireArgument_0 rfl ?_
    refine wq_if_ne_ok (tgt := 12) h0 kd_B_requireArgument_1 (by decide) ?_ ?_
    · exact hb_12
    exact wq_throw_ok (E := 0) (names := ["java/lang/RuntimeException", "java/lang/Exception"]) (ik := 300) (ic := 302) h0 hl hown (by decide +kernel) (by decide +kernel) hts ⟨kw_414, rfl⟩ ⟨kw_14, rfl⟩ kx_B_requireArgument hZ hN hml kd_B_requireArgument_4 kd_B_requireArgument_7 kd_B_requireArgument_8 kd_B_requireArgument_11 hnt (Nat.le_of_ble_eq_true rfl) (Nat.le_of_ble_eq_true rfl) (Nat.le_of_ble_eq_true rfl) (Nat.le_of_ble_eq_true rfl) hlk
  exact hb_0 _ _ _ _ _ (wq_sp_t hsp)
theorem kx_B_requireState : ∀ w ∈ Bundle.ownAtoms0 "BorderDesk" 305 (wq_en 1) ["java/lang/RuntimeException", "java/lang/Exception"], wq_hw w = true ∨ w ∈ wq_fw ∨ (w ∈ kw_T ∧ w.onTables = true) := kx_of (by decide +kernel)
set_option maxRecDepth 100000 in
set_option maxHeartbeats 4000000 in
theorem kv_B_requireState {l : Launch} (hl : l.stackTraces = false) : wq_Vld l kz_cl ky_B_requireState kw_T ({ frames := 6, cells := 1, slots := 6, locals := 81 }) wq_G0 ks_B_requireState 1 6 := by
  refine wq_method (cc := kc_B_requireState) (maxL := 1) (ret := none) (by decide) kw_480 (fun _ _ => rfl) wq_sp_sz ?_
  intro p e s m args below meth c cs D ad as w rt xt hF hnt hsp
  obtain ⟨h0, hr, hts, hown, hlk, hnm, hml, hK, hZ, hN, hA⟩ := hF
  have hown : s.vm.findClass "BorderDesk" = some m.cls := hown
  obtain ⟨A, hAe⟩ : ∃ A, A = wq_A ad w s.heap.size := ⟨_, rfl⟩
  rw [← hAe] at hZ hA ⊢
  have hb_12 : wq_Snd p l e ({ frames := 6, cells := 1, slots := 6, locals := 81 } : Room) s m args below meth c 1 cs D kz_cl A (wq_G0 ad w) (wq_Q cs D kz_cl A (wq_G0 ad w) rt xt below s 1 6) 12 (kt_B_requireState_12 rt xt) := by
    exact wq_vreturn_ok h0 hr hlk kd_B_requireState_12
  have hb_0 : wq_Snd p l e ({ frames := 6, cells := 1, slots := 6, locals := 81 } : Room) s m args below meth c 1 cs D kz_cl A (wq_G0 ad w) (wq_Q cs D kz_cl A (wq_G0 ad w) rt xt below s 1 6) 0 (kt_B_requireState_0 rt xt) := by
    refine wq_iload_n_ok h0 kd_B_requireState_0 rfl ?_
    refine wq_if_ne_ok (tgt := 12) h0 kd_B_requireState_1 (by decide) ?_ ?_
    · exact hb_12
    exact wq_throw_ok (E := 1) (names := ["java/lang/RuntimeException", "java/lang/Exception"]) (ik := 303) (ic := 305) h0 hl hown (by decide +kernel) (by decide +kernel) hts ⟨kw_481, rfl⟩ ⟨kw_15, rfl⟩ kx_B_requireState hZ hN hml kd_B_requireState_4 kd_B_requireState_7 kd_B_requireState_8 kd_B_requireState_11 hnt (Nat.le_of_ble_eq_true rfl) (Nat.le_of_ble_eq_true rfl) (Nat.le_of_ble_eq_true rfl) (Nat.le_of_ble_eq_true rfl) hlk
  exact hb_0 _ _ _ _ _ (wq_sp_t hsp)
theorem kx_B_requireElement : ∀ w ∈ Bundle.ownAtoms0 "BorderDesk" 308 (wq_en 2) ["java/lang/RuntimeException", "java/lang/Exception"], wq_hw w = true ∨ w ∈ wq_fw ∨ (w ∈ kw_T ∧ w.onTables = true) := kx_of (by decide +kernel)
set_option maxRecDepth 100000 in
set_option maxHeartbeats 4000000 in
theorem kv_B_requireElement {l : Launch} (hl : l.stackTraces = false) : wq_Vld l kz_cl ky_B_requireElement kw_T ({ frames := 6, cells := 1, slots := 6, locals := 81 }) wq_G0 ks_B_requireElement 1 6 := by
  refine wq_method (cc := kc_B_requireElement) (maxL := 1) (ret := none) (by decide) kw_785 (fun _ _ => rfl) wq_sp_sz ?_
  intro p e s m args below meth c cs D ad as w rt xt hF hnt hsp
  obtain ⟨h0, hr, hts, hown, hlk, hnm, hml, hK, hZ, hN, hA⟩ := hF
  have hown : s.vm.findClass "BorderDesk" = some m.cls := hown
  obtain ⟨A, hAe⟩ : ∃ A, A = wq_A ad w s.heap.size := ⟨_, rfl⟩
  rw [← hAe] at hZ hA ⊢
  have hb_12 : wq_Snd p l e ({ frames := 6, cells := 1, slots := 6, locals := 81 } : Room) s m args below meth c 1 cs D kz_cl A (wq_G0 ad w) (wq_Q cs D kz_cl A (wq_G0 ad w) rt xt below s 1 6) 12 (kt_B_requireElement_12 rt xt) := by
    exact wq_vreturn_ok h0 hr hlk kd_B_requireElement_12
  have hb_0 : wq_Snd p l e ({ frames := 6, cells := 1, slots := 6, locals := 81 } : Room) s m args below meth c 1 cs D kz_cl A (wq_G0 ad w) (wq_Q cs D kz_cl A (wq_G0 ad w) rt xt below s 1 6) 0 (kt_B_requireElement_0 rt xt) := by
    refine wq_iload_n_ok h0 kd_B_requireElement_0 rfl ?_
    refine wq_if_ne_ok (tgt := 12) h0 kd_B_requireElement_1 (by decide) ?_ ?_
    · exact hb_12
    exact wq_throw_ok (E := 2) (names := ["java/lang/RuntimeException", "java/lang/Exception"]) (ik := 306) (ic := 308) h0 hl hown (by decide +kernel) (by decide +kernel) hts ⟨kw_786, rfl⟩ ⟨kw_18, rfl⟩ kx_B_requireElement hZ hN hml kd_B_requireElement_4 kd_B_requireElement_7 kd_B_requireElement_8 kd_B_requireElement_11 hnt (Nat.le_of_ble_eq_true rfl) (Nat.le_of_ble_eq_true rfl) (Nat.le_of_ble_eq_true rfl) (Nat.le_of_ble_eq_true rfl) hlk
  exact hb_0 _ _ _ _ _ (wq_sp_t hsp)
theorem kx_B_requireRoom : ∀ w ∈ Bundle.ownAtoms0 "BorderDesk" 311 (wq_en 3) ["java/lang/RuntimeException", "java/lang/Exception"], wq_hw w = true ∨ w ∈ wq_fw ∨ (w ∈ kw_T ∧ w.onTables = true) := kx_of (by decide +kernel)
set_option maxRecDepth 100000 in
set_option maxHeartbeats 4000000 in
theorem kv_B_requireRoom {l : Launch} (hl : l.stackTraces = false) : wq_Vld l kz_cl ky_B_requireRoom kw_T ({ frames := 6, cells := 1, slots := 6, locals := 81 }) wq_G0 ks_B_requireRoom 1 6 := by
  refine wq_method (cc := kc_B_requireRoom) (maxL := 1) (ret := none) (by decide) kw_858 (fun _ _ => rfl) wq_sp_sz ?_
  intro p e s m args below meth c cs D ad as w rt xt hF hnt hsp
  obtain ⟨h0, hr, hts, hown, hlk, hnm, hml, hK, hZ, hN, hA⟩ := hF
  have hown : s.vm.findClass "BorderDesk" = some m.cls := hown
  obtain ⟨A, hAe⟩ : ∃ A, A = wq_A ad w s.heap.size := ⟨_, rfl⟩
  rw [← hAe] at hZ hA ⊢
  have hb_14 : wq_Snd p l e ({ frames := 6, cells := 1, slots := 6, locals := 81 } : Room) s m args below meth c 1 cs D kz_cl A (wq_G0 ad w) (wq_Q cs D kz_cl A (wq_G0 ad w) rt xt below s 1 6) 14 (kt_B_requireRoom_14 rt xt) := by
    exact wq_vreturn_ok h0 hr hlk kd_B_requireRoom_14
  have hb_0 : wq_Snd p l e ({ frames := 6, cells := 1, slots := 6, locals := 81 } : Room) s m args below meth c 1 cs D kz_cl A (wq_G0 ad w) (wq_Q cs D kz_cl A (wq_G0 ad w) rt xt below s 1 6) 0 (kt_B_requireRoom_0 rt xt) := by
    refine wq_iload_n_ok h0 kd_B_requireRoom_0 rfl ?_
    refine wq_bipush_ok h0 kd_B_requireRoom_1 (by decide +kernel) ?_
    refine wq_icmp_le_ok (tgt := 14) h0 kd_B_requireRoom_3 (by decide) ?_ ?_
    · exact hb_14
    exact wq_throw_ok (E := 3) (names := ["java/lang/RuntimeException", "java/lang/Exception"]) (ik := 309) (ic := 311) h0 hl hown (by decide +kernel) (by decide +kernel) hts ⟨kw_859, rfl⟩ ⟨kw_20, rfl⟩ kx_B_requireRoom hZ hN hml kd_B_requireRoom_6 kd_B_requireRoom_9 kd_B_requireRoom_10 kd_B_requireRoom_13 hnt (Nat.le_of_ble_eq_true rfl) (Nat.le_of_ble_eq_true rfl) (Nat.le_of_ble_eq_true rfl) (Nat.le_of_ble_eq_true rfl) hlk
  exact hb_0 _ _ _ _ _ (wq_sp_t hsp)
set_option maxRecDepth 100000 in
set_option maxHeartbeats 4000000 in
theorem kv_B_isHeading {l : Launch} (hl : l.stackTraces = false) : wq_Vld l kz_cl ky_B_isHeading kw_T ({ frames := 1, cells := 0, slots := 0, locals := 21 }) wq_G0 ks_B_isHeading 0 0 := by
  refine wq_method (cc := kc_B_isHeading) (maxL := 2) (ret := (some .boolean)) (by decide) kw_407 (fun _ _ => rfl) wq_sp_sz ?_
  intro p e s m args below meth c cs D ad as w rt xt hF hnt hsp
  obtain ⟨h0, hr, hts, hown, hlk, hnm, hml, hK, hZ, hN, hA⟩ := hF
  have hown : s.vm.findClass "BorderDesk" = some m.cls := hown
  obtain ⟨A, hAe⟩ : ∃ A, A = wq_A ad w s.heap.size := ⟨_, rfl⟩
  rw [← hAe] at hZ hA ⊢
  have hb_0 : wq_Snd p l e ({ frames := 1, cells := 0, slots := 0, locals := 21 } : Room) s m args below meth c 2 cs D kz_cl A (wq_G0 ad w) (wq_Q cs D kz_cl A (wq_G0 ad w) rt xt below s 0 0) 0 (kt_B_isHeading_0 rt xt) := by
    refine wq_iload_n_ok h0 kd_B_isHeading_0 rfl ?_
    refine wq_aload_n_ok h0 kd_B_isHeading_1 rfl ?_
    refine wq_get_ok (wq_getOK h0 hts ki_B hown hK (ci := 0) rfl 0 (Nat.le_of_ble_eq_true rfl) kw_370 rfl) kd_B_isHeading_2 ?_
    refine wq_get_ok (wq_getOK h0 hts ki_T hown hK (ci := 1) rfl 0 (Nat.le_of_ble_eq_true rfl) kw_37 rfl) kd_B_isHeading_5 ?_
    refine wq_call_ok hA (wq_runS ⟨h0.1, h0.2, hml, hown, hts⟩ (kv_B_isBelow hl) ⟨(wq_cB hts kw_G kw_410 kw_1 kw_408 ⟨by decide +kernel, by decide +kernel, by decide +kernel⟩ rfl rfl ⟨Nat.le_of_ble_eq_true rfl, Nat.le_of_ble_eq_true rfl⟩), hts _ kw_409⟩ hK hZ hN hA kd_B_isHeading_8) (wq_xout_ok hnt hlk) ?_
    exact wq_zreturn_ok h0 hr hlk kd_B_isHeading_11
  exact hb_0 _ _ _ _ _ (wq_sp_t hsp)
set_option maxRecDepth 100000 in
set_option maxHeartbeats 4000000 in
theorem kv_B_isDeclaration {l : Launch} (hl : l.stackTraces = false) : wq_Vld l kz_cl ky_B_isDeclaration kw_T ({ frames := 1, cells := 0, slots := 0, locals := 21 }) wq_G0 ks_B_isDeclaration 0 0 := by
  refine wq_method (cc := kc_B_isDeclaration) (maxL := 2) (ret := (some .boolean)) (by decide) kw_711 (fun _ _ => rfl) wq_sp_sz ?_
  intro p e s m args below meth c cs D ad as w rt xt hF hnt hsp
  obtain ⟨h0, hr, hts, hown, hlk, hnm, hml, hK, hZ, hN, hA⟩ := hF
  have hown : s.vm.findClass "BorderDesk" = some m.cls := hown
  obtain ⟨A, hAe⟩ : ∃ A, A = wq_A ad w s.heap.size := ⟨_, rfl⟩
  rw [← hAe] at hZ hA ⊢
  have hb_0 : wq_Snd p l e ({ frames := 1, cells := 0, slots := 0, locals := 21 } : Room) s m args below meth c 2 cs D kz_cl A (wq_G0 ad w) (wq_Q cs D kz_cl A (wq_G0 ad w) rt xt below s 0 0) 0 (kt_B_isDeclaration_0 rt xt) := by
    refine wq_iload_n_ok h0 kd_B_isDeclaration_0 rfl ?_
    refine wq_aload_n_ok h0 kd_B_isDeclaration_1 rfl ?_
    refine wq_get_ok (wq_getOK h0 hts ki_B hown hK (ci := 0) rfl 4 (Nat.le_of_ble_eq_true rfl) kw_374 rfl) kd_B_isDeclaration_2 ?_
    refine wq_get_ok (wq_getOK h0 hts ki_D hown hK (ci := 5) rfl 0 (Nat.le_of_ble_eq_true rfl) kw_196 rfl) kd_B_isDeclaration_5 ?_
    refine wq_call_ok hA (wq_runS ⟨h0.1, h0.2, hml, hown, hts⟩ (kv_B_isBelow hl) ⟨(wq_cB hts kw_G kw_410 kw_1 kw_408 ⟨by decide +kernel, by decide +kernel, by decide +kernel⟩ rfl rfl ⟨Nat.le_of_ble_eq_true rfl, Nat.le_of_ble_eq_true rfl⟩), hts _ kw_409⟩ hK hZ hN hA kd_B_isDeclaration_8) (wq_xout_ok hnt hlk) ?_
    exact wq_zreturn_ok h0 hr hlk kd_B_isDeclaration_11
  exact hb_0 _ _ _ _ _ (wq_sp_t hsp)
set_option maxRecDepth 100000 in
set_option maxHeartbeats 4000000 in
theorem kv_B_isLine {l : Launch} (hl : l.stackTraces = false) : wq_Vld l kz_cl ky_B_isLine kw_T ({ frames := 2, cells := 0, slots := 0, locals := 42 }) wq_G0 ks_B_isLine 0 0 := by
  refine wq_method (cc := kc_B_isLine) (maxL := 3) (ret := (some .boolean)) (by decide) kw_744 (fun _ _ => rfl) wq_sp_sz ?_
  intro p e s m args below meth c cs D ad as w rt xt hF hnt hsp
  obtain ⟨h0, hr, hts, hown, hlk, hnm, hml, hK, hZ, hN, hA⟩ := hF
  have hown : s.vm.findClass "BorderDesk" = some m.cls := hown
  obtain ⟨A, hAe⟩ : ∃ A, A = wq_A ad w s.heap.size := ⟨_, rfl⟩
  rw [← hAe] at hZ hA ⊢
  have hb_29 : wq_Snd p l e ({ frames := 2, cells := 0, slots := 0, locals := 42 } : Room) s m args below meth c 3 cs D kz_cl A (wq_G0 ad w) (wq_Q cs D kz_cl A (wq_G0 ad w) rt xt below s 0 0) 29 (kt_B_isLine_29 rt xt) := by
    exact wq_zreturn_ok h0 hr hlk kd_B_isLine_29
  have hb_28 : wq_Snd p l e ({ frames := 2, cells := 0, slots := 0, locals := 42 } : Room) s m args below meth c 3 cs D kz_cl A (wq_G0 ad w) (wq_Q cs D kz_cl A (wq_G0 ad w) rt xt below s 0 0) 28 (kt_B_isLine_28 rt xt) := by
    refine wq_iconst_ok h0 kd_B_isLine_28 (by decide +kernel) ?_
    exact hb_29
  have hb_0 : wq_Snd p l e ({ frames := 2, cells := 0, slots := 0, locals := 42 } : Room) s m args below meth c 3 cs D kz_cl A (wq_G0 ad w) (wq_Q cs D kz_cl A (wq_G0 ad w) rt xt below s 0 0) 0 (kt_B_isLine_0 rt xt) := by
    refine wq_aload_n_ok h0 kd_B_isLine_0 rfl ?_
    refine wq_iload_n_ok h0 kd_B_isLine_1 rfl ?_
    refine wq_call_ok hA (wq_runV (ci := 0) ⟨h0.1, h0.2, hml, hown, hts⟩ (kv_B_isDeclaration hl) ⟨(wq_cB hts kw_G kw_711 kw_1 kw_708 ⟨by decide +kernel, by decide +kernel, by decide +kernel⟩ rfl rfl ⟨Nat.le_of_ble_eq_true rfl, Nat.le_of_ble_eq_true rfl⟩), hts _ kw_710, hts _ kw_s12⟩ rfl rfl hK hZ hN hA kd_B_isLine_2) (wq_xout_ok hnt hlk) ?_
    refine wq_if_eq_ok (tgt := 28) h0 kd_B_isLine_5 (by decide) ?_ ?_
    · exact hb_28
    refine wq_iload_n_ok h0 kd_B_isLine_8 rfl ?_
    refine wq_aload_n_ok h0 kd_B_isLine_9 rfl ?_
    refine wq_get_ok (wq_getOK h0 hts ki_B hown hK (ci := 0) rfl 4 (Nat.le_of_ble_eq_true rfl) kw_374 rfl) kd_B_isLine_10 ?_
    refine wq_get_ok (wq_getOK h0 hts ki_D hown hK (ci := 5) rfl 3 (Nat.le_of_ble_eq_true rfl) kw_202 rfl) kd_B_isLine_13 ?_
    refine wq_iload_n_ok h0 kd_B_isLine_16 rfl ?_
    refine wq_iald_ok h0 hK kd_B_isLine_17 ?_
    refine wq_call_ok hA (wq_runS ⟨h0.1, h0.2, hml, hown, hts⟩ (kv_B_isBelow hl) ⟨(wq_cB hts kw_G kw_410 kw_1 kw_408 ⟨by decide +kernel, by decide +kernel, by decide +kernel⟩ rfl rfl ⟨Nat.le_of_ble_eq_true rfl, Nat.le_of_ble_eq_true rfl⟩), hts _ kw_409⟩ hK hZ hN hA kd_B_isLine_18) (wq_xout_ok hnt hlk) ?_
    refine wq_if_eq_ok (tgt := 28) h0 kd_B_isLine_21 (by decide) ?_ ?_
    · exact hb_28
    refine wq_iconst_ok h0 kd_B_isLine_24 (by decide +kernel) ?_
    refine wq_goto_ok (tgt := 29) h0 kd_B_isLine_25 (by decide) ?_
    exact hb_29
  exact hb_0 _ _ _ _ _ (wq_sp_t hsp)
