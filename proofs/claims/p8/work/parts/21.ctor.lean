set_option maxRecDepth 100000 in
set_option maxHeartbeats 4000000 in
theorem kv_T_init {l : Launch} (hl : l.stackTraces = false) : wq_Vld l kz_cl ky_T_init kw_T ({ frames := 1, cells := 27, slots := 448, locals := 20 }) wq_G1 ks_T_init 27 448 := by
  refine wq_method (cc := kc_T_init) (maxL := 1) (ret := none) (by decide) kw_33 (fun _ _ _ _ _ => rfl) wq_spA_sz ?_
  intro p e s m args below meth c cs D ad as w rt xt hF hnt hsp
  obtain ⟨h0, hr, hts, hown, hlk, hnm, hml, hK, hZ, hN, hA⟩ := hF
  have hown : s.vm.findClass "BorderDesk$Tariff" = some m.cls := hown
  obtain ⟨A, hAe⟩ : ∃ A, A = wq_A ad w s.heap.size := ⟨_, rfl⟩
  rw [← hAe] at hZ hA ⊢
  have hAg : wq_AgOK (wq_G1 ad w) 2 := wq_G1_ok (wq_spA_len hsp)
  have hb_0 : wq_Snd p l e ({ frames := 1, cells := 27, slots := 448, locals := 20 } : Room) s m args below meth c 1 cs D kz_cl A (wq_G1 ad w) (wq_Q cs D kz_cl A (wq_G1 ad w) rt xt below s 27 448) 0 (kt_T_init_0 rt xt) := by
    refine wq_aload_n_ok h0 kd_T_init_0 rfl ?_
    refine wq_obi_ok h0 hml hown (hts _ kw_34) (hts _ kw_27) (hts _ kw_28) kd_T_init_1 (Nat.le_of_ble_eq_true rfl) (Nat.le_of_ble_eq_true rfl) ?_
    refine wq_aload_n_ok h0 kd_T_init_4 rfl ?_
    refine wq_bipush_ok h0 kd_T_init_5 (by decide +kernel) ?_
    refine wq_newa_ok (atype := .int) h0 hK hA hAg (hts _ kw_85) rfl (Or.inl ⟨rfl, rfl⟩) kd_T_init_7 ?_
    refine wq_put_ok (wq_putOK h0 hts ki_T ka_T kb_T kn_T hown hK (ci := 1) rfl 1 (Nat.le_of_ble_eq_true rfl) kw_39 rfl (Or.inr ⟨rfl, hnm, rfl⟩) (wq_okA _)) kd_T_init_9 ?_
    refine wq_aload_n_ok h0 kd_T_init_12 rfl ?_
    refine wq_bipush_ok h0 kd_T_init_13 (by decide +kernel) ?_
    refine wq_newa_ok (atype := .int) h0 hK hA hAg (hts _ kw_85) rfl (Or.inl ⟨rfl, rfl⟩) kd_T_init_15 ?_
    refine wq_put_ok (wq_putOK h0 hts ki_T ka_T kb_T kn_T hown hK (ci := 1) rfl 2 (Nat.le_of_ble_eq_true rfl) kw_41 rfl (Or.inr ⟨rfl, hnm, rfl⟩) (wq_okA _)) kd_T_init_17 ?_
    refine wq_aload_n_ok h0 kd_T_init_20 rfl ?_
    refine wq_bipush_ok h0 kd_T_init_21 (by decide +kernel) ?_
    refine wq_newa_ok (atype := .int) h0 hK hA hAg (hts _ kw_85) rfl (Or.inl ⟨rfl, rfl⟩) kd_T_init_23 ?_
    refine wq_put_ok (wq_putOK h0 hts ki_T ka_T kb_T kn_T hown hK (ci := 1) rfl 3 (Nat.le_of_ble_eq_true rfl) kw_42 rfl (Or.inr ⟨rfl, hnm, rfl⟩) (wq_okA _)) kd_T_init_25 ?_
    refine wq_aload_n_ok h0 kd_T_init_28 rfl ?_
    refine wq_bipush_ok h0 kd_T_init_29 (by decide +kernel) ?_
    refine wq_newa_ok (atype := .int) h0 hK hA hAg (hts _ kw_85) rfl (Or.inl ⟨rfl, rfl⟩) kd_T_init_31 ?_
    refine wq_put_ok (wq_putOK h0 hts ki_T ka_T kb_T kn_T hown hK (ci := 1) rfl 4 (Nat.le_of_ble_eq_true rfl) kw_45 rfl (Or.inr ⟨rfl, hnm, rfl⟩) (wq_okA _)) kd_T_init_33 ?_
    refine wq_aload_n_ok h0 kd_T_init_36 rfl ?_
    refine wq_bipush_ok h0 kd_T_init_37 (by decide +kernel) ?_
    refine wq_newa_ok (atype := .int) h0 hK hA hAg (hts _ kw_85) rfl (Or.inl ⟨rfl, rfl⟩) kd_T_init_39 ?_
    refine wq_put_ok (wq_putOK h0 hts ki_T ka_T kb_T kn_T hown hK (ci := 1) rfl 6 (Nat.le_of_ble_eq_true rfl) kw_50 rfl (Or.inr ⟨rfl, hnm, rfl⟩) (wq_okA _)) kd_T_init_41 ?_
    refine wq_aload_n_ok h0 kd_T_init_44 rfl ?_
    refine wq_bipush_ok h0 kd_T_init_45 (by decide +kernel) ?_
    refine wq_newa_ok (atype := .int) h0 hK hA hAg (hts _ kw_85) rfl (Or.inl ⟨rfl, rfl⟩) kd_T_init_47 ?_
    refine wq_put_ok (wq_putOK h0 hts ki_T ka_T kb_T kn_T hown hK (ci := 1) rfl 7 (Nat.le_of_ble_eq_true rfl) kw_51 rfl (Or.inr ⟨rfl, hnm, rfl⟩) (wq_okA _)) kd_T_init_49 ?_
    refine wq_aload_n_ok h0 kd_T_init_52 rfl ?_
    refine wq_bipush_ok h0 kd_T_init_53 (by decide +kernel) ?_
    refine wq_newa_ok (atype := .int) h0 hK hA hAg (hts _ kw_85) rfl (Or.inl ⟨rfl, rfl⟩) kd_T_init_55 ?_
    refine wq_put_ok (wq_putOK h0 hts ki_T ka_T kb_T kn_T hown hK (ci := 1) rfl 8 (Nat.le_of_ble_eq_true rfl) kw_52 rfl (Or.inr ⟨rfl, hnm, rfl⟩) (wq_okA _)) kd_T_init_57 ?_
    refine wq_aload_n_ok h0 kd_T_init_60 rfl ?_
    refine wq_bipush_ok h0 kd_T_init_61 (by decide +kernel) ?_
    refine wq_newa_ok (atype := .int) h0 hK hA hAg (hts _ kw_85) rfl (Or.inl ⟨rfl, rfl⟩) kd_T_init_63 ?_
    refine wq_put_ok (wq_putOK h0 hts ki_T ka_T kb_T kn_T hown hK (ci := 1) rfl 9 (Nat.le_of_ble_eq_true rfl) kw_53 rfl (Or.inr ⟨rfl, hnm, rfl⟩) (wq_okA _)) kd_T_init_65 ?_
    refine wq_aload_n_ok h0 kd_T_init_68 rfl ?_
    refine wq_bipush_ok h0 kd_T_init_69 (by decide +kernel) ?_
    refine wq_bipush_ok h0 kd_T_init_71 (by decide +kernel) ?_
    refine wq_mna_ok h0 hK hA hAg hown (hts _ kw_35) hN.2.2.2 (hts _ kw_85) kd_T_init_73 ?_
    refine wq_put_ok (wq_putOK h0 hts ki_T ka_T kb_T kn_T hown hK (ci := 1) rfl 10 (Nat.le_of_ble_eq_true rfl) kw_54 rfl (Or.inr ⟨rfl, hnm, rfl⟩) (wq_okA _)) kd_T_init_77 ?_
    refine wq_aload_n_ok h0 kd_T_init_80 rfl ?_
    refine wq_bipush_ok h0 kd_T_init_81 (by decide +kernel) ?_
    refine wq_newa_ok (atype := .boolean) h0 hK hA hAg (hts _ kw_86) rfl (Or.inr (Or.inr ⟨rfl, rfl⟩)) kd_T_init_83 ?_
    refine wq_put_ok (wq_putOK h0 hts ki_T ka_T kb_T kn_T hown hK (ci := 1) rfl 11 (Nat.le_of_ble_eq_true rfl) kw_56 rfl (Or.inr ⟨rfl, hnm, rfl⟩) (wq_okA _)) kd_T_init_85 ?_
    refine wq_aload_n_ok h0 kd_T_init_88 rfl ?_
    refine wq_bipush_ok h0 kd_T_init_89 (by decide +kernel) ?_
    refine wq_newa_ok (atype := .int) h0 hK hA hAg (hts _ kw_85) rfl (Or.inl ⟨rfl, rfl⟩) kd_T_init_91 ?_
    refine wq_put_ok (wq_putOK h0 hts ki_T ka_T kb_T kn_T hown hK (ci := 1) rfl 12 (Nat.le_of_ble_eq_true rfl) kw_57 rfl (Or.inr ⟨rfl, hnm, rfl⟩) (wq_okA _)) kd_T_init_93 ?_
    exact wq_vreturn_ok h0 hr hlk kd_T_init_96
  exact hb_0 _ _ _ _ _ (wq_spA_t hsp)
set_option maxRecDepth 100000 in
set_option maxHeartbeats 4000000 in
theorem kv_R_init {l : Launch} (hl : l.stackTraces = false) : wq_Vld l kz_cl ky_R_init kw_T ({ frames := 1, cells := 7, slots := 280, locals := 20 }) wq_G1 ks_R_init 7 280 := by
  refine wq_method (cc := kc_R_init) (maxL := 2) (ret := none) (by decide) kw_91 (fun _ _ _ _ _ => rfl) wq_spA_sz ?_
  intro p e s m args below meth c cs D ad as w rt xt hF hnt hsp
  obtain ⟨h0, hr, hts, hown, hlk, hnm, hml, hK, hZ, hN, hA⟩ := hF
  have hown : s.vm.findClass "BorderDesk$Rates" = some m.cls := hown
  obtain ⟨A, hAe⟩ : ∃ A, A = wq_A ad w s.heap.size := ⟨_, rfl⟩
  rw [← hAe] at hZ hA ⊢
  have hAg : wq_AgOK (wq_G1 ad w) 14 := wq_G1_ok (wq_spA_len hsp)
  have hb_0 : wq_Snd p l e ({ frames := 1, cells := 7, slots := 280, locals := 20 } : Room) s m args below meth c 2 cs D kz_cl A (wq_G1 ad w) (wq_Q cs D kz_cl A (wq_G1 ad w) rt xt below s 7 280) 0 (kt_R_init_0 rt xt) := by
    refine wq_aload_n_ok h0 kd_R_init_0 rfl ?_
    refine wq_obi_ok h0 hml hown (hts _ kw_92) (hts _ kw_27) (hts _ kw_28) kd_R_init_1 (Nat.le_of_ble_eq_true rfl) (Nat.le_of_ble_eq_true rfl) ?_
    refine wq_aload_n_ok h0 kd_R_init_4 rfl ?_
    refine wq_bipush_ok h0 kd_R_init_5 (by decide +kernel) ?_
    refine wq_newa_ok (atype := .int) h0 hK hA hAg (hts _ kw_85) rfl (Or.inl ⟨rfl, rfl⟩) kd_R_init_7 ?_
    refine wq_put_ok (wq_putOK h0 hts ki_R ka_R kb_R kn_R hown hK (ci := 2) rfl 2 (Nat.le_of_ble_eq_true rfl) kw_96 rfl (Or.inr ⟨rfl, hnm, rfl⟩) (wq_okA _)) kd_R_init_9 ?_
    refine wq_aload_n_ok h0 kd_R_init_12 rfl ?_
    refine wq_bipush_ok h0 kd_R_init_13 (by decide +kernel) ?_
    refine wq_newa_ok (atype := .int) h0 hK hA hAg (hts _ kw_85) rfl (Or.inl ⟨rfl, rfl⟩) kd_R_init_15 ?_
    refine wq_put_ok (wq_putOK h0 hts ki_R ka_R kb_R kn_R hown hK (ci := 2) rfl 3 (Nat.le_of_ble_eq_true rfl) kw_97 rfl (Or.inr ⟨rfl, hnm, rfl⟩) (wq_okA _)) kd_R_init_17 ?_
    refine wq_aload_n_ok h0 kd_R_init_20 rfl ?_
    refine wq_bipush_ok h0 kd_R_init_21 (by decide +kernel) ?_
    refine wq_newa_ok (atype := .int) h0 hK hA hAg (hts _ kw_85) rfl (Or.inl ⟨rfl, rfl⟩) kd_R_init_23 ?_
    refine wq_put_ok (wq_putOK h0 hts ki_R ka_R kb_R kn_R hown hK (ci := 2) rfl 4 (Nat.le_of_ble_eq_true rfl) kw_98 rfl (Or.inr ⟨rfl, hnm, rfl⟩) (wq_okA _)) kd_R_init_25 ?_
    refine wq_aload_n_ok h0 kd_R_init_28 rfl ?_
    refine wq_bipush_ok h0 kd_R_init_29 (by decide +kernel) ?_
    refine wq_newa_ok (atype := .int) h0 hK hA hAg (hts _ kw_85) rfl (Or.inl ⟨rfl, rfl⟩) kd_R_init_31 ?_
    refine wq_put_ok (wq_putOK h0 hts ki_R ka_R kb_R kn_R hown hK (ci := 2) rfl 5 (Nat.le_of_ble_eq_true rfl) kw_99 rfl (Or.inr ⟨rfl, hnm, rfl⟩) (wq_okA _)) kd_R_init_33 ?_
    refine wq_aload_n_ok h0 kd_R_init_36 rfl ?_
    refine wq_bipush_ok h0 kd_R_init_37 (by decide +kernel) ?_
    refine wq_newa_ok (atype := .int) h0 hK hA hAg (hts _ kw_85) rfl (Or.inl ⟨rfl, rfl⟩) kd_R_init_39 ?_
    refine wq_put_ok (wq_putOK h0 hts ki_R ka_R kb_R kn_R hown hK (ci := 2) rfl 6 (Nat.le_of_ble_eq_true rfl) kw_100 rfl (Or.inr ⟨rfl, hnm, rfl⟩) (wq_okA _)) kd_R_init_41 ?_
    refine wq_aload_n_ok h0 kd_R_init_44 rfl ?_
    refine wq_bipush_ok h0 kd_R_init_45 (by decide +kernel) ?_
    refine wq_newa_ok (atype := .int) h0 hK hA hAg (hts _ kw_85) rfl (Or.inl ⟨rfl, rfl⟩) kd_R_init_47 ?_
    refine wq_put_ok (wq_putOK h0 hts ki_R ka_R kb_R kn_R hown hK (ci := 2) rfl 7 (Nat.le_of_ble_eq_true rfl) kw_101 rfl (Or.inr ⟨rfl, hnm, rfl⟩) (wq_okA _)) kd_R_init_49 ?_
    refine wq_aload_n_ok h0 kd_R_init_52 rfl ?_
    refine wq_bipush_ok h0 kd_R_init_53 (by decide +kernel) ?_
    refine wq_newa_ok (atype := .int) h0 hK hA hAg (hts _ kw_85) rfl (Or.inl ⟨rfl, rfl⟩) kd_R_init_55 ?_
    refine wq_put_ok (wq_putOK h0 hts ki_R ka_R kb_R kn_R hown hK (ci := 2) rfl 8 (Nat.le_of_ble_eq_true rfl) kw_102 rfl (Or.inr ⟨rfl, hnm, rfl⟩) (wq_okA _)) kd_R_init_57 ?_
    refine wq_aload_n_ok h0 kd_R_init_60 rfl ?_
    refine wq_aload_n_ok h0 kd_R_init_61 rfl ?_
    refine wq_put_ok (wq_putOK h0 hts ki_R ka_R kb_R kn_R hown hK (ci := 2) rfl 0 (Nat.le_of_ble_eq_true rfl) kw_93 rfl (Or.inr ⟨rfl, hnm, rfl⟩) (wq_okO _)) kd_R_init_62 ?_
    exact wq_vreturn_ok h0 hr hlk kd_R_init_65
  exact hb_0 _ _ _ _ _ (wq_spA_t hsp)
set_option maxRecDepth 100000 in
set_option maxHeartbeats 4000000 in
theorem kv_Q_init {l : Launch} (hl : l.stackTraces = false) : wq_Vld l kz_cl ky_Q_init kw_T ({ frames := 1, cells := 6, slots := 48, locals := 20 }) wq_G1 ks_Q_init 6 48 := by
  refine wq_method (cc := kc_Q_init) (maxL := 2) (ret := none) (by decide) kw_126 (fun _ _ _ _ _ => rfl) wq_spA_sz ?_
  intro p e s m args below meth c cs D ad as w rt xt hF hnt hsp
  obtain ⟨h0, hr, hts, hown, hlk, hnm, hml, hK, hZ, hN, hA⟩ := hF
  have hown : s.vm.findClass "BorderDesk$Quotas" = some m.cls := hown
  obtain ⟨A, hAe⟩ : ∃ A, A = wq_A ad w s.heap.size := ⟨_, rfl⟩
  rw [← hAe] at hZ hA ⊢
  have hAg : wq_AgOK (wq_G1 ad w) 22 := wq_G1_ok (wq_spA_len hsp)
  have hb_0 : wq_Snd p l e ({ frames := 1, cells := 6, slots := 48, locals := 20 } : Room) s m args below meth c 2 cs D kz_cl A (wq_G1 ad w) (wq_Q cs D kz_cl A (wq_G1 ad w) rt xt below s 6 48) 0 (kt_Q_init_0 rt xt) := by
    refine wq_aload_n_ok h0 kd_Q_init_0 rfl ?_
    refine wq_obi_ok h0 hml hown (hts _ kw_127) (hts _ kw_27) (hts _ kw_28) kd_Q_init_1 (Nat.le_of_ble_eq_true rfl) (Nat.le_of_ble_eq_true rfl) ?_
    refine wq_aload_n_ok h0 kd_Q_init_4 rfl ?_
    refine wq_bipush_ok h0 kd_Q_init_5 (by decide +kernel) ?_
    refine wq_newa_ok (atype := .int) h0 hK hA hAg (hts _ kw_85) rfl (Or.inl ⟨rfl, rfl⟩) kd_Q_init_7 ?_
    refine wq_put_ok (wq_putOK h0 hts ki_Q ka_Q kb_Q kn_Q hown hK (ci := 3) rfl 2 (Nat.le_of_ble_eq_true rfl) kw_131 rfl (Or.inr ⟨rfl, hnm, rfl⟩) (wq_okA _)) kd_Q_init_9 ?_
    refine wq_aload_n_ok h0 kd_Q_init_12 rfl ?_
    refine wq_bipush_ok h0 kd_Q_init_13 (by decide +kernel) ?_
    refine wq_newa_ok (atype := .int) h0 hK hA hAg (hts _ kw_85) rfl (Or.inl ⟨rfl, rfl⟩) kd_Q_init_15 ?_
    refine wq_put_ok (wq_putOK h0 hts ki_Q ka_Q kb_Q kn_Q hown hK (ci := 3) rfl 3 (Nat.le_of_ble_eq_true rfl) kw_134 rfl (Or.inr ⟨rfl, hnm, rfl⟩) (wq_okA _)) kd_Q_init_17 ?_
    refine wq_aload_n_ok h0 kd_Q_init_20 rfl ?_
    refine wq_bipush_ok h0 kd_Q_init_21 (by decide +kernel) ?_
    refine wq_newa_ok (atype := .int) h0 hK hA hAg (hts _ kw_85) rfl (Or.inl ⟨rfl, rfl⟩) kd_Q_init_23 ?_
    refine wq_put_ok (wq_putOK h0 hts ki_Q ka_Q kb_Q kn_Q hown hK (ci := 3) rfl 4 (Nat.le_of_ble_eq_true rfl) kw_136 rfl (Or.inr ⟨rfl, hnm, rfl⟩) (wq_okA _)) kd_Q_init_25 ?_
    refine wq_aload_n_ok h0 kd_Q_init_28 rfl ?_
    refine wq_bipush_ok h0 kd_Q_init_29 (by decide +kernel) ?_
    refine wq_newa_ok (atype := .int) h0 hK hA hAg (hts _ kw_85) rfl (Or.inl ⟨rfl, rfl⟩) kd_Q_init_31 ?_
    refine wq_put_ok (wq_putOK h0 hts ki_Q ka_Q kb_Q kn_Q hown hK (ci := 3) rfl 5 (Nat.le_of_ble_eq_true rfl) kw_137 rfl (Or.inr ⟨rfl, hnm, rfl⟩) (wq_okA _)) kd_Q_init_33 ?_
    refine wq_aload_n_ok h0 kd_Q_init_36 rfl ?_
    refine wq_bipush_ok h0 kd_Q_init_37 (by decide +kernel) ?_
    refine wq_newa_ok (atype := .int) h0 hK hA hAg (hts _ kw_85) rfl (Or.inl ⟨rfl, rfl⟩) kd_Q_init_39 ?_
    refine wq_put_ok (wq_putOK h0 hts ki_Q ka_Q kb_Q kn_Q hown hK (ci := 3) rfl 6 (Nat.le_of_ble_eq_true rfl) kw_138 rfl (Or.inr ⟨rfl, hnm, rfl⟩) (wq_okA _)) kd_Q_init_41 ?_
    refine wq_aload_n_ok h0 kd_Q_init_44 rfl ?_
    refine wq_bipush_ok h0 kd_Q_init_45 (by decide +kernel) ?_
    refine wq_newa_ok (atype := .int) h0 hK hA hAg (hts _ kw_85) rfl (Or.inl ⟨rfl, rfl⟩) kd_Q_init_47 ?_
    refine wq_put_ok (wq_putOK h0 hts ki_Q ka_Q kb_Q kn_Q hown hK (ci := 3) rfl 7 (Nat.le_of_ble_eq_true rfl) kw_139 rfl (Or.inr ⟨rfl, hnm, rfl⟩) (wq_okA _)) kd_Q_init_49 ?_
    refine wq_aload_n_ok h0 kd_Q_init_52 rfl ?_
    refine wq_aload_n_ok h0 kd_Q_init_53 rfl ?_
    refine wq_put_ok (wq_putOK h0 hts ki_Q ka_Q kb_Q kn_Q hown hK (ci := 3) rfl 0 (Nat.le_of_ble_eq_true rfl) kw_128 rfl (Or.inr ⟨rfl, hnm, rfl⟩) (wq_okO _)) kd_Q_init_54 ?_
    exact wq_vreturn_ok h0 hr hlk kd_Q_init_57
  exact hb_0 _ _ _ _ _ (wq_spA_t hsp)
set_option maxRecDepth 100000 in
set_option maxHeartbeats 4000000 in
theorem kv_O_init {l : Launch} (hl : l.stackTraces = false) : wq_Vld l kz_cl ky_O_init kw_T ({ frames := 1, cells := 54, slots := 324, locals := 20 }) wq_G1 ks_O_init 54 324 := by
  refine wq_method (cc := kc_O_init) (maxL := 2) (ret := none) (by decide) kw_161 (fun _ _ _ _ _ => rfl) wq_spA_sz ?_
  intro p e s m args below meth c cs D ad as w rt xt hF hnt hsp
  obtain ⟨h0, hr, hts, hown, hlk, hnm, hml, hK, hZ, hN, hA⟩ := hF
  have hown : s.vm.findClass "BorderDesk$Origins" = some m.cls := hown
  obtain ⟨A, hAe⟩ : ∃ A, A = wq_A ad w s.heap.size := ⟨_, rfl⟩
  rw [← hAe] at hZ hA ⊢
  have hAg : wq_AgOK (wq_G1 ad w) 29 := wq_G1_ok (wq_spA_len hsp)
  have hb_0 : wq_Snd p l e ({ frames := 1, cells := 54, slots := 324, locals := 20 } : Room) s m args below meth c 2 cs D kz_cl A (wq_G1 ad w) (wq_Q cs D kz_cl A (wq_G1 ad w) rt xt below s 54 324) 0 (kt_O_init_0 rt xt) := by
    refine wq_aload_n_ok h0 kd_O_init_0 rfl ?_
    refine wq_obi_ok h0 hml hown (hts _ kw_162) (hts _ kw_27) (hts _ kw_28) kd_O_init_1 (Nat.le_of_ble_eq_true rfl) (Nat.le_of_ble_eq_true rfl) ?_
    refine wq_aload_n_ok h0 kd_O_init_4 rfl ?_
    refine wq_iconst_ok h0 kd_O_init_5 (by decide +kernel) ?_
    refine wq_newa_ok (atype := .int) h0 hK hA hAg (hts _ kw_85) rfl (Or.inl ⟨rfl, rfl⟩) kd_O_init_6 ?_
    refine wq_put_ok (wq_putOK h0 hts ki_O ka_O kb_O kn_O hown hK (ci := 4) rfl 1 (Nat.le_of_ble_eq_true rfl) kw_165 rfl (Or.inr ⟨rfl, hnm, rfl⟩) (wq_okA _)) kd_O_init_8 ?_
    refine wq_aload_n_ok h0 kd_O_init_11 rfl ?_
    refine wq_bipush_ok h0 kd_O_init_12 (by decide +kernel) ?_
    refine wq_newa_ok (atype := .int) h0 hK hA hAg (hts _ kw_85) rfl (Or.inl ⟨rfl, rfl⟩) kd_O_init_14 ?_
    refine wq_put_ok (wq_putOK h0 hts ki_O ka_O kb_O kn_O hown hK (ci := 4) rfl 2 (Nat.le_of_ble_eq_true rfl) kw_167 rfl (Or.inr ⟨rfl, hnm, rfl⟩) (wq_okA _)) kd_O_init_16 ?_
    refine wq_aload_n_ok h0 kd_O_init_19 rfl ?_
    refine wq_bipush_ok h0 kd_O_init_20 (by decide +kernel) ?_
    refine wq_iconst_ok h0 kd_O_init_22 (by decide +kernel) ?_
    refine wq_mna_ok h0 hK hA hAg hown (hts _ kw_163) hN.2.2.2 (hts _ kw_85) kd_O_init_23 ?_
    refine wq_put_ok (wq_putOK h0 hts ki_O ka_O kb_O kn_O hown hK (ci := 4) rfl 3 (Nat.le_of_ble_eq_true rfl) kw_169 rfl (Or.inr ⟨rfl, hnm, rfl⟩) (wq_okA _)) kd_O_init_27 ?_
    refine wq_aload_n_ok h0 kd_O_init_30 rfl ?_
    refine wq_bipush_ok h0 kd_O_init_31 (by decide +kernel) ?_
    refine wq_iconst_ok h0 kd_O_init_33 (by decide +kernel) ?_
    refine wq_mna_ok h0 hK hA hAg hown (hts _ kw_163) hN.2.2.2 (hts _ kw_85) kd_O_init_34 ?_
    refine wq_put_ok (wq_putOK h0 hts ki_O ka_O kb_O kn_O hown hK (ci := 4) rfl 4 (Nat.le_of_ble_eq_true rfl) kw_170 rfl (Or.inr ⟨rfl, hnm, rfl⟩) (wq_okA _)) kd_O_init_38 ?_
    refine wq_aload_n_ok h0 kd_O_init_41 rfl ?_
    refine wq_bipush_ok h0 kd_O_init_42 (by decide +kernel) ?_
    refine wq_iconst_ok h0 kd_O_init_44 (by decide +kernel) ?_
    refine wq_mna_ok h0 hK hA hAg hown (hts _ kw_163) hN.2.2.2 (hts _ kw_85) kd_O_init_45 ?_
    refine wq_put_ok (wq_putOK h0 hts ki_O ka_O kb_O kn_O hown hK (ci := 4) rfl 5 (Nat.le_of_ble_eq_true rfl) kw_171 rfl (Or.inr ⟨rfl, hnm, rfl⟩) (wq_okA _)) kd_O_init_49 ?_
    refine wq_aload_n_ok h0 kd_O_init_52 rfl ?_
    refine wq_bipush_ok h0 kd_O_init_53 (by decide +kernel) ?_
    refine wq_newa_ok (atype := .int) h0 hK hA hAg (hts _ kw_85) rfl (Or.inl ⟨rfl, rfl⟩) kd_O_init_55 ?_
    refine wq_put_ok (wq_putOK h0 hts ki_O ka_O kb_O kn_O hown hK (ci := 4) rfl 6 (Nat.le_of_ble_eq_true rfl) kw_172 rfl (Or.inr ⟨rfl, hnm, rfl⟩) (wq_okA _)) kd_O_init_57 ?_
    refine wq_aload_n_ok h0 kd_O_init_60 rfl ?_
    refine wq_aload_n_ok h0 kd_O_init_61 rfl ?_
    refine wq_put_ok (wq_putOK h0 hts ki_O ka_O kb_O kn_O hown hK (ci := 4) rfl 0 (Nat.le_of_ble_eq_true rfl) kw_164 rfl (Or.inr ⟨rfl, hnm, rfl⟩) (wq_okO _)) kd_O_init_62 ?_
    exact wq_vreturn_ok h0 hr hlk kd_O_init_65
  exact hb_0 _ _ _ _ _ (wq_spA_t hsp)
set_option maxRecDepth 100000 in
set_option maxHeartbeats 4000000 in
theorem kv_D_init {l : Launch} (hl : l.stackTraces = false) : wq_Vld l kz_cl ky_D_init kw_T ({ frames := 1, cells := 27, slots := 528, locals := 20 }) wq_G1 ks_D_init 27 528 := by
  refine wq_method (cc := kc_D_init) (maxL := 1) (ret := none) (by decide) kw_192 (fun _ _ _ _ _ => rfl) wq_spA_sz ?_
  intro p e s m args below meth c cs D ad as w rt xt hF hnt hsp
  obtain ⟨h0, hr, hts, hown, hlk, hnm, hml, hK, hZ, hN, hA⟩ := hF
  have hown : s.vm.findClass "BorderDesk$Declarations" = some m.cls := hown
  obtain ⟨A, hAe⟩ : ∃ A, A = wq_A ad w s.heap.size := ⟨_, rfl⟩
  rw [← hAe] at hZ hA ⊢
  have hAg : wq_AgOK (wq_G1 ad w) 36 := wq_G1_ok (wq_spA_len hsp)
  have hb_0 : wq_Snd p l e ({ frames := 1, cells := 27, slots := 528, locals := 20 } : Room) s m args below meth c 1 cs D kz_cl A (wq_G1 ad w) (wq_Q cs D kz_cl A (wq_G1 ad w) rt xt below s 27 528) 0 (kt_D_init_0 rt xt) := by
    refine wq_aload_n_ok h0 kd_D_init_0 rfl ?_
    refine wq_obi_ok h0 hml hown (hts _ kw_193) (hts _ kw_27) (hts _ kw_28) kd_D_init_1 (Nat.le_of_ble_eq_true rfl) (Nat.le_of_ble_eq_true rfl) ?_
    refine wq_aload_n_ok h0 kd_D_init_4 rfl ?_
    refine wq_bipush_ok h0 kd_D_init_5 (by decide +kernel) ?_
    refine wq_newa_ok (atype := .int) h0 hK hA hAg (hts _ kw_85) rfl (Or.inl ⟨rfl, rfl⟩) kd_D_init_7 ?_
    refine wq_put_ok (wq_putOK h0 hts ki_D ka_D kb_D kn_D hown hK (ci := 5) rfl 1 (Nat.le_of_ble_eq_true rfl) kw_197 rfl (Or.inr ⟨rfl, hnm, rfl⟩) (wq_okA _)) kd_D_init_9 ?_
    refine wq_aload_n_ok h0 kd_D_init_12 rfl ?_
    refine wq_bipush_ok h0 kd_D_init_13 (by decide +kernel) ?_
    refine wq_newa_ok (atype := .int) h0 hK hA hAg (hts _ kw_85) rfl (Or.inl ⟨rfl, rfl⟩) kd_D_init_15 ?_
    refine wq_put_ok (wq_putOK h0 hts ki_D ka_D kb_D kn_D hown hK (ci := 5) rfl 2 (Nat.le_of_ble_eq_true rfl) kw_199 rfl (Or.inr ⟨rfl, hnm, rfl⟩) (wq_okA _)) kd_D_init_17 ?_
    refine wq_aload_n_ok h0 kd_D_init_20 rfl ?_
    refine wq_bipush_ok h0 kd_D_init_21 (by decide +kernel) ?_
    refine wq_newa_ok (atype := .int) h0 hK hA hAg (hts _ kw_85) rfl (Or.inl ⟨rfl, rfl⟩) kd_D_init_23 ?_
    refine wq_put_ok (wq_putOK h0 hts ki_D ka_D kb_D kn_D hown hK (ci := 5) rfl 3 (Nat.le_of_ble_eq_true rfl) kw_200 rfl (Or.inr ⟨rfl, hnm, rfl⟩) (wq_okA _)) kd_D_init_25 ?_
    refine wq_aload_n_ok h0 kd_D_init_28 rfl ?_
    refine wq_bipush_ok h0 kd_D_init_29 (by decide +kernel) ?_
    refine wq_iconst_ok h0 kd_D_init_31 (by decide +kernel) ?_
    refine wq_mna_ok h0 hK hA hAg hown (hts _ kw_194) hN.2.2.2 (hts _ kw_85) kd_D_init_32 ?_
    refine wq_put_ok (wq_putOK h0 hts ki_D ka_D kb_D kn_D hown hK (ci := 5) rfl 4 (Nat.le_of_ble_eq_true rfl) kw_203 rfl (Or.inr ⟨rfl, hnm, rfl⟩) (wq_okA _)) kd_D_init_36 ?_
    refine wq_aload_n_ok h0 kd_D_init_39 rfl ?_
    refine wq_bipush_ok h0 kd_D_init_40 (by decide +kernel) ?_
    refine wq_newa_ok (atype := .boolean) h0 hK hA hAg (hts _ kw_86) rfl (Or.inr (Or.inr ⟨rfl, rfl⟩)) kd_D_init_42 ?_
    refine wq_put_ok (wq_putOK h0 hts ki_D ka_D kb_D kn_D hown hK (ci := 5) rfl 5 (Nat.le_of_ble_eq_true rfl) kw_206 rfl (Or.inr ⟨rfl, hnm, rfl⟩) (wq_okA _)) kd_D_init_44 ?_
    refine wq_aload_n_ok h0 kd_D_init_47 rfl ?_
    refine wq_bipush_ok h0 kd_D_init_48 (by decide +kernel) ?_
    refine wq_newa_ok (atype := .int) h0 hK hA hAg (hts _ kw_85) rfl (Or.inl ⟨rfl, rfl⟩) kd_D_init_50 ?_
    refine wq_put_ok (wq_putOK h0 hts ki_D ka_D kb_D kn_D hown hK (ci := 5) rfl 6 (Nat.le_of_ble_eq_true rfl) kw_208 rfl (Or.inr ⟨rfl, hnm, rfl⟩) (wq_okA _)) kd_D_init_52 ?_
    refine wq_aload_n_ok h0 kd_D_init_55 rfl ?_
    refine wq_bipush_ok h0 kd_D_init_56 (by decide +kernel) ?_
    refine wq_newa_ok (atype := .int) h0 hK hA hAg (hts _ kw_85) rfl (Or.inl ⟨rfl, rfl⟩) kd_D_init_58 ?_
    refine wq_put_ok (wq_putOK h0 hts ki_D ka_D kb_D kn_D hown hK (ci := 5) rfl 7 (Nat.le_of_ble_eq_true rfl) kw_210 rfl (Or.inr ⟨rfl, hnm, rfl⟩) (wq_okA _)) kd_D_init_60 ?_
    refine wq_aload_n_ok h0 kd_D_init_63 rfl ?_
    refine wq_bipush_ok h0 kd_D_init_64 (by decide +kernel) ?_
    refine wq_newa_ok (atype := .int) h0 hK hA hAg (hts _ kw_85) rfl (Or.inl ⟨rfl, rfl⟩) kd_D_init_66 ?_
    refine wq_put_ok (wq_putOK h0 hts ki_D ka_D kb_D kn_D hown hK (ci := 5) rfl 8 (Nat.le_of_ble_eq_true rfl) kw_213 rfl (Or.inr ⟨rfl, hnm, rfl⟩) (wq_okA _)) kd_D_init_68 ?_
    refine wq_aload_n_ok h0 kd_D_init_71 rfl ?_
    refine wq_bipush_ok h0 kd_D_init_72 (by decide +kernel) ?_
    refine wq_newa_ok (atype := .int) h0 hK hA hAg (hts _ kw_85) rfl (Or.inl ⟨rfl, rfl⟩) kd_D_init_74 ?_
    refine wq_put_ok (wq_putOK h0 hts ki_D ka_D kb_D kn_D hown hK (ci := 5) rfl 9 (Nat.le_of_ble_eq_true rfl) kw_215 rfl (Or.inr ⟨rfl, hnm, rfl⟩) (wq_okA _)) kd_D_init_76 ?_
    refine wq_aload_n_ok h0 kd_D_init_79 rfl ?_
    refine wq_bipush_ok h0 kd_D_init_80 (by decide +kernel) ?_
    refine wq_newa_ok (atype := .int) h0 hK hA hAg (hts _ kw_85) rfl (Or.inl ⟨rfl, rfl⟩) kd_D_init_82 ?_
    refine wq_put_ok (wq_putOK h0 hts ki_D ka_D kb_D kn_D hown hK (ci := 5) rfl 10 (Nat.le_of_ble_eq_true rfl) kw_218 rfl (Or.inr ⟨rfl, hnm, rfl⟩) (wq_okA _)) kd_D_init_84 ?_
    refine wq_aload_n_ok h0 kd_D_init_87 rfl ?_
    refine wq_bipush_ok h0 kd_D_init_88 (by decide +kernel) ?_
    refine wq_newa_ok (atype := .int) h0 hK hA hAg (hts _ kw_85) rfl (Or.inl ⟨rfl, rfl⟩) kd_D_init_90 ?_
    refine wq_put_ok (wq_putOK h0 hts ki_D ka_D kb_D kn_D hown hK (ci := 5) rfl 11 (Nat.le_of_ble_eq_true rfl) kw_220 rfl (Or.inr ⟨rfl, hnm, rfl⟩) (wq_okA _)) kd_D_init_92 ?_
    refine wq_aload_n_ok h0 kd_D_init_95 rfl ?_
    refine wq_bipush_ok h0 kd_D_init_96 (by decide +kernel) ?_
    refine wq_newa_ok (atype := .boolean) h0 hK hA hAg (hts _ kw_86) rfl (Or.inr (Or.inr ⟨rfl, rfl⟩)) kd_D_init_98 ?_
    refine wq_put_ok (wq_putOK h0 hts ki_D ka_D kb_D kn_D hown hK (ci := 5) rfl 12 (Nat.le_of_ble_eq_true rfl) kw_222 rfl (Or.inr ⟨rfl, hnm, rfl⟩) (wq_okA _)) kd_D_init_100 ?_
    refine wq_aload_n_ok h0 kd_D_init_103 rfl ?_
    refine wq_bipush_ok h0 kd_D_init_104 (by decide +kernel) ?_
    refine wq_newa_ok (atype := .int) h0 hK hA hAg (hts _ kw_85) rfl (Or.inl ⟨rfl, rfl⟩) kd_D_init_106 ?_
    refine wq_put_ok (wq_putOK h0 hts ki_D ka_D kb_D kn_D hown hK (ci := 5) rfl 13 (Nat.le_of_ble_eq_true rfl) kw_224 rfl (Or.inr ⟨rfl, hnm, rfl⟩) (wq_okA _)) kd_D_init_108 ?_
    refine wq_aload_n_ok h0 kd_D_init_111 rfl ?_
    refine wq_bipush_ok h0 kd_D_init_112 (by decide +kernel) ?_
    refine wq_newa_ok (atype := .int) h0 hK hA hAg (hts _ kw_85) rfl (Or.inl ⟨rfl, rfl⟩) kd_D_init_114 ?_
    refine wq_put_ok (wq_putOK h0 hts ki_D ka_D kb_D kn_D hown hK (ci := 5) rfl 14 (Nat.le_of_ble_eq_true rfl) kw_226 rfl (Or.inr ⟨rfl, hnm, rfl⟩) (wq_okA _)) kd_D_init_116 ?_
    refine wq_aload_n_ok h0 kd_D_init_119 rfl ?_
    refine wq_bipush_ok h0 kd_D_init_120 (by decide +kernel) ?_
    refine wq_newa_ok (atype := .long) h0 hK hA hAg (hts _ kw_265) rfl (Or.inr (Or.inl ⟨rfl, rfl⟩)) kd_D_init_122 ?_
    refine wq_put_ok (wq_putOK h0 hts ki_D ka_D kb_D kn_D hown hK (ci := 5) rfl 15 (Nat.le_of_ble_eq_true rfl) kw_229 rfl (Or.inr ⟨rfl, hnm, rfl⟩) (wq_okA _)) kd_D_init_124 ?_
    exact wq_vreturn_ok h0 hr hlk kd_D_init_127
  exact hb_0 _ _ _ _ _ (wq_spA_t hsp)
set_option maxRecDepth 100000 in
set_option maxHeartbeats 4000000 in
theorem kv_A_init {l : Launch} (hl : l.stackTraces = false) : wq_Vld l kz_cl ky_A_init kw_T ({ frames := 1, cells := 8, slots := 36, locals := 20 }) wq_G1 ks_A_init 8 36 := by
  refine wq_method (cc := kc_A_init) (maxL := 5) (ret := none) (by decide) kw_270 (fun _ _ _ _ _ => rfl) wq_spA_sz ?_
  intro p e s m args below meth c cs D ad as w rt xt hF hnt hsp
  obtain ⟨h0, hr, hts, hown, hlk, hnm, hml, hK, hZ, hN, hA⟩ := hF
  have hown : s.vm.findClass "BorderDesk$Assessor" = some m.cls := hown
  obtain ⟨A, hAe⟩ : ∃ A, A = wq_A ad w s.heap.size := ⟨_, rfl⟩
  rw [← hAe] at hZ hA ⊢
  have hAg : wq_AgOK (wq_G1 ad w) 52 := wq_G1_ok (wq_spA_len hsp)
  have hb_0 : wq_Snd p l e ({ frames := 1, cells := 8, slots := 36, locals := 20 } : Room) s m args below meth c 5 cs D kz_cl A (wq_G1 ad w) (wq_Q cs D kz_cl A (wq_G1 ad w) rt xt below s 8 36) 0 (kt_A_init_0 rt xt) := by
    refine wq_aload_n_ok h0 kd_A_init_0 rfl ?_
    refine wq_obi_ok h0 hml hown (hts _ kw_271) (hts _ kw_27) (hts _ kw_28) kd_A_init_1 (Nat.le_of_ble_eq_true rfl) (Nat.le_of_ble_eq_true rfl) ?_
    refine wq_aload_n_ok h0 kd_A_init_4 rfl ?_
    refine wq_iconst_ok h0 kd_A_init_5 (by decide +kernel) ?_
    refine wq_newa_ok (atype := .int) h0 hK hA hAg (hts _ kw_85) rfl (Or.inl ⟨rfl, rfl⟩) kd_A_init_6 ?_
    refine wq_put_ok (wq_putOK h0 hts ki_A ka_A kb_A kn_A hown hK (ci := 6) rfl 4 (Nat.le_of_ble_eq_true rfl) kw_276 rfl (Or.inr ⟨rfl, hnm, rfl⟩) (wq_okA _)) kd_A_init_8 ?_
    refine wq_aload_n_ok h0 kd_A_init_11 rfl ?_
    refine wq_iconst_ok h0 kd_A_init_12 (by decide +kernel) ?_
    refine wq_newa_ok (atype := .long) h0 hK hA hAg (hts _ kw_265) rfl (Or.inr (Or.inl ⟨rfl, rfl⟩)) kd_A_init_13 ?_
    refine wq_put_ok (wq_putOK h0 hts ki_A ka_A kb_A kn_A hown hK (ci := 6) rfl 5 (Nat.le_of_ble_eq_true rfl) kw_278 rfl (Or.inr ⟨rfl, hnm, rfl⟩) (wq_okA _)) kd_A_init_15 ?_
    refine wq_aload_n_ok h0 kd_A_init_18 rfl ?_
    refine wq_iconst_ok h0 kd_A_init_19 (by decide +kernel) ?_
    refine wq_newa_ok (atype := .long) h0 hK hA hAg (hts _ kw_265) rfl (Or.inr (Or.inl ⟨rfl, rfl⟩)) kd_A_init_20 ?_
    refine wq_put_ok (wq_putOK h0 hts ki_A ka_A kb_A kn_A hown hK (ci := 6) rfl 6 (Nat.le_of_ble_eq_true rfl) kw_280 rfl (Or.inr ⟨rfl, hnm, rfl⟩) (wq_okA _)) kd_A_init_22 ?_
    refine wq_aload_n_ok h0 kd_A_init_25 rfl ?_
    refine wq_iconst_ok h0 kd_A_init_26 (by decide +kernel) ?_
    refine wq_newa_ok (atype := .int) h0 hK hA hAg (hts _ kw_85) rfl (Or.inl ⟨rfl, rfl⟩) kd_A_init_27 ?_
    refine wq_put_ok (wq_putOK h0 hts ki_A ka_A kb_A kn_A hown hK (ci := 6) rfl 7 (Nat.le_of_ble_eq_true rfl) kw_281 rfl (Or.inr ⟨rfl, hnm, rfl⟩) (wq_okA _)) kd_A_init_29 ?_
    refine wq_aload_n_ok h0 kd_A_init_32 rfl ?_
    refine wq_iconst_ok h0 kd_A_init_33 (by decide +kernel) ?_
    refine wq_newa_ok (atype := .int) h0 hK hA hAg (hts _ kw_85) rfl (Or.inl ⟨rfl, rfl⟩) kd_A_init_34 ?_
    refine wq_put_ok (wq_putOK h0 hts ki_A ka_A kb_A kn_A hown hK (ci := 6) rfl 8 (Nat.le_of_ble_eq_true rfl) kw_282 rfl (Or.inr ⟨rfl, hnm, rfl⟩) (wq_okA _)) kd_A_init_36 ?_
    refine wq_aload_n_ok h0 kd_A_init_39 rfl ?_
    refine wq_bipush_ok h0 kd_A_init_40 (by decide +kernel) ?_
    refine wq_newa_ok (atype := .int) h0 hK hA hAg (hts _ kw_85) rfl (Or.inl ⟨rfl, rfl⟩) kd_A_init_42 ?_
    refine wq_put_ok (wq_putOK h0 hts ki_A ka_A kb_A kn_A hown hK (ci := 6) rfl 9 (Nat.le_of_ble_eq_true rfl) kw_283 rfl (Or.inr ⟨rfl, hnm, rfl⟩) (wq_okA _)) kd_A_init_44 ?_
    refine wq_aload_n_ok h0 kd_A_init_47 rfl ?_
    refine wq_iconst_ok h0 kd_A_init_48 (by decide +kernel) ?_
    refine wq_newa_ok (atype := .long) h0 hK hA hAg (hts _ kw_265) rfl (Or.inr (Or.inl ⟨rfl, rfl⟩)) kd_A_init_49 ?_
    refine wq_put_ok (wq_putOK h0 hts ki_A ka_A kb_A kn_A hown hK (ci := 6) rfl 10 (Nat.le_of_ble_eq_true rfl) kw_284 rfl (Or.inr ⟨rfl, hnm, rfl⟩) (wq_okA _)) kd_A_init_51 ?_
    refine wq_aload_n_ok h0 kd_A_init_54 rfl ?_
    refine wq_iconst_ok h0 kd_A_init_55 (by decide +kernel) ?_
    refine wq_newa_ok (atype := .long) h0 hK hA hAg (hts _ kw_265) rfl (Or.inr (Or.inl ⟨rfl, rfl⟩)) kd_A_init_56 ?_
    refine wq_put_ok (wq_putOK h0 hts ki_A ka_A kb_A kn_A hown hK (ci := 6) rfl 11 (Nat.le_of_ble_eq_true rfl) kw_285 rfl (Or.inr ⟨rfl, hnm, rfl⟩) (wq_okA _)) kd_A_init_58 ?_
    refine wq_aload_n_ok h0 kd_A_init_61 rfl ?_
    refine wq_aload_n_ok h0 kd_A_init_62 rfl ?_
    refine wq_put_ok (wq_putOK h0 hts ki_A ka_A kb_A kn_A hown hK (ci := 6) rfl 0 (Nat.le_of_ble_eq_true rfl) kw_272 rfl (Or.inr ⟨rfl, hnm, rfl⟩) (wq_okO _)) kd_A_init_63 ?_
    refine wq_aload_n_ok h0 kd_A_init_66 rfl ?_
    refine wq_aload_n_ok h0 kd_A_init_67 rfl ?_
    refine wq_put_ok (wq_putOK h0 hts ki_A ka_A kb_A kn_A hown hK (ci := 6) rfl 1 (Nat.le_of_ble_eq_true rfl) kw_273 rfl (Or.inr ⟨rfl, hnm, rfl⟩) (wq_okO _)) kd_A_init_68 ?_
    refine wq_aload_n_ok h0 kd_A_init_71 rfl ?_
    refine wq_aload_n_ok h0 kd_A_init_72 rfl ?_
    refine wq_put_ok (wq_putOK h0 hts ki_A ka_A kb_A kn_A hown hK (ci := 6) rfl 2 (Nat.le_of_ble_eq_true rfl) kw_274 rfl (Or.inr ⟨rfl, hnm, rfl⟩) (wq_okO _)) kd_A_init_73 ?_
    refine wq_aload_n_ok h0 kd_A_init_76 rfl ?_
    refine wq_aload_ok h0 kd_A_init_77 ?_
    refine wq_put_ok (wq_putOK h0 hts ki_A ka_A kb_A kn_A hown hK (ci := 6) rfl 3 (Nat.le_of_ble_eq_true rfl) kw_275 rfl (Or.inr ⟨rfl, hnm, rfl⟩) (wq_okO _)) kd_A_init_79 ?_
    exact wq_vreturn_ok h0 hr hlk kd_A_init_82
  exact hb_0 _ _ _ _ _ (wq_spA_t hsp)
set_option maxRecDepth 100000 in
set_option maxHeartbeats 4000000 in
theorem kv_L_init {l : Launch} (hl : l.stackTraces = false) : wq_Vld l kz_cl ky_L_init kw_T ({ frames := 1, cells := 6, slots := 240, locals := 20 }) wq_G1 ks_L_init 6 240 := by
  refine wq_method (cc := kc_L_init) (maxL := 1) (ret := none) (by decide) kw_315 (fun _ _ _ _ _ => rfl) wq_spA_sz ?_
  intro p e s m args below meth c cs D ad as w rt xt hF hnt hsp
  obtain ⟨h0, hr, hts, hown, hlk, hnm, hml, hK, hZ, hN, hA⟩ := hF
  have hown : s.vm.findClass "BorderDesk$Lots" = some m.cls := hown
  obtain ⟨A, hAe⟩ : ∃ A, A = wq_A ad w s.heap.size := ⟨_, rfl⟩
  rw [← hAe] at hZ hA ⊢
  have hAg : wq_AgOK (wq_G1 ad w) 61 := wq_G1_ok (wq_spA_len hsp)
  have hb_0 : wq_Snd p l e ({ frames := 1, cells := 6, slots := 240, locals := 20 } : Room) s m args below meth c 1 cs D kz_cl A (wq_G1 ad w) (wq_Q cs D kz_cl A (wq_G1 ad w) rt xt below s 6 240) 0 (kt_L_init_0 rt xt) := by
    refine wq_aload_n_ok h0 kd_L_init_0 rfl ?_
    refine wq_obi_ok h0 hml hown (hts _ kw_316) (hts _ kw_27) (hts _ kw_28) kd_L_init_1 (Nat.le_of_ble_eq_true rfl) (Nat.le_of_ble_eq_true rfl) ?_
    refine wq_aload_n_ok h0 kd_L_init_4 rfl ?_
    refine wq_bipush_ok h0 kd_L_init_5 (by decide +kernel) ?_
    refine wq_newa_ok (atype := .int) h0 hK hA hAg (hts _ kw_85) rfl (Or.inl ⟨rfl, rfl⟩) kd_L_init_7 ?_
    refine wq_put_ok (wq_putOK h0 hts ki_L ka_L kb_L kn_L hown hK (ci := 7) rfl 1 (Nat.le_of_ble_eq_true rfl) kw_319 rfl (Or.inr ⟨rfl, hnm, rfl⟩) (wq_okA _)) kd_L_init_9 ?_
    refine wq_aload_n_ok h0 kd_L_init_12 rfl ?_
    refine wq_bipush_ok h0 kd_L_init_13 (by decide +kernel) ?_
    refine wq_newa_ok (atype := .int) h0 hK hA hAg (hts _ kw_85) rfl (Or.inl ⟨rfl, rfl⟩) kd_L_init_15 ?_
    refine wq_put_ok (wq_putOK h0 hts ki_L ka_L kb_L kn_L hown hK (ci := 7) rfl 2 (Nat.le_of_ble_eq_true rfl) kw_321 rfl (Or.inr ⟨rfl, hnm, rfl⟩) (wq_okA _)) kd_L_init_17 ?_
    refine wq_aload_n_ok h0 kd_L_init_20 rfl ?_
    refine wq_bipush_ok h0 kd_L_init_21 (by decide +kernel) ?_
    refine wq_newa_ok (atype := .int) h0 hK hA hAg (hts _ kw_85) rfl (Or.inl ⟨rfl, rfl⟩) kd_L_init_23 ?_
    refine wq_put_ok (wq_putOK h0 hts ki_L ka_L kb_L kn_L hown hK (ci := 7) rfl 3 (Nat.le_of_ble_eq_true rfl) kw_323 rfl (Or.inr ⟨rfl, hnm, rfl⟩) (wq_okA _)) kd_L_init_25 ?_
    refine wq_aload_n_ok h0 kd_L_init_28 rfl ?_
    refine wq_bipush_ok h0 kd_L_init_29 (by decide +kernel) ?_
    refine wq_newa_ok (atype := .long) h0 hK hA hAg (hts _ kw_265) rfl (Or.inr (Or.inl ⟨rfl, rfl⟩)) kd_L_init_31 ?_
    refine wq_put_ok (wq_putOK h0 hts ki_L ka_L kb_L kn_L hown hK (ci := 7) rfl 4 (Nat.le_of_ble_eq_true rfl) kw_325 rfl (Or.inr ⟨rfl, hnm, rfl⟩) (wq_okA _)) kd_L_init_33 ?_
    refine wq_aload_n_ok h0 kd_L_init_36 rfl ?_
    refine wq_bipush_ok h0 kd_L_init_37 (by decide +kernel) ?_
    refine wq_newa_ok (atype := .boolean) h0 hK hA hAg (hts _ kw_86) rfl (Or.inr (Or.inr ⟨rfl, rfl⟩)) kd_L_init_39 ?_
    refine wq_put_ok (wq_putOK h0 hts ki_L ka_L kb_L kn_L hown hK (ci := 7) rfl 5 (Nat.le_of_ble_eq_true rfl) kw_327 rfl (Or.inr ⟨rfl, hnm, rfl⟩) (wq_okA _)) kd_L_init_41 ?_
    refine wq_aload_n_ok h0 kd_L_init_44 rfl ?_
    refine wq_bipush_ok h0 kd_L_init_45 (by decide +kernel) ?_
    refine wq_newa_ok (atype := .boolean) h0 hK hA hAg (hts _ kw_86) rfl (Or.inr (Or.inr ⟨rfl, rfl⟩)) kd_L_init_47 ?_
    refine wq_put_ok (wq_putOK h0 hts ki_L ka_L kb_L kn_L hown hK (ci := 7) rfl 6 (Nat.le_of_ble_eq_true rfl) kw_329 rfl (Or.inr ⟨rfl, hnm, rfl⟩) (wq_okA _)) kd_L_init_49 ?_
    exact wq_vreturn_ok h0 hr hlk kd_L_init_52
  exact hb_0 _ _ _ _ _ (wq_spA_t hsp)
set_option maxRecDepth 100000 in
set_option maxHeartbeats 4000000 in
theorem kv_G_init {l : Launch} (hl : l.stackTraces = false) : wq_Vld l kz_cl ky_G_init kw_T ({ frames := 1, cells := 3, slots := 48, locals := 20 }) wq_G1 ks_G_init 3 48 := by
  refine wq_method (cc := kc_G_init) (maxL := 1) (ret := none) (by decide) kw_349 (fun _ _ _ _ _ => rfl) wq_spA_sz ?_
  intro p e s m args below meth c cs D ad as w rt xt hF hnt hsp
  obtain ⟨h0, hr, hts, hown, hlk, hnm, hml, hK, hZ, hN, hA⟩ := hF
  have hown : s.vm.findClass "BorderDesk$Ledger" = some m.cls := hown
  obtain ⟨A, hAe⟩ : ∃ A, A = wq_A ad w s.heap.size := ⟨_, rfl⟩
  rw [← hAe] at hZ hA ⊢
  have hAg : wq_AgOK (wq_G1 ad w) 68 := wq_G1_ok (wq_spA_len hsp)
  have hb_0 : wq_Snd p l e ({ frames := 1, cells := 3, slots := 48, locals := 20 } : Room) s m args below meth c 1 cs D kz_cl A (wq_G1 ad w) (wq_Q cs D kz_cl A (wq_G1 ad w) rt xt below s 3 48) 0 (kt_G_init_0 rt xt) := by
    refine wq_aload_n_ok h0 kd_G_init_0 rfl ?_
    refine wq_obi_ok h0 hml hown (hts _ kw_350) (hts _ kw_27) (hts _ kw_28) kd_G_init_1 (Nat.le_of_ble_eq_true rfl) (Nat.le_of_ble_eq_true rfl) ?_
    refine wq_aload_n_ok h0 kd_G_init_4 rfl ?_
    refine wq_bipush_ok h0 kd_G_init_5 (by decide +kernel) ?_
    refine wq_newa_ok (atype := .int) h0 hK hA hAg (hts _ kw_85) rfl (Or.inl ⟨rfl, rfl⟩) kd_G_init_7 ?_
    refine wq_put_ok (wq_putOK h0 hts ki_G ka_G kb_G kn_G hown hK (ci := 8) rfl 2 (Nat.le_of_ble_eq_true rfl) kw_353 rfl (Or.inr ⟨rfl, hnm, rfl⟩) (wq_okA _)) kd_G_init_9 ?_
    refine wq_aload_n_ok h0 kd_G_init_12 rfl ?_
    refine wq_bipush_ok h0 kd_G_init_13 (by decide +kernel) ?_
    refine wq_newa_ok (atype := .int) h0 hK hA hAg (hts _ kw_85) rfl (Or.inl ⟨rfl, rfl⟩) kd_G_init_15 ?_
    refine wq_put_ok (wq_putOK h0 hts ki_G ka_G kb_G kn_G hown hK (ci := 8) rfl 3 (Nat.le_of_ble_eq_true rfl) kw_355 rfl (Or.inr ⟨rfl, hnm, rfl⟩) (wq_okA _)) kd_G_init_17 ?_
    refine wq_aload_n_ok h0 kd_G_init_20 rfl ?_
    refine wq_bipush_ok h0 kd_G_init_21 (by decide +kernel) ?_
    refine wq_newa_ok (atype := .int) h0 hK hA hAg (hts _ kw_85) rfl (Or.inl ⟨rfl, rfl⟩) kd_G_init_23 ?_
    refine wq_put_ok (wq_putOK h0 hts ki_G ka_G kb_G kn_G hown hK (ci := 8) rfl 4 (Nat.le_of_ble_eq_true rfl) kw_357 rfl (Or.inr ⟨rfl, hnm, rfl⟩) (wq_okA _)) kd_G_init_25 ?_
    exact wq_vreturn_ok h0 hr hlk kd_G_init_28
  exact hb_0 _ _ _ _ _ (wq_spA_t hsp)
set_option maxRecDepth 100000 in
set_option maxHeartbeats 4000000 in
theorem kv_B_init {l : Launch} (hl : l.stackTraces = false) : wq_Vld l kz_cl ky_B_init kw_T ({ frames := 2, cells := 146, slots := 2029, locals := 44 }) wq_G1 ks_B_init 146 2029 := by
  refine wq_method (cc := kc_B_init) (maxL := 1) (ret := none) (by decide) kw_25 (fun _ _ _ _ _ => rfl) wq_spA_sz ?_
  intro p e s m args below meth c cs D ad as w rt xt hF hnt hsp
  obtain ⟨h0, hr, hts, hown, hlk, hnm, hml, hK, hZ, hN, hA⟩ := hF
  have hown : s.vm.findClass "BorderDesk" = some m.cls := hown
  obtain ⟨A, hAe⟩ : ∃ A, A = wq_A ad w s.heap.size := ⟨_, rfl⟩
  rw [← hAe] at hZ hA ⊢
  have hAg : wq_AgOK (wq_G1 ad w) 1 := wq_G1_ok (wq_spA_len hsp)
  have hb_0 : wq_Snd p l e ({ frames := 2, cells := 146, slots := 2029, locals := 44 } : Room) s m args below meth c 1 cs D kz_cl A (wq_G1 ad w) (wq_Q cs D kz_cl A (wq_G1 ad w) rt xt below s 146 2029) 0 (kt_B_init_0 rt xt) := by
    refine wq_aload_n_ok h0 kd_B_init_0 rfl ?_
    refine wq_obi_ok h0 hml hown (hts _ kw_26) (hts _ kw_27) (hts _ kw_28) kd_B_init_1 (Nat.le_of_ble_eq_true rfl) (Nat.le_of_ble_eq_true rfl) ?_
    refine wq_aload_n_ok h0 kd_B_init_4 rfl ?_
    refine wq_new_ok h0 hK hA hAg hts ki_T ka_T kb_T hown (hts _ kw_29) (hts _ kw_30) (hts _ kw_2) (ci := 1) rfl (fun ad j hj => kf_T ad j hj) kd_B_init_5 ?_
    refine wq_dup_ok h0 kd_B_init_8 ?_
    refine wq_callA_ok hA hAg (wq_runIN ⟨h0.1, h0.2, hml, hown, hts⟩ (kv_T_init hl) ⟨(wq_cN hts kw_G kw_33 kw_2 (va_Nw.use rfl (hN.2.2.1 _ (List.mem_of_getElem? (i := 0) rfl))) ⟨by decide +kernel, by decide +kernel, by decide +kernel⟩ rfl rfl ⟨Nat.le_of_ble_eq_true rfl, Nat.le_of_ble_eq_true rfl⟩), rfl, hts _ kw_32⟩ hK hZ hN hA kd_B_init_9) ?_
    refine wq_put_ok (wq_putOK h0 hts ki_B ka_B kb_B kn_B hown hK (ci := 0) rfl 0 (Nat.le_of_ble_eq_true rfl) kw_370 rfl (Or.inr ⟨rfl, hnm, rfl⟩) (wq_okO _)) kd_B_init_12 ?_
    refine wq_aload_n_ok h0 kd_B_init_15 rfl ?_
    refine wq_new_ok h0 hK hA hAg hts ki_R ka_R kb_R hown (hts _ kw_87) (hts _ kw_88) (hts _ kw_3) (ci := 2) rfl (fun ad j hj => kf_R ad j hj) kd_B_init_16 ?_
    refine wq_dup_ok h0 kd_B_init_19 ?_
    refine wq_aload_n_ok h0 kd_B_init_20 rfl ?_
    refine wq_get_ok (wq_getOK h0 hts ki_B hown hK (ci := 0) rfl 0 (Nat.le_of_ble_eq_true rfl) kw_370 rfl) kd_B_init_21 ?_
    refine wq_callA_ok hA hAg (wq_runI ⟨h0.1, h0.2, hml, hown, hts⟩ (kv_R_init hl) ⟨(wq_cB hts kw_G kw_91 kw_3 kw_89 ⟨by decide +kernel, by decide +kernel, by decide +kernel⟩ rfl rfl ⟨Nat.le_of_ble_eq_true rfl, Nat.le_of_ble_eq_true rfl⟩), rfl, hts _ kw_90⟩ hK hZ hN hA kd_B_init_24) ?_
    refine wq_put_ok (wq_putOK h0 hts ki_B ka_B kb_B kn_B hown hK (ci := 0) rfl 1 (Nat.le_of_ble_eq_true rfl) kw_371 rfl (Or.inr ⟨rfl, hnm, rfl⟩) (wq_okO _)) kd_B_init_27 ?_
    refine wq_aload_n_ok h0 kd_B_init_30 rfl ?_
    refine wq_new_ok h0 hK hA hAg hts ki_Q ka_Q kb_Q hown (hts _ kw_122) (hts _ kw_123) (hts _ kw_4) (ci := 3) rfl (fun ad j hj => kf_Q ad j hj) kd_B_init_31 ?_
    refine wq_dup_ok h0 kd_B_init_34 ?_
    refine wq_aload_n_ok h0 kd_B_init_35 rfl ?_
    refine wq_get_ok (wq_getOK h0 hts ki_B hown hK (ci := 0) rfl 0 (Nat.le_of_ble_eq_true rfl) kw_370 rfl) kd_B_init_36 ?_
    refine wq_callA_ok hA hAg (wq_runI ⟨h0.1, h0.2, hml, hown, hts⟩ (kv_Q_init hl) ⟨(wq_cB hts kw_G kw_126 kw_4 kw_124 ⟨by decide +kernel, by decide +kernel, by decide +kernel⟩ rfl rfl ⟨Nat.le_of_ble_eq_true rfl, Nat.le_of_ble_eq_true rfl⟩), rfl, hts _ kw_125⟩ hK hZ hN hA kd_B_init_39) ?_
    refine wq_put_ok (wq_putOK h0 hts ki_B ka_B kb_B kn_B hown hK (ci := 0) rfl 2 (Nat.le_of_ble_eq_true rfl) kw_372 rfl (Or.inr ⟨rfl, hnm, rfl⟩) (wq_okO _)) kd_B_init_42 ?_
    refine wq_aload_n_ok h0 kd_B_init_45 rfl ?_
    refine wq_new_ok h0 hK hA hAg hts ki_O ka_O kb_O hown (hts _ kw_157) (hts _ kw_158) (hts _ kw_5) (ci := 4) rfl (fun ad j hj => kf_O ad j hj) kd_B_init_46 ?_
    refine wq_dup_ok h0 kd_B_init_49 ?_
    refine wq_aload_n_ok h0 kd_B_init_50 rfl ?_
    refine wq_get_ok (wq_getOK h0 hts ki_B hown hK (ci := 0) rfl 0 (Nat.le_of_ble_eq_true rfl) kw_370 rfl) kd_B_init_51 ?_
    refine wq_callA_ok hA hAg (wq_runI ⟨h0.1, h0.2, hml, hown, hts⟩ (kv_O_init hl) ⟨(wq_cB hts kw_G kw_161 kw_5 kw_159 ⟨by decide +kernel, by decide +kernel, by decide +kernel⟩ rfl rfl ⟨Nat.le_of_ble_eq_true rfl, Nat.le_of_ble_eq_true rfl⟩), rfl, hts _ kw_160⟩ hK hZ hN hA kd_B_init_54) ?_
    refine wq_put_ok (wq_putOK h0 hts ki_B ka_B kb_B kn_B hown hK (ci := 0) rfl 3 (Nat.le_of_ble_eq_true rfl) kw_373 rfl (Or.inr ⟨rfl, hnm, rfl⟩) (wq_okO _)) kd_B_init_57 ?_
    refine wq_aload_n_ok h0 kd_B_init_60 rfl ?_
    refine wq_new_ok h0 hK hA hAg hts ki_D ka_D kb_D hown (hts _ kw_188) (hts _ kw_189) (hts _ kw_6) (ci := 5) rfl (fun ad j hj => kf_D ad j hj) kd_B_init_61 ?_
    refine wq_dup_ok h0 kd_B_init_64 ?_
    refine wq_callA_ok hA hAg (wq_runIN ⟨h0.1, h0.2, hml, hown, hts⟩ (kv_D_init hl) ⟨(wq_cN hts kw_G kw_192 kw_6 (va_Nw.use rfl (hN.2.2.1 _ (List.mem_of_getElem? (i := 1) rfl))) ⟨by decide +kernel, by decide +kernel, by decide +kernel⟩ rfl rfl ⟨Nat.le_of_ble_eq_true rfl, Nat.le_of_ble_eq_true rfl⟩), rfl, hts _ kw_191⟩ hK hZ hN hA kd_B_init_65) ?_
    refine wq_put_ok (wq_putOK h0 hts ki_B ka_B kb_B kn_B hown hK (ci := 0) rfl 4 (Nat.le_of_ble_eq_true rfl) kw_374 rfl (Or.inr ⟨rfl, hnm, rfl⟩) (wq_okO _)) kd_B_init_68 ?_
    refine wq_aload_n_ok h0 kd_B_init_71 rfl ?_
    refine wq_new_ok h0 hK hA hAg hts ki_A ka_A kb_A hown (hts _ kw_266) (hts _ kw_267) (hts _ kw_7) (ci := 6) rfl (fun ad j hj => kf_A ad j hj) kd_B_init_72 ?_
    refine wq_dup_ok h0 kd_B_init_75 ?_
    refine wq_aload_n_ok h0 kd_B_init_76 rfl ?_
    refine wq_get_ok (wq_getOK h0 hts ki_B hown hK (ci := 0) rfl 0 (Nat.le_of_ble_eq_true rfl) kw_370 rfl) kd_B_init_77 ?_
    refine wq_aload_n_ok h0 kd_B_init_80 rfl ?_
    refine wq_get_ok (wq_getOK h0 hts ki_B hown hK (ci := 0) rfl 1 (Nat.le_of_ble_eq_true rfl) kw_371 rfl) kd_B_init_81 ?_
    refine wq_aload_n_ok h0 kd_B_init_84 rfl ?_
    refine wq_get_ok (wq_getOK h0 hts ki_B hown hK (ci := 0) rfl 2 (Nat.le_of_ble_eq_true rfl) kw_372 rfl) kd_B_init_85 ?_
    refine wq_aload_n_ok h0 kd_B_init_88 rfl ?_
    refine wq_get_ok (wq_getOK h0 hts ki_B hown hK (ci := 0) rfl 4 (Nat.le_of_ble_eq_true rfl) kw_374 rfl) kd_B_init_89 ?_
    refine wq_callA_ok hA hAg (wq_runI ⟨h0.1, h0.2, hml, hown, hts⟩ (kv_A_init hl) ⟨(wq_cB hts kw_G kw_270 kw_7 kw_268 ⟨by decide +kernel, by decide +kernel, by decide +kernel⟩ rfl rfl ⟨Nat.le_of_ble_eq_true rfl, Nat.le_of_ble_eq_true rfl⟩), rfl, hts _ kw_269⟩ hK hZ hN hA kd_B_init_92) ?_
    refine wq_put_ok (wq_putOK h0 hts ki_B ka_B kb_B kn_B hown hK (ci := 0) rfl 5 (Nat.le_of_ble_eq_true rfl) kw_375 rfl (Or.inr ⟨rfl, hnm, rfl⟩) (wq_okO _)) kd_B_init_95 ?_
    refine wq_aload_n_ok h0 kd_B_init_98 rfl ?_
    refine wq_new_ok h0 hK hA hAg hts ki_L ka_L kb_L hown (hts _ kw_311) (hts _ kw_312) (hts _ kw_8) (ci := 7) rfl (fun ad j hj => kf_L ad j hj) kd_B_init_99 ?_
    refine wq_dup_ok h0 kd_B_init_102 ?_
    refine wq_callA_ok hA hAg (wq_runIN ⟨h0.1, h0.2, hml, hown, hts⟩ (kv_L_init hl) ⟨(wq_cN hts kw_G kw_315 kw_8 (va_Nw.use rfl (hN.2.2.1 _ (List.mem_of_getElem? (i := 2) rfl))) ⟨by decide +kernel, by decide +kernel, by decide +kernel⟩ rfl rfl ⟨Nat.le_of_ble_eq_true rfl, Nat.le_of_ble_eq_true rfl⟩), rfl, hts _ kw_314⟩ hK hZ hN hA kd_B_init_103) ?_
    refine wq_put_ok (wq_putOK h0 hts ki_B ka_B kb_B kn_B hown hK (ci := 0) rfl 6 (Nat.le_of_ble_eq_true rfl) kw_376 rfl (Or.inr ⟨rfl, hnm, rfl⟩) (wq_okO _)) kd_B_init_106 ?_
    refine wq_aload_n_ok h0 kd_B_init_109 rfl ?_
    refine wq_new_ok h0 hK hA hAg hts ki_G ka_G kb_G hown (hts _ kw_345) (hts _ kw_346) (hts _ kw_9) (ci := 8) rfl (fun ad j hj => kf_G ad j hj) kd_B_init_110 ?_
    refine wq_dup_ok h0 kd_B_init_113 ?_
    refine wq_callA_ok hA hAg (wq_runIN ⟨h0.1, h0.2, hml, hown, hts⟩ (kv_G_init hl) ⟨(wq_cN hts kw_G kw_349 kw_9 (va_Nw.use rfl (hN.2.2.1 _ (List.mem_of_getElem? (i := 3) rfl))) ⟨by decide +kernel, by decide +kernel, by decide +kernel⟩ rfl rfl ⟨Nat.le_of_ble_eq_true rfl, Nat.le_of_ble_eq_true rfl⟩), rfl, hts _ kw_348⟩ hK hZ hN hA kd_B_init_114) ?_
    refine wq_put_ok (wq_putOK h0 hts ki_B ka_B kb_B kn_B hown hK (ci := 0) rfl 7 (Nat.le_of_ble_eq_true rfl) kw_377 rfl (Or.inr ⟨rfl, hnm, rfl⟩) (wq_okO _)) kd_B_init_117 ?_
    exact wq_vreturn_ok h0 hr hlk kd_B_init_120
  exact hb_0 _ _ _ _ _ (wq_spA_t hsp)
set_option maxRecDepth 100000 in
set_option maxHeartbeats 4000000 in
theorem kv_M_init {l : Launch} (hl : l.stackTraces = false) : wq_Vld l kz_cl ky_M_init kw_T ({ frames := 1, cells := 58, slots := 1912, locals := 20 }) wq_G1 ks_M_init 58 1912 := by
  refine wq_method (cc := kc_M_init) (maxL := 1) (ret := none) (by decide) kw_980 (fun _ _ _ _ _ => rfl) wq_spA_sz ?_
  intro p e s m args below meth c cs D ad as w rt xt hF hnt hsp
  obtain ⟨h0, hr, hts, hown, hlk, hnm, hml, hK, hZ, hN, hA⟩ := hF
  have hown : s.vm.findClass "BorderDeskModel" = some m.cls := hown
  obtain ⟨A, hAe⟩ : ∃ A, A = wq_A ad w s.heap.size := ⟨_, rfl⟩
  rw [← hAe] at hZ hA ⊢
  have hAg : wq_AgOK (wq_G1 ad w) 72 := wq_G1_ok (wq_spA_len hsp)
  have hb_0 : wq_Snd p l e ({ frames := 1, cells := 58, slots := 1912, locals := 20 } : Room) s m args below meth c 1 cs D kz_cl A (wq_G1 ad w) (wq_Q cs D kz_cl A (wq_G1 ad w) rt xt below s 58 1912) 0 (kt_M_init_0 rt xt) := by
    refine wq_aload_n_ok h0 kd_M_init_0 rfl ?_
    refine wq_obi_ok h0 hml hown (hts _ kw_981) (hts _ kw_27) (hts _ kw_28) kd_M_init_1 (Nat.le_of_ble_eq_true rfl) (Nat.le_of_ble_eq_true rfl) ?_
    refine wq_aload_n_ok h0 kd_M_init_4 rfl ?_
    refine wq_bipush_ok h0 kd_M_init_5 (by decide +kernel) ?_
    refine wq_newa_ok (atype := .int) h0 hK hA hAg (hts _ kw_85) rfl (Or.inl ⟨rfl, rfl⟩) kd_M_init_7 ?_
    refine wq_put_ok (wq_putOK h0 hts ki_M ka_M kb_M kn_M hown hK (ci := 9) rfl 2 (Nat.le_of_ble_eq_true rfl) kw_984 rfl (Or.inr ⟨rfl, hnm, rfl⟩) (wq_okA _)) kd_M_init_9 ?_
    refine wq_aload_n_ok h0 kd_M_init_12 rfl ?_
    refine wq_bipush_ok h0 kd_M_init_13 (by decide +kernel) ?_
    refine wq_newa_ok (atype := .int) h0 hK hA hAg (hts _ kw_85) rfl (Or.inl ⟨rfl, rfl⟩) kd_M_init_15 ?_
    refine wq_put_ok (wq_putOK h0 hts ki_M ka_M kb_M kn_M hown hK (ci := 9) rfl 3 (Nat.le_of_ble_eq_true rfl) kw_985 rfl (Or.inr ⟨rfl, hnm, rfl⟩) (wq_okA _)) kd_M_init_17 ?_
    refine wq_aload_n_ok h0 kd_M_init_20 rfl ?_
    refine wq_bipush_ok h0 kd_M_init_21 (by decide +kernel) ?_
    refine wq_newa_ok (atype := .int) h0 hK hA hAg (hts _ kw_85) rfl (Or.inl ⟨rfl, rfl⟩) kd_M_init_23 ?_
    refine wq_put_ok (wq_putOK h0 hts ki_M ka_M kb_M kn_M hown hK (ci := 9) rfl 4 (Nat.le_of_ble_eq_true rfl) kw_986 rfl (Or.inr ⟨rfl, hnm, rfl⟩) (wq_okA _)) kd_M_init_25 ?_
    refine wq_aload_n_ok h0 kd_M_init_28 rfl ?_
    refine wq_bipush_ok h0 kd_M_init_29 (by decide +kernel) ?_
    refine wq_newa_ok (atype := .int) h0 hK hA hAg (hts _ kw_85) rfl (Or.inl ⟨rfl, rfl⟩) kd_M_init_31 ?_
    refine wq_put_ok (wq_putOK h0 hts ki_M ka_M kb_M kn_M hown hK (ci := 9) rfl 6 (Nat.le_of_ble_eq_true rfl) kw_988 rfl (Or.inr ⟨rfl, hnm, rfl⟩) (wq_okA _)) kd_M_init_33 ?_
    refine wq_aload_n_ok h0 kd_M_init_36 rfl ?_
    refine wq_bipush_ok h0 kd_M_init_37 (by decide +kernel) ?_
    refine wq_newa_ok (atype := .int) h0 hK hA hAg (hts _ kw_85) rfl (Or.inl ⟨rfl, rfl⟩) kd_M_init_39 ?_
    refine wq_put_ok (wq_putOK h0 hts ki_M ka_M kb_M kn_M hown hK (ci := 9) rfl 7 (Nat.le_of_ble_eq_true rfl) kw_989 rfl (Or.inr ⟨rfl, hnm, rfl⟩) (wq_okA _)) kd_M_init_41 ?_
    refine wq_aload_n_ok h0 kd_M_init_44 rfl ?_
    refine wq_bipush_ok h0 kd_M_init_45 (by decide +kernel) ?_
    refine wq_newa_ok (atype := .int) h0 hK hA hAg (hts _ kw_85) rfl (Or.inl ⟨rfl, rfl⟩) kd_M_init_47 ?_
    refine wq_put_ok (wq_putOK h0 hts ki_M ka_M kb_M kn_M hown hK (ci := 9) rfl 8 (Nat.le_of_ble_eq_true rfl) kw_990 rfl (Or.inr ⟨rfl, hnm, rfl⟩) (wq_okA _)) kd_M_init_49 ?_
    refine wq_aload_n_ok h0 kd_M_init_52 rfl ?_
    refine wq_bipush_ok h0 kd_M_init_53 (by decide +kernel) ?_
    refine wq_newa_ok (atype := .int) h0 hK hA hAg (hts _ kw_85) rfl (Or.inl ⟨rfl, rfl⟩) kd_M_init_55 ?_
    refine wq_put_ok (wq_putOK h0 hts ki_M ka_M kb_M kn_M hown hK (ci := 9) rfl 9 (Nat.le_of_ble_eq_true rfl) kw_991 rfl (Or.inr ⟨rfl, hnm, rfl⟩) (wq_okA _)) kd_M_init_57 ?_
    refine wq_aload_n_ok h0 kd_M_init_60 rfl ?_
    refine wq_bipush_ok h0 kd_M_init_61 (by decide +kernel) ?_
    refine wq_newa_ok (atype := .int) h0 hK hA hAg (hts _ kw_85) rfl (Or.inl ⟨rfl, rfl⟩) kd_M_init_63 ?_
    refine wq_put_ok (wq_putOK h0 hts ki_M ka_M kb_M kn_M hown hK (ci := 9) rfl 11 (Nat.le_of_ble_eq_true rfl) kw_993 rfl (Or.inr ⟨rfl, hnm, rfl⟩) (wq_okA _)) kd_M_init_65 ?_
    refine wq_aload_n_ok h0 kd_M_init_68 rfl ?_
    refine wq_bipush_ok h0 kd_M_init_69 (by decide +kernel) ?_
    refine wq_newa_ok (atype := .int) h0 hK hA hAg (hts _ kw_85) rfl (Or.inl ⟨rfl, rfl⟩) kd_M_init_71 ?_
    refine wq_put_ok (wq_putOK h0 hts ki_M ka_M kb_M kn_M hown hK (ci := 9) rfl 12 (Nat.le_of_ble_eq_true rfl) kw_994 rfl (Or.inr ⟨rfl, hnm, rfl⟩) (wq_okA _)) kd_M_init_73 ?_
    refine wq_aload_n_ok h0 kd_M_init_76 rfl ?_
    refine wq_bipush_ok h0 kd_M_init_77 (by decide +kernel) ?_
    refine wq_newa_ok (atype := .int) h0 hK hA hAg (hts _ kw_85) rfl (Or.inl ⟨rfl, rfl⟩) kd_M_init_79 ?_
    refine wq_put_ok (wq_putOK h0 hts ki_M ka_M kb_M kn_M hown hK (ci := 9) rfl 13 (Nat.le_of_ble_eq_true rfl) kw_995 rfl (Or.inr ⟨rfl, hnm, rfl⟩) (wq_okA _)) kd_M_init_81 ?_
    refine wq_aload_n_ok h0 kd_M_init_84 rfl ?_
    refine wq_bipush_ok h0 kd_M_init_85 (by decide +kernel) ?_
    refine wq_newa_ok (atype := .int) h0 hK hA hAg (hts _ kw_85) rfl (Or.inl ⟨rfl, rfl⟩) kd_M_init_87 ?_
    refine wq_put_ok (wq_putOK h0 hts ki_M ka_M kb_M kn_M hown hK (ci := 9) rfl 14 (Nat.le_of_ble_eq_true rfl) kw_996 rfl (Or.inr ⟨rfl, hnm, rfl⟩) (wq_okA _)) kd_M_init_89 ?_
    refine wq_aload_n_ok h0 kd_M_init_92 rfl ?_
    refine wq_bipush_ok h0 kd_M_init_93 (by decide +kernel) ?_
    refine wq_newa_ok (atype := .int) h0 hK hA hAg (hts _ kw_85) rfl (Or.inl ⟨rfl, rfl⟩) kd_M_init_95 ?_
    refine wq_put_ok (wq_putOK h0 hts ki_M ka_M kb_M kn_M hown hK (ci := 9) rfl 15 (Nat.le_of_ble_eq_true rfl) kw_997 rfl (Or.inr ⟨rfl, hnm, rfl⟩) (wq_okA _)) kd_M_init_97 ?_
    refine wq_aload_n_ok h0 kd_M_init_100 rfl ?_
    refine wq_bipush_ok h0 kd_M_init_101 (by decide +kernel) ?_
    refine wq_newa_ok (atype := .int) h0 hK hA hAg (hts _ kw_85) rfl (Or.inl ⟨rfl, rfl⟩) kd_M_init_103 ?_
    refine wq_put_ok (wq_putOK h0 hts ki_M ka_M kb_M kn_M hown hK (ci := 9) rfl 16 (Nat.le_of_ble_eq_true rfl) kw_998 rfl (Or.inr ⟨rfl, hnm, rfl⟩) (wq_okA _)) kd_M_init_105 ?_
    refine wq_aload_n_ok h0 kd_M_init_108 rfl ?_
    refine wq_bipush_ok h0 kd_M_init_109 (by decide +kernel) ?_
    refine wq_newa_ok (atype := .int) h0 hK hA hAg (hts _ kw_85) rfl (Or.inl ⟨rfl, rfl⟩) kd_M_init_111 ?_
    refine wq_put_ok (wq_putOK h0 hts ki_M ka_M kb_M kn_M hown hK (ci := 9) rfl 17 (Nat.le_of_ble_eq_true rfl) kw_999 rfl (Or.inr ⟨rfl, hnm, rfl⟩) (wq_okA _)) kd_M_init_113 ?_
    refine wq_aload_n_ok h0 kd_M_init_116 rfl ?_
    refine wq_bipush_ok h0 kd_M_init_117 (by decide +kernel) ?_
    refine wq_newa_ok (atype := .int) h0 hK hA hAg (hts _ kw_85) rfl (Or.inl ⟨rfl, rfl⟩) kd_M_init_119 ?_
    refine wq_put_ok (wq_putOK h0 hts ki_M ka_M kb_M kn_M hown hK (ci := 9) rfl 19 (Nat.le_of_ble_eq_true rfl) kw_1001 rfl (Or.inr ⟨rfl, hnm, rfl⟩) (wq_okA _)) kd_M_init_121 ?_
    refine wq_aload_n_ok h0 kd_M_init_124 rfl ?_
    refine wq_bipush_ok h0 kd_M_init_125 (by decide +kernel) ?_
    refine wq_newa_ok (atype := .int) h0 hK hA hAg (hts _ kw_85) rfl (Or.inl ⟨rfl, rfl⟩) kd_M_init_127 ?_
    refine wq_put_ok (wq_putOK h0 hts ki_M ka_M kb_M kn_M hown hK (ci := 9) rfl 20 (Nat.le_of_ble_eq_true rfl) kw_1002 rfl (Or.inr ⟨rfl, hnm, rfl⟩) (wq_okA _)) kd_M_init_129 ?_
    refine wq_aload_n_ok h0 kd_M_init_132 rfl ?_
    refine wq_bipush_ok h0 kd_M_init_133 (by decide +kernel) ?_
    refine wq_newa_ok (atype := .int) h0 hK hA hAg (hts _ kw_85) rfl (Or.inl ⟨rfl, rfl⟩) kd_M_init_135 ?_
    refine wq_put_ok (wq_putOK h0 hts ki_M ka_M kb_M kn_M hown hK (ci := 9) rfl 21 (Nat.le_of_ble_eq_true rfl) kw_1003 rfl (Or.inr ⟨rfl, hnm, rfl⟩) (wq_okA _)) kd_M_init_137 ?_
    refine wq_aload_n_ok h0 kd_M_init_140 rfl ?_
    refine wq_bipush_ok h0 kd_M_init_141 (by decide +kernel) ?_
    refine wq_newa_ok (atype := .int) h0 hK hA hAg (hts _ kw_85) rfl (Or.inl ⟨rfl, rfl⟩) kd_M_init_143 ?_
    refine wq_put_ok (wq_putOK h0 hts ki_M ka_M kb_M kn_M hown hK (ci := 9) rfl 22 (Nat.le_of_ble_eq_true rfl) kw_1004 rfl (Or.inr ⟨rfl, hnm, rfl⟩) (wq_okA _)) kd_M_init_145 ?_
    refine wq_aload_n_ok h0 kd_M_init_148 rfl ?_
    refine wq_bipush_ok h0 kd_M_init_149 (by decide +kernel) ?_
    refine wq_newa_ok (atype := .int) h0 hK hA hAg (hts _ kw_85) rfl (Or.inl ⟨rfl, rfl⟩) kd_M_init_151 ?_
    refine wq_put_ok (wq_putOK h0 hts ki_M ka_M kb_M kn_M hown hK (ci := 9) rfl 23 (Nat.le_of_ble_eq_true rfl) kw_1005 rfl (Or.inr ⟨rfl, hnm, rfl⟩) (wq_okA _)) kd_M_init_153 ?_
    refine wq_aload_n_ok h0 kd_M_init_156 rfl ?_
    refine wq_bipush_ok h0 kd_M_init_157 (by decide +kernel) ?_
    refine wq_newa_ok (atype := .int) h0 hK hA hAg (hts _ kw_85) rfl (Or.inl ⟨rfl, rfl⟩) kd_M_init_159 ?_
    refine wq_put_ok (wq_putOK h0 hts ki_M ka_M kb_M kn_M hown hK (ci := 9) rfl 24 (Nat.le_of_ble_eq_true rfl) kw_1006 rfl (Or.inr ⟨rfl, hnm, rfl⟩) (wq_okA _)) kd_M_init_161 ?_
    refine wq_aload_n_ok h0 kd_M_init_164 rfl ?_
    refine wq_bipush_ok h0 kd_M_init_165 (by decide +kernel) ?_
    refine wq_newa_ok (atype := .int) h0 hK hA hAg (hts _ kw_85) rfl (Or.inl ⟨rfl, rfl⟩) kd_M_init_167 ?_
    refine wq_put_ok (wq_putOK h0 hts ki_M ka_M kb_M kn_M hown hK (ci := 9) rfl 25 (Nat.le_of_ble_eq_true rfl) kw_1007 rfl (Or.inr ⟨rfl, hnm, rfl⟩) (wq_okA _)) kd_M_init_169 ?_
    refine wq_aload_n_ok h0 kd_M_init_172 rfl ?_
    refine wq_sipush_ok h0 kd_M_init_173 (by decide +kernel) ?_
    refine wq_newa_ok (atype := .int) h0 hK hA hAg (hts _ kw_85) rfl (Or.inl ⟨rfl, rfl⟩) kd_M_init_176 ?_
    refine wq_put_ok (wq_putOK h0 hts ki_M ka_M kb_M kn_M hown hK (ci := 9) rfl 26 (Nat.le_of_ble_eq_true rfl) kw_1008 rfl (Or.inr ⟨rfl, hnm, rfl⟩) (wq_okA _)) kd_M_init_178 ?_
    refine wq_aload_n_ok h0 kd_M_init_181 rfl ?_
    refine wq_bipush_ok h0 kd_M_init_182 (by decide +kernel) ?_
    refine wq_newa_ok (atype := .int) h0 hK hA hAg (hts _ kw_85) rfl (Or.inl ⟨rfl, rfl⟩) kd_M_init_184 ?_
    refine wq_put_ok (wq_putOK h0 hts ki_M ka_M kb_M kn_M hown hK (ci := 9) rfl 27 (Nat.le_of_ble_eq_true rfl) kw_1009 rfl (Or.inr ⟨rfl, hnm, rfl⟩) (wq_okA _)) kd_M_init_186 ?_
    refine wq_aload_n_ok h0 kd_M_init_189 rfl ?_
    refine wq_bipush_ok h0 kd_M_init_190 (by decide +kernel) ?_
    refine wq_newa_ok (atype := .int) h0 hK hA hAg (hts _ kw_85) rfl (Or.inl ⟨rfl, rfl⟩) kd_M_init_192 ?_
    refine wq_put_ok (wq_putOK h0 hts ki_M ka_M kb_M kn_M hown hK (ci := 9) rfl 28 (Nat.le_of_ble_eq_true rfl) kw_1010 rfl (Or.inr ⟨rfl, hnm, rfl⟩) (wq_okA _)) kd_M_init_194 ?_
    refine wq_aload_n_ok h0 kd_M_init_197 rfl ?_
    refine wq_bipush_ok h0 kd_M_init_198 (by decide +kernel) ?_
    refine wq_newa_ok (atype := .int) h0 hK hA hAg (hts _ kw_85) rfl (Or.inl ⟨rfl, rfl⟩) kd_M_init_200 ?_
    refine wq_put_ok (wq_putOK h0 hts ki_M ka_M kb_M kn_M hown hK (ci := 9) rfl 29 (Nat.le_of_ble_eq_true rfl) kw_1011 rfl (Or.inr ⟨rfl, hnm, rfl⟩) (wq_okA _)) kd_M_init_202 ?_
    refine wq_aload_n_ok h0 kd_M_init_205 rfl ?_
    refine wq_bipush_ok h0 kd_M_init_206 (by decide +kernel) ?_
    refine wq_newa_ok (atype := .int) h0 hK hA hAg (hts _ kw_85) rfl (Or.inl ⟨rfl, rfl⟩) kd_M_init_208 ?_
    refine wq_put_ok (wq_putOK h0 hts ki_M ka_M kb_M kn_M hown hK (ci := 9) rfl 30 (Nat.le_of_ble_eq_true rfl) kw_1012 rfl (Or.inr ⟨rfl, hnm, rfl⟩) (wq_okA _)) kd_M_init_210 ?_
    refine wq_aload_n_ok h0 kd_M_init_213 rfl ?_
    refine wq_iconst_ok h0 kd_M_init_214 (by decide +kernel) ?_
    refine wq_newa_ok (atype := .int) h0 hK hA hAg (hts _ kw_85) rfl (Or.inl ⟨rfl, rfl⟩) kd_M_init_215 ?_
    refine wq_put_ok (wq_putOK h0 hts ki_M ka_M kb_M kn_M hown hK (ci := 9) rfl 31 (Nat.le_of_ble_eq_true rfl) kw_1013 rfl (Or.inr ⟨rfl, hnm, rfl⟩) (wq_okA _)) kd_M_init_217 ?_
    refine wq_aload_n_ok h0 kd_M_init_220 rfl ?_
    refine wq_bipush_ok h0 kd_M_init_221 (by decide +kernel) ?_
    refine wq_newa_ok (atype := .int) h0 hK hA hAg (hts _ kw_85) rfl (Or.inl ⟨rfl, rfl⟩) kd_M_init_223 ?_
    refine wq_put_ok (wq_putOK h0 hts ki_M ka_M kb_M kn_M hown hK (ci := 9) rfl 32 (Nat.le_of_ble_eq_true rfl) kw_1014 rfl (Or.inr ⟨rfl, hnm, rfl⟩) (wq_okA _)) kd_M_init_225 ?_
    refine wq_aload_n_ok h0 kd_M_init_228 rfl ?_
    refine wq_bipush_ok h0 kd_M_init_229 (by decide +kernel) ?_
    refine wq_newa_ok (atype := .boolean) h0 hK hA hAg (hts _ kw_86) rfl (Or.inr (Or.inr ⟨rfl, rfl⟩)) kd_M_init_231 ?_
    refine wq_put_ok (wq_putOK h0 hts ki_M ka_M kb_M kn_M hown hK (ci := 9) rfl 33 (Nat.le_of_ble_eq_true rfl) kw_1015 rfl (Or.inr ⟨rfl, hnm, rfl⟩) (wq_okA _)) kd_M_init_233 ?_
    refine wq_aload_n_ok h0 kd_M_init_236 rfl ?_
    refine wq_bipush_ok h0 kd_M_init_237 (by decide +kernel) ?_
    refine wq_newa_ok (atype := .boolean) h0 hK hA hAg (hts _ kw_86) rfl (Or.inr (Or.inr ⟨rfl, rfl⟩)) kd_M_init_239 ?_
    refine wq_put_ok (wq_putOK h0 hts ki_M ka_M kb_M kn_M hown hK (ci := 9) rfl 34 (Nat.le_of_ble_eq_true rfl) kw_1016 rfl (Or.inr ⟨rfl, hnm, rfl⟩) (wq_okA _)) kd_M_init_241 ?_
    refine wq_aload_n_ok h0 kd_M_init_244 rfl ?_
    refine wq_bipush_ok h0 kd_M_init_245 (by decide +kernel) ?_
    refine wq_newa_ok (atype := .int) h0 hK hA hAg (hts _ kw_85) rfl (Or.inl ⟨rfl, rfl⟩) kd_M_init_247 ?_
    refine wq_put_ok (wq_putOK h0 hts ki_M ka_M kb_M kn_M hown hK (ci := 9) rfl 36 (Nat.le_of_ble_eq_true rfl) kw_1018 rfl (Or.inr ⟨rfl, hnm, rfl⟩) (wq_okA _)) kd_M_init_249 ?_
    refine wq_aload_n_ok h0 kd_M_init_252 rfl ?_
    refine wq_bipush_ok h0 kd_M_init_253 (by decide +kernel) ?_
    refine wq_newa_ok (atype := .int) h0 hK hA hAg (hts _ kw_85) rfl (Or.inl ⟨rfl, rfl⟩) kd_M_init_255 ?_
    refine wq_put_ok (wq_putOK h0 hts ki_M ka_M kb_M kn_M hown hK (ci := 9) rfl 37 (Nat.le_of_ble_eq_true rfl) kw_1019 rfl (Or.inr ⟨rfl, hnm, rfl⟩) (wq_okA _)) kd_M_init_257 ?_
    refine wq_aload_n_ok h0 kd_M_init_260 rfl ?_
    refine wq_bipush_ok h0 kd_M_init_261 (by decide +kernel) ?_
    refine wq_newa_ok (atype := .int) h0 hK hA hAg (hts _ kw_85) rfl (Or.inl ⟨rfl, rfl⟩) kd_M_init_263 ?_
    refine wq_put_ok (wq_putOK h0 hts ki_M ka_M kb_M kn_M hown hK (ci := 9) rfl 38 (Nat.le_of_ble_eq_true rfl) kw_1020 rfl (Or.inr ⟨rfl, hnm, rfl⟩) (wq_okA _)) kd_M_init_265 ?_
    refine wq_aload_n_ok h0 kd_M_init_268 rfl ?_
    refine wq_bipush_ok h0 kd_M_init_269 (by decide +kernel) ?_
    refine wq_newa_ok (atype := .int) h0 hK hA hAg (hts _ kw_85) rfl (Or.inl ⟨rfl, rfl⟩) kd_M_init_271 ?_
    refine wq_put_ok (wq_putOK h0 hts ki_M ka_M kb_M kn_M hown hK (ci := 9) rfl 39 (Nat.le_of_ble_eq_true rfl) kw_1021 rfl (Or.inr ⟨rfl, hnm, rfl⟩) (wq_okA _)) kd_M_init_273 ?_
    refine wq_aload_n_ok h0 kd_M_init_276 rfl ?_
    refine wq_bipush_ok h0 kd_M_init_277 (by decide +kernel) ?_
    refine wq_newa_ok (atype := .boolean) h0 hK hA hAg (hts _ kw_86) rfl (Or.inr (Or.inr ⟨rfl, rfl⟩)) kd_M_init_279 ?_
    refine wq_put_ok (wq_putOK h0 hts ki_M ka_M kb_M kn_M hown hK (ci := 9) rfl 40 (Nat.le_of_ble_eq_true rfl) kw_1022 rfl (Or.inr ⟨rfl, hnm, rfl⟩) (wq_okA _)) kd_M_init_281 ?_
    refine wq_aload_n_ok h0 kd_M_init_284 rfl ?_
    refine wq_iconst_ok h0 kd_M_init_285 (by decide +kernel) ?_
    refine wq_put_ok (wq_putOK h0 hts ki_M ka_M kb_M kn_M hown hK (ci := 9) rfl 41 (Nat.le_of_ble_eq_true rfl) kw_1023 rfl (Or.inl rfl) wq_okI) kd_M_init_286 ?_
    refine wq_aload_n_ok h0 kd_M_init_289 rfl ?_
    refine wq_bipush_ok h0 kd_M_init_290 (by decide +kernel) ?_
    refine wq_newa_ok (atype := .int) h0 hK hA hAg (hts _ kw_85) rfl (Or.inl ⟨rfl, rfl⟩) kd_M_init_292 ?_
    refine wq_put_ok (wq_putOK h0 hts ki_M ka_M kb_M kn_M hown hK (ci := 9) rfl 42 (Nat.le_of_ble_eq_true rfl) kw_1024 rfl (Or.inr ⟨rfl, hnm, rfl⟩) (wq_okA _)) kd_M_init_294 ?_
    refine wq_aload_n_ok h0 kd_M_init_297 rfl ?_
    refine wq_bipush_ok h0 kd_M_init_298 (by decide +kernel) ?_
    refine wq_newa_ok (atype := .int) h0 hK hA hAg (hts _ kw_85) rfl (Or.inl ⟨rfl, rfl⟩) kd_M_init_300 ?_
    refine wq_put_ok (wq_putOK h0 hts ki_M ka_M kb_M kn_M hown hK (ci := 9) rfl 43 (Nat.le_of_ble_eq_true rfl) kw_1025 rfl (Or.inr ⟨rfl, hnm, rfl⟩) (wq_okA _)) kd_M_init_302 ?_
    refine wq_aload_n_ok h0 kd_M_init_305 rfl ?_
    refine wq_bipush_ok h0 kd_M_init_306 (by decide +kernel) ?_
    refine wq_newa_ok (atype := .boolean) h0 hK hA hAg (hts _ kw_86) rfl (Or.inr (Or.inr ⟨rfl, rfl⟩)) kd_M_init_308 ?_
    refine wq_put_ok (wq_putOK h0 hts ki_M ka_M kb_M kn_M hown hK (ci := 9) rfl 44 (Nat.le_of_ble_eq_true rfl) kw_1026 rfl (Or.inr ⟨rfl, hnm, rfl⟩) (wq_okA _)) kd_M_init_310 ?_
    refine wq_aload_n_ok h0 kd_M_init_313 rfl ?_
    refine wq_sipush_ok h0 kd_M_init_314 (by decide +kernel) ?_
    refine wq_newa_ok (atype := .int) h0 hK hA hAg (hts _ kw_85) rfl (Or.inl ⟨rfl, rfl⟩) kd_M_init_317 ?_
    refine wq_put_ok (wq_putOK h0 hts ki_M ka_M kb_M kn_M hown hK (ci := 9) rfl 45 (Nat.le_of_ble_eq_true rfl) kw_1027 rfl (Or.inr ⟨rfl, hnm, rfl⟩) (wq_okA _)) kd_M_init_319 ?_
    refine wq_aload_n_ok h0 kd_M_init_322 rfl ?_
    refine wq_bipush_ok h0 kd_M_init_323 (by decide +kernel) ?_
    refine wq_newa_ok (atype := .long) h0 hK hA hAg (hts _ kw_265) rfl (Or.inr (Or.inl ⟨rfl, rfl⟩)) kd_M_init_325 ?_
    refine wq_put_ok (wq_putOK h0 hts ki_M ka_M kb_M kn_M hown hK (ci := 9) rfl 46 (Nat.le_of_ble_eq_true rfl) kw_1028 rfl (Or.inr ⟨rfl, hnm, rfl⟩) (wq_okA _)) kd_M_init_327 ?_
    refine wq_aload_n_ok h0 kd_M_init_330 rfl ?_
    refine wq_iconst_ok h0 kd_M_init_331 (by decide +kernel) ?_
    refine wq_newa_ok (atype := .long) h0 hK hA hAg (hts _ kw_265) rfl (Or.inr (Or.inl ⟨rfl, rfl⟩)) kd_M_init_332 ?_
    refine wq_put_ok (wq_putOK h0 hts ki_M ka_M kb_M kn_M hown hK (ci := 9) rfl 47 (Nat.le_of_ble_eq_true rfl) kw_1029 rfl (Or.inr ⟨rfl, hnm, rfl⟩) (wq_okA _)) kd_M_init_334 ?_
    refine wq_aload_n_ok h0 kd_M_init_337 rfl ?_
    refine wq_bipush_ok h0 kd_M_init_338 (by decide +kernel) ?_
    refine wq_newa_ok (atype := .int) h0 hK hA hAg (hts _ kw_85) rfl (Or.inl ⟨rfl, rfl⟩) kd_M_init_340 ?_
    refine wq_put_ok (wq_putOK h0 hts ki_M ka_M kb_M kn_M hown hK (ci := 9) rfl 48 (Nat.le_of_ble_eq_true rfl) kw_1030 rfl (Or.inr ⟨rfl, hnm, rfl⟩) (wq_okA _)) kd_M_init_342 ?_
    refine wq_aload_n_ok h0 kd_M_init_345 rfl ?_
    refine wq_bipush_ok h0 kd_M_init_346 (by decide +kernel) ?_
    refine wq_newa_ok (atype := .int) h0 hK hA hAg (hts _ kw_85) rfl (Or.inl ⟨rfl, rfl⟩) kd_M_init_348 ?_
    refine wq_put_ok (wq_putOK h0 hts ki_M ka_M kb_M kn_M hown hK (ci := 9) rfl 49 (Nat.le_of_ble_eq_true rfl) kw_1031 rfl (Or.inr ⟨rfl, hnm, rfl⟩) (wq_okA _)) kd_M_init_350 ?_
    refine wq_aload_n_ok h0 kd_M_init_353 rfl ?_
    refine wq_bipush_ok h0 kd_M_init_354 (by decide +kernel) ?_
    refine wq_newa_ok (atype := .int) h0 hK hA hAg (hts _ kw_85) rfl (Or.inl ⟨rfl, rfl⟩) kd_M_init_356 ?_
    refine wq_put_ok (wq_putOK h0 hts ki_M ka_M kb_M kn_M hown hK (ci := 9) rfl 50 (Nat.le_of_ble_eq_true rfl) kw_1032 rfl (Or.inr ⟨rfl, hnm, rfl⟩) (wq_okA _)) kd_M_init_358 ?_
    refine wq_aload_n_ok h0 kd_M_init_361 rfl ?_
    refine wq_bipush_ok h0 kd_M_init_362 (by decide +kernel) ?_
    refine wq_newa_ok (atype := .long) h0 hK hA hAg (hts _ kw_265) rfl (Or.inr (Or.inl ⟨rfl, rfl⟩)) kd_M_init_364 ?_
    refine wq_put_ok (wq_putOK h0 hts ki_M ka_M kb_M kn_M hown hK (ci := 9) rfl 51 (Nat.le_of_ble_eq_true rfl) kw_1033 rfl (Or.inr ⟨rfl, hnm, rfl⟩) (wq_okA _)) kd_M_init_366 ?_
    refine wq_aload_n_ok h0 kd_M_init_369 rfl ?_
    refine wq_iconst_ok h0 kd_M_init_370 (by decide +kernel) ?_
    refine wq_newa_ok (atype := .int) h0 hK hA hAg (hts _ kw_85) rfl (Or.inl ⟨rfl, rfl⟩) kd_M_init_371 ?_
    refine wq_put_ok (wq_putOK h0 hts ki_M ka_M kb_M kn_M hown hK (ci := 9) rfl 52 (Nat.le_of_ble_eq_true rfl) kw_1034 rfl (Or.inr ⟨rfl, hnm, rfl⟩) (wq_okA _)) kd_M_init_373 ?_
    refine wq_aload_n_ok h0 kd_M_init_376 rfl ?_
    refine wq_iconst_ok h0 kd_M_init_377 (by decide +kernel) ?_
    refine wq_newa_ok (atype := .int) h0 hK hA hAg (hts _ kw_85) rfl (Or.inl ⟨rfl, rfl⟩) kd_M_init_378 ?_
    refine wq_put_ok (wq_putOK h0 hts ki_M ka_M kb_M kn_M hown hK (ci := 9) rfl 53 (Nat.le_of_ble_eq_true rfl) kw_1035 rfl (Or.inr ⟨rfl, hnm, rfl⟩) (wq_okA _)) kd_M_init_380 ?_
    refine wq_aload_n_ok h0 kd_M_init_383 rfl ?_
    refine wq_iconst_ok h0 kd_M_init_384 (by decide +kernel) ?_
    refine wq_newa_ok (atype := .int) h0 hK hA hAg (hts _ kw_85) rfl (Or.inl ⟨rfl, rfl⟩) kd_M_init_385 ?_
    refine wq_put_ok (wq_putOK h0 hts ki_M ka_M kb_M kn_M hown hK (ci := 9) rfl 54 (Nat.le_of_ble_eq_true rfl) kw_1036 rfl (Or.inr ⟨rfl, hnm, rfl⟩) (wq_okA _)) kd_M_init_387 ?_
    refine wq_aload_n_ok h0 kd_M_init_390 rfl ?_
    refine wq_iconst_ok h0 kd_M_init_391 (by decide +kernel) ?_
    refine wq_newa_ok (atype := .long) h0 hK hA hAg (hts _ kw_265) rfl (Or.inr (Or.inl ⟨rfl, rfl⟩)) kd_M_init_392 ?_
    refine wq_put_ok (wq_putOK h0 hts ki_M ka_M kb_M kn_M hown hK (ci := 9) rfl 55 (Nat.le_of_ble_eq_true rfl) kw_1037 rfl (Or.inr ⟨rfl, hnm, rfl⟩) (wq_okA _)) kd_M_init_394 ?_
    refine wq_aload_n_ok h0 kd_M_init_397 rfl ?_
    refine wq_bipush_ok h0 kd_M_init_398 (by decide +kernel) ?_
    refine wq_newa_ok (atype := .int) h0 hK hA hAg (hts _ kw_85) rfl (Or.inl ⟨rfl, rfl⟩) kd_M_init_400 ?_
    refine wq_put_ok (wq_putOK h0 hts ki_M ka_M kb_M kn_M hown hK (ci := 9) rfl 57 (Nat.le_of_ble_eq_true rfl) kw_1039 rfl (Or.inr ⟨rfl, hnm, rfl⟩) (wq_okA _)) kd_M_init_402 ?_
    refine wq_aload_n_ok h0 kd_M_init_405 rfl ?_
    refine wq_bipush_ok h0 kd_M_init_406 (by decide +kernel) ?_
    refine wq_newa_ok (atype := .int) h0 hK hA hAg (hts _ kw_85) rfl (Or.inl ⟨rfl, rfl⟩) kd_M_init_408 ?_
    refine wq_put_ok (wq_putOK h0 hts ki_M ka_M kb_M kn_M hown hK (ci := 9) rfl 58 (Nat.le_of_ble_eq_true rfl) kw_1040 rfl (Or.inr ⟨rfl, hnm, rfl⟩) (wq_okA _)) kd_M_init_410 ?_
    refine wq_aload_n_ok h0 kd_M_init_413 rfl ?_
    refine wq_bipush_ok h0 kd_M_init_414 (by decide +kernel) ?_
    refine wq_newa_ok (atype := .int) h0 hK hA hAg (hts _ kw_85) rfl (Or.inl ⟨rfl, rfl⟩) kd_M_init_416 ?_
    refine wq_put_ok (wq_putOK h0 hts ki_M ka_M kb_M kn_M hown hK (ci := 9) rfl 59 (Nat.le_of_ble_eq_true rfl) kw_1041 rfl (Or.inr ⟨rfl, hnm, rfl⟩) (wq_okA _)) kd_M_init_418 ?_
    refine wq_aload_n_ok h0 kd_M_init_421 rfl ?_
    refine wq_bipush_ok h0 kd_M_init_422 (by decide +kernel) ?_
    refine wq_newa_ok (atype := .long) h0 hK hA hAg (hts _ kw_265) rfl (Or.inr (Or.inl ⟨rfl, rfl⟩)) kd_M_init_424 ?_
    refine wq_put_ok (wq_putOK h0 hts ki_M ka_M kb_M kn_M hown hK (ci := 9) rfl 60 (Nat.le_of_ble_eq_true rfl) kw_1042 rfl (Or.inr ⟨rfl, hnm, rfl⟩) (wq_okA _)) kd_M_init_426 ?_
    refine wq_aload_n_ok h0 kd_M_init_429 rfl ?_
    refine wq_bipush_ok h0 kd_M_init_430 (by decide +kernel) ?_
    refine wq_newa_ok (atype := .boolean) h0 hK hA hAg (hts _ kw_86) rfl (Or.inr (Or.inr ⟨rfl, rfl⟩)) kd_M_init_432 ?_
    refine wq_put_ok (wq_putOK h0 hts ki_M ka_M kb_M kn_M hown hK (ci := 9) rfl 61 (Nat.le_of_ble_eq_true rfl) kw_1043 rfl (Or.inr ⟨rfl, hnm, rfl⟩) (wq_okA _)) kd_M_init_434 ?_
    refine wq_aload_n_ok h0 kd_M_init_437 rfl ?_
    refine wq_bipush_ok h0 kd_M_init_438 (by decide +kernel) ?_
    refine wq_newa_ok (atype := .boolean) h0 hK hA hAg (hts _ kw_86) rfl (Or.inr (Or.inr ⟨rfl, rfl⟩)) kd_M_init_440 ?_
    refine wq_put_ok (wq_putOK h0 hts ki_M ka_M kb_M kn_M hown hK (ci := 9) rfl 62 (Nat.le_of_ble_eq_true rfl) kw_1044 rfl (Or.inr ⟨rfl, hnm, rfl⟩) (wq_okA _)) kd_M_init_442 ?_
    refine wq_aload_n_ok h0 kd_M_init_445 rfl ?_
    refine wq_bipush_ok h0 kd_M_init_446 (by decide +kernel) ?_
    refine wq_newa_ok (atype := .int) h0 hK hA hAg (hts _ kw_85) rfl (Or.inl ⟨rfl, rfl⟩) kd_M_init_448 ?_
    refine wq_put_ok (wq_putOK h0 hts ki_M ka_M kb_M kn_M hown hK (ci := 9) rfl 63 (Nat.le_of_ble_eq_true rfl) kw_1045 rfl (Or.inr ⟨rfl, hnm, rfl⟩) (wq_okA _)) kd_M_init_450 ?_
    refine wq_aload_n_ok h0 kd_M_init_453 rfl ?_
    refine wq_bipush_ok h0 kd_M_init_454 (by decide +kernel) ?_
    refine wq_newa_ok (atype := .int) h0 hK hA hAg (hts _ kw_85) rfl (Or.inl ⟨rfl, rfl⟩) kd_M_init_456 ?_
    refine wq_put_ok (wq_putOK h0 hts ki_M ka_M kb_M kn_M hown hK (ci := 9) rfl 64 (Nat.le_of_ble_eq_true rfl) kw_1046 rfl (Or.inr ⟨rfl, hnm, rfl⟩) (wq_okA _)) kd_M_init_458 ?_
    refine wq_aload_n_ok h0 kd_M_init_461 rfl ?_
    refine wq_bipush_ok h0 kd_M_init_462 (by decide +kernel) ?_
    refine wq_newa_ok (atype := .int) h0 hK hA hAg (hts _ kw_85) rfl (Or.inl ⟨rfl, rfl⟩) kd_M_init_464 ?_
    refine wq_put_ok (wq_putOK h0 hts ki_M ka_M kb_M kn_M hown hK (ci := 9) rfl 65 (Nat.le_of_ble_eq_true rfl) kw_1047 rfl (Or.inr ⟨rfl, hnm, rfl⟩) (wq_okA _)) kd_M_init_466 ?_
    exact wq_vreturn_ok h0 hr hlk kd_M_init_469
  exact hb_0 _ _ _ _ _ (wq_spA_t hsp)
