set_option maxRecDepth 100000 in
set_option maxHeartbeats 4000000 in
theorem kv_W_heading {l : Launch} (hl : l.stackTraces = false) : wq_Vld l kz_cl ky_W_heading kw_T ({ frames := 8, cells := 3, slots := 18, locals := 122 }) wq_G0 ks_W_heading 3 18 := by
  refine wq_methodH (cc := kc_W_heading) (maxL := 4) (ret := (some .int)) (hh := [((0 : Nat), (9 : Nat), (12 : Nat), (13 : Nat)), ((0 : Nat), (9 : Nat), (15 : Nat), (15 : Nat))]) (by decide) kw_397 (fun _ _ => rfl) wq_sp_sz ?_
  intro p e s m args below meth c cs D ad as w rt xt hF htab hsp
  obtain ⟨h0, hr, hts, hown, hlk, hnm, hml, hK, hZ, hN, hA⟩ := hF
  have hown : s.vm.findClass "BorderDeskLaw" = some m.cls := hown
  obtain ⟨A, hAe⟩ : ∃ A, A = wq_A ad w s.heap.size := ⟨_, rfl⟩
  rw [← hAe] at hZ hA ⊢
  have hb_13 : wq_Snd p l e ({ frames := 8, cells := 3, slots := 18, locals := 122 } : Room) s m args below meth c 4 cs D kz_cl A (wq_G0 ad w) (wq_Q cs D kz_cl A (wq_G0 ad w) rt xt below s 3 18) 13 (kt_W_heading_13 rt xt) := by
    refine wq_iconst_ok h0 kd_W_heading_13 (by decide +kernel) ?_
    exact wq_ireturn_ok h0 hr hlk kd_W_heading_14
  have hb_16 : wq_Snd p l e ({ frames := 8, cells := 3, slots := 18, locals := 122 } : Room) s m args below meth c 4 cs D kz_cl A (wq_G0 ad w) (wq_Q cs D kz_cl A (wq_G0 ad w) rt xt below s 3 18) 16 (kt_W_heading_16 rt xt) := by
    refine wq_iconst_ok h0 kd_W_heading_16 (by decide +kernel) ?_
    exact wq_ireturn_ok h0 hr hlk kd_W_heading_17
  have hb_18 : wq_Snd p l e ({ frames := 8, cells := 3, slots := 18, locals := 122 } : Room) s m args below meth c 4 cs D kz_cl A (wq_G0 ad w) (wq_Q cs D kz_cl A (wq_G0 ad w) rt xt below s 3 18) 18 (kt_W_heading_18 rt xt) := by
    refine wq_iconst_ok h0 kd_W_heading_18 (by decide +kernel) ?_
    exact wq_ireturn_ok h0 hr hlk kd_W_heading_19
  have hb_0 : wq_Snd p l e ({ frames := 8, cells := 3, slots := 18, locals := 122 } : Room) s m args below meth c 4 cs D kz_cl A (wq_G0 ad w) (wq_Q cs D kz_cl A (wq_G0 ad w) rt xt below s 3 18) 0 (kt_W_heading_0 rt xt) := by
    refine wq_aload_n_ok h0 kd_W_heading_0 rfl ?_
    refine wq_iconst_ok h0 kd_W_heading_1 (by decide +kernel) ?_
    refine wq_aload_n_ok h0 kd_W_heading_2 rfl ?_
    refine wq_iload_n_ok h0 kd_W_heading_3 rfl ?_
    refine wq_call_ok hA (wq_runV (ci := 0) ⟨h0.1, h0.2, hml, hown, hts⟩ (kv_B_heading hl) ⟨(wq_cB hts kw_G kw_403 kw_1 kw_400 ⟨by decide +kernel, by decide +kernel, by decide +kernel⟩ rfl rfl ⟨Nat.le_of_ble_eq_true rfl, Nat.le_of_ble_eq_true rfl⟩), hts _ kw_401, hts _ kw_402⟩ rfl rfl hK hZ hN hA kd_W_heading_4) (fun L E w n1 n2 hx9 => wq_xh_ok hown hN h0 [(0, 3, (kt_W_heading_13 rt xt)), (1, 3, (kt_W_heading_16 rt xt))] [] (tableOf [((0 : Nat), (9 : Nat), (12 : Nat), (13 : Nat)), ((0 : Nat), (9 : Nat), (15 : Nat), (15 : Nat))]) htab (Nat.le_of_ble_eq_true rfl) (fun i q x h1 h2 => match i, h1, h2 with | 0, h1, h2 => by cases h1; cases h2; exact ⟨Nat.le_of_ble_eq_true rfl, by decide +kernel, by decide, hts _ kw_398, va_any rfl (hN.2.1 _ (List.mem_of_getElem? (i := 0) rfl)), Or.inr ⟨3, rfl, kd_W_heading_12⟩, Nat.le_of_ble_eq_true rfl, fun len ⟨ig, hig⟩ => by cases hig.symm.trans kd_W_heading_12; exact hb_13⟩ | 1, h1, h2 => by cases h1; cases h2; exact ⟨Nat.le_of_ble_eq_true rfl, by decide +kernel, by decide, hts _ kw_399, va_any rfl (hN.2.1 _ (List.mem_of_getElem? (i := 1) rfl)), Or.inr ⟨3, rfl, kd_W_heading_15⟩, Nat.le_of_ble_eq_true rfl, fun len ⟨ig, hig⟩ => by cases hig.symm.trans kd_W_heading_15; exact hb_16⟩ | n + 2, h1, h2 => by cases h1) E (fun z hz => absurd hz List.not_mem_nil) L w n1 n2 hx9) ?_
    refine wq_i2l_ok h0 kd_W_heading_7 ?_
    refine wq_last_ok h0 hK kd_W_heading_8 ?_
    refine wq_goto_ok (tgt := 18) h0 kd_W_heading_9 (by decide) ?_
    exact hb_18
  exact hb_0 _ _ _ _ _ (wq_sp_t hsp)
set_option maxRecDepth 100000 in
set_option maxHeartbeats 4000000 in
theorem kv_W_note {l : Launch} (hl : l.stackTraces = false) : wq_Vld l kz_cl ky_W_note kw_T ({ frames := 8, cells := 5, slots := 30, locals := 125 }) wq_G0 ks_W_note 5 30 := by
  refine wq_methodH (cc := kc_W_note) (maxL := 7) (ret := (some .int)) (hh := [((0 : Nat), (14 : Nat), (17 : Nat), (13 : Nat)), ((0 : Nat), (14 : Nat), (21 : Nat), (15 : Nat))]) (by decide) kw_507 (fun _ _ => rfl) wq_sp_sz ?_
  intro p e s m args below meth c cs D ad as w rt xt hF htab hsp
  obtain ⟨h0, hr, hts, hown, hlk, hnm, hml, hK, hZ, hN, hA⟩ := hF
  have hown : s.vm.findClass "BorderDeskLaw" = some m.cls := hown
  obtain ⟨A, hAe⟩ : ∃ A, A = wq_A ad w s.heap.size := ⟨_, rfl⟩
  rw [← hAe] at hZ hA ⊢
  have hb_19 : wq_Snd p l e ({ frames := 8, cells := 5, slots := 30, locals := 125 } : Room) s m args below meth c 7 cs D kz_cl A (wq_G0 ad w) (wq_Q cs D kz_cl A (wq_G0 ad w) rt xt below s 5 30) 19 (kt_W_note_19 rt xt) := by
    refine wq_iconst_ok h0 kd_W_note_19 (by decide +kernel) ?_
    exact wq_ireturn_ok h0 hr hlk kd_W_note_20
  have hb_23 : wq_Snd p l e ({ frames := 8, cells := 5, slots := 30, locals := 125 } : Room) s m args below meth c 7 cs D kz_cl A (wq_G0 ad w) (wq_Q cs D kz_cl A (wq_G0 ad w) rt xt below s 5 30) 23 (kt_W_note_23 rt xt) := by
    refine wq_iconst_ok h0 kd_W_note_23 (by decide +kernel) ?_
    exact wq_ireturn_ok h0 hr hlk kd_W_note_24
  have hb_25 : wq_Snd p l e ({ frames := 8, cells := 5, slots := 30, locals := 125 } : Room) s m args below meth c 7 cs D kz_cl A (wq_G0 ad w) (wq_Q cs D kz_cl A (wq_G0 ad w) rt xt below s 5 30) 25 (kt_W_note_25 rt xt) := by
    refine wq_iconst_ok h0 kd_W_note_25 (by decide +kernel) ?_
    exact wq_ireturn_ok h0 hr hlk kd_W_note_26
  have hb_0 : wq_Snd p l e ({ frames := 8, cells := 5, slots := 30, locals := 125 } : Room) s m args below meth c 7 cs D kz_cl A (wq_G0 ad w) (wq_Q cs D kz_cl A (wq_G0 ad w) rt xt below s 5 30) 0 (kt_W_note_0 rt xt) := by
    refine wq_aload_ok h0 kd_W_note_0 ?_
    refine wq_iconst_ok h0 kd_W_note_2 (by decide +kernel) ?_
    refine wq_aload_n_ok h0 kd_W_note_3 rfl ?_
    refine wq_iload_n_ok h0 kd_W_note_4 rfl ?_
    refine wq_iload_n_ok h0 kd_W_note_5 rfl ?_
    refine wq_iload_n_ok h0 kd_W_note_6 rfl ?_
    refine wq_iload_ok h0 kd_W_note_7 ?_
    refine wq_call_ok hA (wq_runV (ci := 0) ⟨h0.1, h0.2, hml, hown, hts⟩ (kv_B_note hl) ⟨(wq_cB hts kw_G kw_511 kw_1 kw_508 ⟨by decide +kernel, by decide +kernel, by decide +kernel⟩ rfl rfl ⟨Nat.le_of_ble_eq_true rfl, Nat.le_of_ble_eq_true rfl⟩), hts _ kw_509, hts _ kw_510⟩ rfl rfl hK hZ hN hA kd_W_note_9) (fun L E w n1 n2 hx9 => wq_xh_ok hown hN h0 [(0, 6, (kt_W_note_19 rt xt)), (1, 6, (kt_W_note_23 rt xt))] [] (tableOf [((0 : Nat), (14 : Nat), (17 : Nat), (13 : Nat)), ((0 : Nat), (14 : Nat), (21 : Nat), (15 : Nat))]) htab (Nat.le_of_ble_eq_true rfl) (fun i q x h1 h2 => match i, h1, h2 with | 0, h1, h2 => by cases h1; cases h2; exact ⟨Nat.le_of_ble_eq_true rfl, by decide +kernel, by decide, hts _ kw_398, va_any rfl (hN.2.1 _ (List.mem_of_getElem? (i := 0) rfl)), Or.inl kd_W_note_17, Nat.le_of_ble_eq_true rfl, fun len ⟨ig, hig⟩ => by cases hig.symm.trans kd_W_note_17; exact hb_19⟩ | 1, h1, h2 => by cases h1; cases h2; exact ⟨Nat.le_of_ble_eq_true rfl, by decide +kernel, by decide, hts _ kw_399, va_any rfl (hN.2.1 _ (List.mem_of_getElem? (i := 1) rfl)), Or.inl kd_W_note_21, Nat.le_of_ble_eq_true rfl, fun len ⟨ig, hig⟩ => by cases hig.symm.trans kd_W_note_21; exact hb_23⟩ | n + 2, h1, h2 => by cases h1) E (fun z hz => absurd hz List.not_mem_nil) L w n1 n2 hx9) ?_
    refine wq_i2l_ok h0 kd_W_note_12 ?_
    refine wq_last_ok h0 hK kd_W_note_13 ?_
    refine wq_goto_ok (tgt := 25) h0 kd_W_note_14 (by decide) ?_
    exact hb_25
  exact hb_0 _ _ _ _ _ (wq_sp_t hsp)
set_option maxRecDepth 100000 in
set_option maxHeartbeats 4000000 in
theorem kv_W_fact {l : Launch} (hl : l.stackTraces = false) : wq_Vld l kz_cl ky_W_fact kw_T ({ frames := 8, cells := 2, slots := 12, locals := 125 }) wq_G0 ks_W_fact 2 12 := by
  refine wq_methodH (cc := kc_W_fact) (maxL := 6) (ret := (some .int)) (hh := [((0 : Nat), (12 : Nat), (15 : Nat), (13 : Nat))]) (by decide) kw_524 (fun _ _ => rfl) wq_sp_sz ?_
  intro p e s m args below meth c cs D ad as w rt xt hF htab hsp
  obtain ⟨h0, hr, hts, hown, hlk, hnm, hml, hK, hZ, hN, hA⟩ := hF
  have hown : s.vm.findClass "BorderDeskLaw" = some m.cls := hown
  obtain ⟨A, hAe⟩ : ∃ A, A = wq_A ad w s.heap.size := ⟨_, rfl⟩
  rw [← hAe] at hZ hA ⊢
  have hb_17 : wq_Snd p l e ({ frames := 8, cells := 2, slots := 12, locals := 125 } : Room) s m args below meth c 6 cs D kz_cl A (wq_G0 ad w) (wq_Q cs D kz_cl A (wq_G0 ad w) rt xt below s 2 12) 17 (kt_W_fact_17 rt xt) := by
    refine wq_iconst_ok h0 kd_W_fact_17 (by decide +kernel) ?_
    exact wq_ireturn_ok h0 hr hlk kd_W_fact_18
  have hb_19 : wq_Snd p l e ({ frames := 8, cells := 2, slots := 12, locals := 125 } : Room) s m args below meth c 6 cs D kz_cl A (wq_G0 ad w) (wq_Q cs D kz_cl A (wq_G0 ad w) rt xt below s 2 12) 19 (kt_W_fact_19 rt xt) := by
    refine wq_iconst_ok h0 kd_W_fact_19 (by decide +kernel) ?_
    exact wq_ireturn_ok h0 hr hlk kd_W_fact_20
  have hb_0 : wq_Snd p l e ({ frames := 8, cells := 2, slots := 12, locals := 125 } : Room) s m args below meth c 6 cs D kz_cl A (wq_G0 ad w) (wq_Q cs D kz_cl A (wq_G0 ad w) rt xt below s 2 12) 0 (kt_W_fact_0 rt xt) := by
    refine wq_aload_ok h0 kd_W_fact_0 ?_
    refine wq_iconst_ok h0 kd_W_fact_2 (by decide +kernel) ?_
    refine wq_aload_n_ok h0 kd_W_fact_3 rfl ?_
    refine wq_iload_n_ok h0 kd_W_fact_4 rfl ?_
    refine wq_iload_n_ok h0 kd_W_fact_5 rfl ?_
    refine wq_iload_n_ok h0 kd_W_fact_6 rfl ?_
    refine wq_call_ok hA (wq_runV (ci := 0) ⟨h0.1, h0.2, hml, hown, hts⟩ (kv_B_fact hl) ⟨(wq_cB hts kw_G kw_528 kw_1 kw_525 ⟨by decide +kernel, by decide +kernel, by decide +kernel⟩ rfl rfl ⟨Nat.le_of_ble_eq_true rfl, Nat.le_of_ble_eq_true rfl⟩), hts _ kw_526, hts _ kw_527⟩ rfl rfl hK hZ hN hA kd_W_fact_7) (fun L E w n1 n2 hx9 => wq_xh_ok hown hN h0 [(0, 5, (kt_W_fact_17 rt xt))] [] (tableOf [((0 : Nat), (12 : Nat), (15 : Nat), (13 : Nat))]) htab (Nat.le_of_ble_eq_true rfl) (fun i q x h1 h2 => match i, h1, h2 with | 0, h1, h2 => by cases h1; cases h2; exact ⟨Nat.le_of_ble_eq_true rfl, by decide +kernel, by decide, hts _ kw_398, va_any rfl (hN.2.1 _ (List.mem_of_getElem? (i := 0) rfl)), Or.inl kd_W_fact_15, Nat.le_of_ble_eq_true rfl, fun len ⟨ig, hig⟩ => by cases hig.symm.trans kd_W_fact_15; exact hb_17⟩ | n + 1, h1, h2 => by cases h1) E (fun z hz => absurd hz List.not_mem_nil) L w n1 n2 hx9) ?_
    refine wq_i2l_ok h0 kd_W_fact_10 ?_
    refine wq_last_ok h0 hK kd_W_fact_11 ?_
    refine wq_goto_ok (tgt := 19) h0 kd_W_fact_12 (by decide) ?_
    exact hb_19
  exact hb_0 _ _ _ _ _ (wq_sp_t hsp)
set_option maxRecDepth 100000 in
set_option maxHeartbeats 4000000 in
theorem kv_W_classify {l : Launch} (hl : l.stackTraces = false) : wq_Vld l kz_cl ky_W_classify kw_T ({ frames := 8, cells := 1, slots := 6, locals := 122 }) wq_G0 ks_W_classify 1 6 := by
  refine wq_methodH (cc := kc_W_classify) (maxL := 4) (ret := (some .int)) (hh := [((0 : Nat), (9 : Nat), (12 : Nat), (13 : Nat))]) (by decide) kw_534 (fun _ _ => rfl) wq_sp_sz ?_
  intro p e s m args below meth c cs D ad as w rt xt hF htab hsp
  obtain ⟨h0, hr, hts, hown, hlk, hnm, hml, hK, hZ, hN, hA⟩ := hF
  have hown : s.vm.findClass "BorderDeskLaw" = some m.cls := hown
  obtain ⟨A, hAe⟩ : ∃ A, A = wq_A ad w s.heap.size := ⟨_, rfl⟩
  rw [← hAe] at hZ hA ⊢
  have hb_13 : wq_Snd p l e ({ frames := 8, cells := 1, slots := 6, locals := 122 } : Room) s m args below meth c 4 cs D kz_cl A (wq_G0 ad w) (wq_Q cs D kz_cl A (wq_G0 ad w) rt xt below s 1 6) 13 (kt_W_classify_13 rt xt) := by
    refine wq_iconst_ok h0 kd_W_classify_13 (by decide +kernel) ?_
    exact wq_ireturn_ok h0 hr hlk kd_W_classify_14
  have hb_15 : wq_Snd p l e ({ frames := 8, cells := 1, slots := 6, locals := 122 } : Room) s m args below meth c 4 cs D kz_cl A (wq_G0 ad w) (wq_Q cs D kz_cl A (wq_G0 ad w) rt xt below s 1 6) 15 (kt_W_classify_15 rt xt) := by
    refine wq_iconst_ok h0 kd_W_classify_15 (by decide +kernel) ?_
    exact wq_ireturn_ok h0 hr hlk kd_W_classify_16
  have hb_0 : wq_Snd p l e ({ frames := 8, cells := 1, slots := 6, locals := 122 } : Room) s m args below meth c 4 cs D kz_cl A (wq_G0 ad w) (wq_Q cs D kz_cl A (wq_G0 ad w) rt xt below s 1 6) 0 (kt_W_classify_0 rt xt) := by
    refine wq_aload_n_ok h0 kd_W_classify_0 rfl ?_
    refine wq_iconst_ok h0 kd_W_classify_1 (by decide +kernel) ?_
    refine wq_aload_n_ok h0 kd_W_classify_2 rfl ?_
    refine wq_iload_n_ok h0 kd_W_classify_3 rfl ?_
    refine wq_call_ok hA (wq_runV (ci := 0) ⟨h0.1, h0.2, hml, hown, hts⟩ (kv_B_classify hl) ⟨(wq_cB hts kw_G kw_538 kw_1 kw_535 ⟨by decide +kernel, by decide +kernel, by decide +kernel⟩ rfl rfl ⟨Nat.le_of_ble_eq_true rfl, Nat.le_of_ble_eq_true rfl⟩), hts _ kw_536, hts _ kw_537⟩ rfl rfl hK hZ hN hA kd_W_classify_4) (fun L E w n1 n2 hx9 => wq_xh_ok hown hN h0 [(0, 3, (kt_W_classify_13 rt xt))] [] (tableOf [((0 : Nat), (9 : Nat), (12 : Nat), (13 : Nat))]) htab (Nat.le_of_ble_eq_true rfl) (fun i q x h1 h2 => match i, h1, h2 with | 0, h1, h2 => by cases h1; cases h2; exact ⟨Nat.le_of_ble_eq_true rfl, by decide +kernel, by decide, hts _ kw_398, va_any rfl (hN.2.1 _ (List.mem_of_getElem? (i := 0) rfl)), Or.inr ⟨3, rfl, kd_W_classify_12⟩, Nat.le_of_ble_eq_true rfl, fun len ⟨ig, hig⟩ => by cases hig.symm.trans kd_W_classify_12; exact hb_13⟩ | n + 1, h1, h2 => by cases h1) E (fun z hz => absurd hz List.not_mem_nil) L w n1 n2 hx9) ?_
    refine wq_i2l_ok h0 kd_W_classify_7 ?_
    refine wq_last_ok h0 hK kd_W_classify_8 ?_
    refine wq_goto_ok (tgt := 15) h0 kd_W_classify_9 (by decide) ?_
    exact hb_15
  exact hb_0 _ _ _ _ _ (wq_sp_t hsp)
set_option maxRecDepth 100000 in
set_option maxHeartbeats 4000000 in
theorem kv_W_rate {l : Launch} (hl : l.stackTraces = false) : wq_Vld l kz_cl ky_W_rate kw_T ({ frames := 8, cells := 5, slots := 30, locals := 128 }) wq_G0 ks_W_rate 5 30 := by
  refine wq_methodH (cc := kc_W_rate) (maxL := 10) (ret := (some .int)) (hh := [((0 : Nat), (20 : Nat), (23 : Nat), (13 : Nat)), ((0 : Nat), (20 : Nat), (27 : Nat), (15 : Nat))]) (by decide) kw_568 (fun _ _ => rfl) wq_sp_sz ?_
  intro p e s m args below meth c cs D ad as w rt xt hF htab hsp
  obtain ⟨h0, hr, hts, hown, hlk, hnm, hml, hK, hZ, hN, hA⟩ := hF
  have hown : s.vm.findClass "BorderDeskLaw" = some m.cls := hown
  obtain ⟨A, hAe⟩ : ∃ A, A = wq_A ad w s.heap.size := ⟨_, rfl⟩
  rw [← hAe] at hZ hA ⊢
  have hb_25 : wq_Snd p l e ({ frames := 8, cells := 5, slots := 30, locals := 128 } : Room) s m args below meth c 10 cs D kz_cl A (wq_G0 ad w) (wq_Q cs D kz_cl A (wq_G0 ad w) rt xt below s 5 30) 25 (kt_W_rate_25 rt xt) := by
    refine wq_iconst_ok h0 kd_W_rate_25 (by decide +kernel) ?_
    exact wq_ireturn_ok h0 hr hlk kd_W_rate_26
  have hb_29 : wq_Snd p l e ({ frames := 8, cells := 5, slots := 30, locals := 128 } : Room) s m args below meth c 10 cs D kz_cl A (wq_G0 ad w) (wq_Q cs D kz_cl A (wq_G0 ad w) rt xt below s 5 30) 29 (kt_W_rate_29 rt xt) := by
    refine wq_iconst_ok h0 kd_W_rate_29 (by decide +kernel) ?_
    exact wq_ireturn_ok h0 hr hlk kd_W_rate_30
  have hb_31 : wq_Snd p l e ({ frames := 8, cells := 5, slots := 30, locals := 128 } : Room) s m args below meth c 10 cs D kz_cl A (wq_G0 ad w) (wq_Q cs D kz_cl A (wq_G0 ad w) rt xt below s 5 30) 31 (kt_W_rate_31 rt xt) := by
    refine wq_iconst_ok h0 kd_W_rate_31 (by decide +kernel) ?_
    exact wq_ireturn_ok h0 hr hlk kd_W_rate_32
  have hb_0 : wq_Snd p l e ({ frames := 8, cells := 5, slots := 30, locals := 128 } : Room) s m args below meth c 10 cs D kz_cl A (wq_G0 ad w) (wq_Q cs D kz_cl A (wq_G0 ad w) rt xt below s 5 30) 0 (kt_W_rate_0 rt xt) := by
    refine wq_aload_ok h0 kd_W_rate_0 ?_
    refine wq_iconst_ok h0 kd_W_rate_2 (by decide +kernel) ?_
    refine wq_aload_n_ok h0 kd_W_rate_3 rfl ?_
    refine wq_iload_n_ok h0 kd_W_rate_4 rfl ?_
    refine wq_iload_n_ok h0 kd_W_rate_5 rfl ?_
    refine wq_iload_n_ok h0 kd_W_rate_6 rfl ?_
    refine wq_iload_ok h0 kd_W_rate_7 ?_
    refine wq_iload_ok h0 kd_W_rate_9 ?_
    refine wq_iload_ok h0 kd_W_rate_11 ?_
    refine wq_iload_ok h0 kd_W_rate_13 ?_
    refine wq_call_ok hA (wq_runV (ci := 0) ⟨h0.1, h0.2, hml, hown, hts⟩ (kv_B_rate hl) ⟨(wq_cB hts kw_G kw_572 kw_1 kw_569 ⟨by decide +kernel, by decide +kernel, by decide +kernel⟩ rfl rfl ⟨Nat.le_of_ble_eq_true rfl, Nat.le_of_ble_eq_true rfl⟩), hts _ kw_570, hts _ kw_571⟩ rfl rfl hK hZ hN hA kd_W_rate_15) (fun L E w n1 n2 hx9 => wq_xh_ok hown hN h0 [(0, 9, (kt_W_rate_25 rt xt)), (1, 9, (kt_W_rate_29 rt xt))] [] (tableOf [((0 : Nat), (20 : Nat), (23 : Nat), (13 : Nat)), ((0 : Nat), (20 : Nat), (27 : Nat), (15 : Nat))]) htab (Nat.le_of_ble_eq_true rfl) (fun i q x h1 h2 => match i, h1, h2 with | 0, h1, h2 => by cases h1; cases h2; exact ⟨Nat.le_of_ble_eq_true rfl, by decide +kernel, by decide, hts _ kw_398, va_any rfl (hN.2.1 _ (List.mem_of_getElem? (i := 0) rfl)), Or.inl kd_W_rate_23, Nat.le_of_ble_eq_true rfl, fun len ⟨ig, hig⟩ => by cases hig.symm.trans kd_W_rate_23; exact hb_25⟩ | 1, h1, h2 => by cases h1; cases h2; exact ⟨Nat.le_of_ble_eq_true rfl, by decide +kernel, by decide, hts _ kw_399, va_any rfl (hN.2.1 _ (List.mem_of_getElem? (i := 1) rfl)), Or.inl kd_W_rate_27, Nat.le_of_ble_eq_true rfl, fun len ⟨ig, hig⟩ => by cases hig.symm.trans kd_W_rate_27; exact hb_29⟩ | n + 2, h1, h2 => by cases h1) E (fun z hz => absurd hz List.not_mem_nil) L w n1 n2 hx9) ?_
    refine wq_i2l_ok h0 kd_W_rate_18 ?_
    refine wq_last_ok h0 hK kd_W_rate_19 ?_
    refine wq_goto_ok (tgt := 31) h0 kd_W_rate_20 (by decide) ?_
    exact hb_31
  exact hb_0 _ _ _ _ _ (wq_sp_t hsp)
set_option maxRecDepth 100000 in
set_option maxHeartbeats 4000000 in
theorem kv_W_rateFor {l : Launch} (hl : l.stackTraces = false) : wq_Vld l kz_cl ky_W_rateFor kw_T ({ frames := 8, cells := 1, slots := 6, locals := 124 }) wq_G0 ks_W_rateFor 1 6 := by
  refine wq_methodH (cc := kc_W_rateFor) (maxL := 6) (ret := (some .int)) (hh := [((0 : Nat), (12 : Nat), (15 : Nat), (13 : Nat))]) (by decide) kw_585 (fun _ _ => rfl) wq_sp_sz ?_
  intro p e s m args below meth c cs D ad as w rt xt hF htab hsp
  obtain ⟨h0, hr, hts, hown, hlk, hnm, hml, hK, hZ, hN, hA⟩ := hF
  have hown : s.vm.findClass "BorderDeskLaw" = some m.cls := hown
  obtain ⟨A, hAe⟩ : ∃ A, A = wq_A ad w s.heap.size := ⟨_, rfl⟩
  rw [← hAe] at hZ hA ⊢
  have hb_17 : wq_Snd p l e ({ frames := 8, cells := 1, slots := 6, locals := 124 } : Room) s m args below meth c 6 cs D kz_cl A (wq_G0 ad w) (wq_Q cs D kz_cl A (wq_G0 ad w) rt xt below s 1 6) 17 (kt_W_rateFor_17 rt xt) := by
    refine wq_iconst_ok h0 kd_W_rateFor_17 (by decide +kernel) ?_
    exact wq_ireturn_ok h0 hr hlk kd_W_rateFor_18
  have hb_19 : wq_Snd p l e ({ frames := 8, cells := 1, slots := 6, locals := 124 } : Room) s m args below meth c 6 cs D kz_cl A (wq_G0 ad w) (wq_Q cs D kz_cl A (wq_G0 ad w) rt xt below s 1 6) 19 (kt_W_rateFor_19 rt xt) := by
    refine wq_iconst_ok h0 kd_W_rateFor_19 (by decide +kernel) ?_
    exact wq_ireturn_ok h0 hr hlk kd_W_rateFor_20
  have hb_0 : wq_Snd p l e ({ frames := 8, cells := 1, slots := 6, locals := 124 } : Room) s m args below meth c 6 cs D kz_cl A (wq_G0 ad w) (wq_Q cs D kz_cl A (wq_G0 ad w) rt xt below s 1 6) 0 (kt_W_rateFor_0 rt xt) := by
    refine wq_aload_ok h0 kd_W_rateFor_0 ?_
    refine wq_iconst_ok h0 kd_W_rateFor_2 (by decide +kernel) ?_
    refine wq_aload_n_ok h0 kd_W_rateFor_3 rfl ?_
    refine wq_iload_n_ok h0 kd_W_rateFor_4 rfl ?_
    refine wq_iload_n_ok h0 kd_W_rateFor_5 rfl ?_
    refine wq_iload_n_ok h0 kd_W_rateFor_6 rfl ?_
    refine wq_call_ok hA (wq_runV (ci := 0) ⟨h0.1, h0.2, hml, hown, hts⟩ (kv_B_rateFor hl) ⟨(wq_cB hts kw_G kw_589 kw_1 kw_586 ⟨by decide +kernel, by decide +kernel, by decide +kernel⟩ rfl rfl ⟨Nat.le_of_ble_eq_true rfl, Nat.le_of_ble_eq_true rfl⟩), hts _ kw_587, hts _ kw_588⟩ rfl rfl hK hZ hN hA kd_W_rateFor_7) (fun L E w n1 n2 hx9 => wq_xh_ok hown hN h0 [(0, 5, (kt_W_rateFor_17 rt xt))] [] (tableOf [((0 : Nat), (12 : Nat), (15 : Nat), (13 : Nat))]) htab (Nat.le_of_ble_eq_true rfl) (fun i q x h1 h2 => match i, h1, h2 with | 0, h1, h2 => by cases h1; cases h2; exact ⟨Nat.le_of_ble_eq_true rfl, by decide +kernel, by decide, hts _ kw_398, va_any rfl (hN.2.1 _ (List.mem_of_getElem? (i := 0) rfl)), Or.inl kd_W_rateFor_15, Nat.le_of_ble_eq_true rfl, fun len ⟨ig, hig⟩ => by cases hig.symm.trans kd_W_rateFor_15; exact hb_17⟩ | n + 1, h1, h2 => by cases h1) E (fun z hz => absurd hz List.not_mem_nil) L w n1 n2 hx9) ?_
    refine wq_i2l_ok h0 kd_W_rateFor_10 ?_
    refine wq_last_ok h0 hK kd_W_rateFor_11 ?_
    refine wq_goto_ok (tgt := 19) h0 kd_W_rateFor_12 (by decide) ?_
    exact hb_19
  exact hb_0 _ _ _ _ _ (wq_sp_t hsp)
set_option maxRecDepth 100000 in
set_option maxHeartbeats 4000000 in
theorem kv_W_quota {l : Launch} (hl : l.stackTraces = false) : wq_Vld l kz_cl ky_W_quota kw_T ({ frames := 8, cells := 4, slots := 24, locals := 127 }) wq_G0 ks_W_quota 4 24 := by
  refine wq_methodH (cc := kc_W_quota) (maxL := 9) (ret := (some .int)) (hh := [((0 : Nat), (18 : Nat), (21 : Nat), (13 : Nat)), ((0 : Nat), (18 : Nat), (25 : Nat), (15 : Nat))]) (by decide) kw_601 (fun _ _ => rfl) wq_sp_sz ?_
  intro p e s m args below meth c cs D ad as w rt xt hF htab hsp
  obtain ⟨h0, hr, hts, hown, hlk, hnm, hml, hK, hZ, hN, hA⟩ := hF
  have hown : s.vm.findClass "BorderDeskLaw" = some m.cls := hown
  obtain ⟨A, hAe⟩ : ∃ A, A = wq_A ad w s.heap.size := ⟨_, rfl⟩
  rw [← hAe] at hZ hA ⊢
  have hb_23 : wq_Snd p l e ({ frames := 8, cells := 4, slots := 24, locals := 127 } : Room) s m args below meth c 9 cs D kz_cl A (wq_G0 ad w) (wq_Q cs D kz_cl A (wq_G0 ad w) rt xt below s 4 24) 23 (kt_W_quota_23 rt xt) := by
    refine wq_iconst_ok h0 kd_W_quota_23 (by decide +kernel) ?_
    exact wq_ireturn_ok h0 hr hlk kd_W_quota_24
  have hb_27 : wq_Snd p l e ({ frames := 8, cells := 4, slots := 24, locals := 127 } : Room) s m args below meth c 9 cs D kz_cl A (wq_G0 ad w) (wq_Q cs D kz_cl A (wq_G0 ad w) rt xt below s 4 24) 27 (kt_W_quota_27 rt xt) := by
    refine wq_iconst_ok h0 kd_W_quota_27 (by decide +kernel) ?_
    exact wq_ireturn_ok h0 hr hlk kd_W_quota_28
  have hb_29 : wq_Snd p l e ({ frames := 8, cells := 4, slots := 24, locals := 127 } : Room) s m args below meth c 9 cs D kz_cl A (wq_G0 ad w) (wq_Q cs D kz_cl A (wq_G0 ad w) rt xt below s 4 24) 29 (kt_W_quota_29 rt xt) := by
    refine wq_iconst_ok h0 kd_W_quota_29 (by decide +kernel) ?_
    exact wq_ireturn_ok h0 hr hlk kd_W_quota_30
  have hb_0 : wq_Snd p l e ({ frames := 8, cells := 4, slots := 24, locals := 127 } : Room) s m args below meth c 9 cs D kz_cl A (wq_G0 ad w) (wq_Q cs D kz_cl A (wq_G0 ad w) rt xt below s 4 24) 0 (kt_W_quota_0 rt xt) := by
    refine wq_aload_ok h0 kd_W_quota_0 ?_
    refine wq_iconst_ok h0 kd_W_quota_2 (by decide +kernel) ?_
    refine wq_aload_n_ok h0 kd_W_quota_3 rfl ?_
    refine wq_iload_n_ok h0 kd_W_quota_4 rfl ?_
    refine wq_iload_n_ok h0 kd_W_quota_5 rfl ?_
    refine wq_iload_n_ok h0 kd_W_quota_6 rfl ?_
    refine wq_iload_ok h0 kd_W_quota_7 ?_
    refine wq_iload_ok h0 kd_W_quota_9 ?_
    refine wq_iload_ok h0 kd_W_quota_11 ?_
    refine wq_call_ok hA (wq_runV (ci := 0) ⟨h0.1, h0.2, hml, hown, hts⟩ (kv_B_quota hl) ⟨(wq_cB hts kw_G kw_605 kw_1 kw_602 ⟨by decide +kernel, by decide +kernel, by decide +kernel⟩ rfl rfl ⟨Nat.le_of_ble_eq_true rfl, Nat.le_of_ble_eq_true rfl⟩), hts _ kw_603, hts _ kw_604⟩ rfl rfl hK hZ hN hA kd_W_quota_13) (fun L E w n1 n2 hx9 => wq_xh_ok hown hN h0 [(0, 8, (kt_W_quota_23 rt xt)), (1, 8, (kt_W_quota_27 rt xt))] [] (tableOf [((0 : Nat), (18 : Nat), (21 : Nat), (13 : Nat)), ((0 : Nat), (18 : Nat), (25 : Nat), (15 : Nat))]) htab (Nat.le_of_ble_eq_true rfl) (fun i q x h1 h2 => match i, h1, h2 with | 0, h1, h2 => by cases h1; cases h2; exact ⟨Nat.le_of_ble_eq_true rfl, by decide +kernel, by decide, hts _ kw_398, va_any rfl (hN.2.1 _ (List.mem_of_getElem? (i := 0) rfl)), Or.inl kd_W_quota_21, Nat.le_of_ble_eq_true rfl, fun len ⟨ig, hig⟩ => by cases hig.symm.trans kd_W_quota_21; exact hb_23⟩ | 1, h1, h2 => by cases h1; cases h2; exact ⟨Nat.le_of_ble_eq_true rfl, by decide +kernel, by decide, hts _ kw_399, va_any rfl (hN.2.1 _ (List.mem_of_getElem? (i := 1) rfl)), Or.inl kd_W_quota_25, Nat.le_of_ble_eq_true rfl, fun len ⟨ig, hig⟩ => by cases hig.symm.trans kd_W_quota_25; exact hb_27⟩ | n + 2, h1, h2 => by cases h1) E (fun z hz => absurd hz List.not_mem_nil) L w n1 n2 hx9) ?_
    refine wq_i2l_ok h0 kd_W_quota_16 ?_
    refine wq_last_ok h0 hK kd_W_quota_17 ?_
    refine wq_goto_ok (tgt := 29) h0 kd_W_quota_18 (by decide) ?_
    exact hb_29
  exact hb_0 _ _ _ _ _ (wq_sp_t hsp)
set_option maxRecDepth 100000 in
set_option maxHeartbeats 4000000 in
theorem kv_W_quotaLeft {l : Launch} (hl : l.stackTraces = false) : wq_Vld l kz_cl ky_W_quotaLeft kw_T ({ frames := 8, cells := 1, slots := 6, locals := 122 }) wq_G0 ks_W_quotaLeft 1 6 := by
  refine wq_methodH (cc := kc_W_quotaLeft) (maxL := 4) (ret := (some .int)) (hh := [((0 : Nat), (9 : Nat), (12 : Nat), (13 : Nat))]) (by decide) kw_613 (fun _ _ => rfl) wq_sp_sz ?_
  intro p e s m args below meth c cs D ad as w rt xt hF htab hsp
  obtain ⟨h0, hr, hts, hown, hlk, hnm, hml, hK, hZ, hN, hA⟩ := hF
  have hown : s.vm.findClass "BorderDeskLaw" = some m.cls := hown
  obtain ⟨A, hAe⟩ : ∃ A, A = wq_A ad w s.heap.size := ⟨_, rfl⟩
  rw [← hAe] at hZ hA ⊢
  have hb_13 : wq_Snd p l e ({ frames := 8, cells := 1, slots := 6, locals := 122 } : Room) s m args below meth c 4 cs D kz_cl A (wq_G0 ad w) (wq_Q cs D kz_cl A (wq_G0 ad w) rt xt below s 1 6) 13 (kt_W_quotaLeft_13 rt xt) := by
    refine wq_iconst_ok h0 kd_W_quotaLeft_13 (by decide +kernel) ?_
    exact wq_ireturn_ok h0 hr hlk kd_W_quotaLeft_14
  have hb_15 : wq_Snd p l e ({ frames := 8, cells := 1, slots := 6, locals := 122 } : Room) s m args below meth c 4 cs D kz_cl A (wq_G0 ad w) (wq_Q cs D kz_cl A (wq_G0 ad w) rt xt below s 1 6) 15 (kt_W_quotaLeft_15 rt xt) := by
    refine wq_iconst_ok h0 kd_W_quotaLeft_15 (by decide +kernel) ?_
    exact wq_ireturn_ok h0 hr hlk kd_W_quotaLeft_16
  have hb_0 : wq_Snd p l e ({ frames := 8, cells := 1, slots := 6, locals := 122 } : Room) s m args below meth c 4 cs D kz_cl A (wq_G0 ad w) (wq_Q cs D kz_cl A (wq_G0 ad w) rt xt below s 1 6) 0 (kt_W_quotaLeft_0 rt xt) := by
    refine wq_aload_n_ok h0 kd_W_quotaLeft_0 rfl ?_
    refine wq_iconst_ok h0 kd_W_quotaLeft_1 (by decide +kernel) ?_
    refine wq_aload_n_ok h0 kd_W_quotaLeft_2 rfl ?_
    refine wq_iload_n_ok h0 kd_W_quotaLeft_3 rfl ?_
    refine wq_call_ok hA (wq_runV (ci := 0) ⟨h0.1, h0.2, hml, hown, hts⟩ (kv_B_quotaLeft hl) ⟨(wq_cB hts kw_G kw_617 kw_1 kw_614 ⟨by decide +kernel, by decide +kernel, by decide +kernel⟩ rfl rfl ⟨Nat.le_of_ble_eq_true rfl, Nat.le_of_ble_eq_true rfl⟩), hts _ kw_615, hts _ kw_616⟩ rfl rfl hK hZ hN hA kd_W_quotaLeft_4) (fun L E w n1 n2 hx9 => wq_xh_ok hown hN h0 [(0, 3, (kt_W_quotaLeft_13 rt xt))] [] (tableOf [((0 : Nat), (9 : Nat), (12 : Nat), (13 : Nat))]) htab (Nat.le_of_ble_eq_true rfl) (fun i q x h1 h2 => match i, h1, h2 with | 0, h1, h2 => by cases h1; cases h2; exact ⟨Nat.le_of_ble_eq_true rfl, by decide +kernel, by decide, hts _ kw_398, va_any rfl (hN.2.1 _ (List.mem_of_getElem? (i := 0) rfl)), Or.inr ⟨3, rfl, kd_W_quotaLeft_12⟩, Nat.le_of_ble_eq_true rfl, fun len ⟨ig, hig⟩ => by cases hig.symm.trans kd_W_quotaLeft_12; exact hb_13⟩ | n + 1, h1, h2 => by cases h1) E (fun z hz => absurd hz List.not_mem_nil) L w n1 n2 hx9) ?_
    refine wq_i2l_ok h0 kd_W_quotaLeft_7 ?_
    refine wq_last_ok h0 hK kd_W_quotaLeft_8 ?_
    refine wq_goto_ok (tgt := 15) h0 kd_W_quotaLeft_9 (by decide) ?_
    exact hb_15
  exact hb_0 _ _ _ _ _ (wq_sp_t hsp)
set_option maxRecDepth 100000 in
set_option maxHeartbeats 4000000 in
theorem kv_W_part {l : Launch} (hl : l.stackTraces = false) : wq_Vld l kz_cl ky_W_part kw_T ({ frames := 8, cells := 4, slots := 24, locals := 125 }) wq_G0 ks_W_part 4 24 := by
  refine wq_methodH (cc := kc_W_part) (maxL := 7) (ret := (some .int)) (hh := [((0 : Nat), (14 : Nat), (17 : Nat), (13 : Nat)), ((0 : Nat), (14 : Nat), (21 : Nat), (15 : Nat))]) (by decide) kw_620 (fun _ _ => rfl) wq_sp_sz ?_
  intro p e s m args below meth c cs D ad as w rt xt hF htab hsp
  obtain ⟨h0, hr, hts, hown, hlk, hnm, hml, hK, hZ, hN, hA⟩ := hF
  have hown : s.vm.findClass "BorderDeskLaw" = some m.cls := hown
  obtain ⟨A, hAe⟩ : ∃ A, A = wq_A ad w s.heap.size := ⟨_, rfl⟩
  rw [← hAe] at hZ hA ⊢
  have hb_19 : wq_Snd p l e ({ frames := 8, cells := 4, slots := 24, locals := 125 } : Room) s m args below meth c 7 cs D kz_cl A (wq_G0 ad w) (wq_Q cs D kz_cl A (wq_G0 ad w) rt xt below s 4 24) 19 (kt_W_part_19 rt xt) := by
    refine wq_iconst_ok h0 kd_W_part_19 (by decide +kernel) ?_
    exact wq_ireturn_ok h0 hr hlk kd_W_part_20
  have hb_23 : wq_Snd p l e ({ frames := 8, cells := 4, slots := 24, locals := 125 } : Room) s m args below meth c 7 cs D kz_cl A (wq_G0 ad w) (wq_Q cs D kz_cl A (wq_G0 ad w) rt xt below s 4 24) 23 (kt_W_part_23 rt xt) := by
    refine wq_iconst_ok h0 kd_W_part_23 (by decide +kernel) ?_
    exact wq_ireturn_ok h0 hr hlk kd_W_part_24
  have hb_25 : wq_Snd p l e ({ frames := 8, cells := 4, slots := 24, locals := 125 } : Room) s m args below meth c 7 cs D kz_cl A (wq_G0 ad w) (wq_Q cs D kz_cl A (wq_G0 ad w) rt xt below s 4 24) 25 (kt_W_part_25 rt xt) := by
    refine wq_iconst_ok h0 kd_W_part_25 (by decide +kernel) ?_
    exact wq_ireturn_ok h0 hr hlk kd_W_part_26
  have hb_0 : wq_Snd p l e ({ frames := 8, cells := 4, slots := 24, locals := 125 } : Room) s m args below meth c 7 cs D kz_cl A (wq_G0 ad w) (wq_Q cs D kz_cl A (wq_G0 ad w) rt xt below s 4 24) 0 (kt_W_part_0 rt xt) := by
    refine wq_aload_ok h0 kd_W_part_0 ?_
    refine wq_iconst_ok h0 kd_W_part_2 (by decide +kernel) ?_
    refine wq_aload_n_ok h0 kd_W_part_3 rfl ?_
    refine wq_iload_n_ok h0 kd_W_part_4 rfl ?_
    refine wq_iload_n_ok h0 kd_W_part_5 rfl ?_
    refine wq_iload_n_ok h0 kd_W_part_6 rfl ?_
    refine wq_iload_ok h0 kd_W_part_7 ?_
    refine wq_call_ok hA (wq_runV (ci := 0) ⟨h0.1, h0.2, hml, hown, hts⟩ (kv_B_part hl) ⟨(wq_cB hts kw_G kw_624 kw_1 kw_621 ⟨by decide +kernel, by decide +kernel, by decide +kernel⟩ rfl rfl ⟨Nat.le_of_ble_eq_true rfl, Nat.le_of_ble_eq_true rfl⟩), hts _ kw_622, hts _ kw_623⟩ rfl rfl hK hZ hN hA kd_W_part_9) (fun L E w n1 n2 hx9 => wq_xh_ok hown hN h0 [(0, 6, (kt_W_part_19 rt xt)), (1, 6, (kt_W_part_23 rt xt))] [] (tableOf [((0 : Nat), (14 : Nat), (17 : Nat), (13 : Nat)), ((0 : Nat), (14 : Nat), (21 : Nat), (15 : Nat))]) htab (Nat.le_of_ble_eq_true rfl) (fun i q x h1 h2 => match i, h1, h2 with | 0, h1, h2 => by cases h1; cases h2; exact ⟨Nat.le_of_ble_eq_true rfl, by decide +kernel, by decide, hts _ kw_398, va_any rfl (hN.2.1 _ (List.mem_of_getElem? (i := 0) rfl)), Or.inl kd_W_part_17, Nat.le_of_ble_eq_true rfl, fun len ⟨ig, hig⟩ => by cases hig.symm.trans kd_W_part_17; exact hb_19⟩ | 1, h1, h2 => by cases h1; cases h2; exact ⟨Nat.le_of_ble_eq_true rfl, by decide +kernel, by decide, hts _ kw_399, va_any rfl (hN.2.1 _ (List.mem_of_getElem? (i := 1) rfl)), Or.inl kd_W_part_21, Nat.le_of_ble_eq_true rfl, fun len ⟨ig, hig⟩ => by cases hig.symm.trans kd_W_part_21; exact hb_23⟩ | n + 2, h1, h2 => by cases h1) E (fun z hz => absurd hz List.not_mem_nil) L w n1 n2 hx9) ?_
    refine wq_i2l_ok h0 kd_W_part_12 ?_
    refine wq_last_ok h0 hK kd_W_part_13 ?_
    refine wq_goto_ok (tgt := 25) h0 kd_W_part_14 (by decide) ?_
    exact hb_25
  exact hb_0 _ _ _ _ _ (wq_sp_t hsp)
set_option maxRecDepth 100000 in
set_option maxHeartbeats 4000000 in
theorem kv_W_zone {l : Launch} (hl : l.stackTraces = false) : wq_Vld l kz_cl ky_W_zone kw_T ({ frames := 8, cells := 2, slots := 12, locals := 123 }) wq_G0 ks_W_zone 2 12 := by
  refine wq_methodH (cc := kc_W_zone) (maxL := 4) (ret := (some .int)) (hh := [((0 : Nat), (6 : Nat), (9 : Nat), (13 : Nat))]) (by decide) kw_639 (fun _ _ => rfl) wq_sp_sz ?_
  intro p e s m args below meth c cs D ad as w rt xt hF htab hsp
  obtain ⟨h0, hr, hts, hown, hlk, hnm, hml, hK, hZ, hN, hA⟩ := hF
  have hown : s.vm.findClass "BorderDeskLaw" = some m.cls := hown
  obtain ⟨A, hAe⟩ : ∃ A, A = wq_A ad w s.heap.size := ⟨_, rfl⟩
  rw [← hAe] at hZ hA ⊢
  have hb_10 : wq_Snd p l e ({ frames := 8, cells := 2, slots := 12, locals := 123 } : Room) s m args below meth c 4 cs D kz_cl A (wq_G0 ad w) (wq_Q cs D kz_cl A (wq_G0 ad w) rt xt below s 2 12) 10 (kt_W_zone_10 rt xt) := by
    refine wq_iconst_ok h0 kd_W_zone_10 (by decide +kernel) ?_
    exact wq_ireturn_ok h0 hr hlk kd_W_zone_11
  have hb_12 : wq_Snd p l e ({ frames := 8, cells := 2, slots := 12, locals := 123 } : Room) s m args below meth c 4 cs D kz_cl A (wq_G0 ad w) (wq_Q cs D kz_cl A (wq_G0 ad w) rt xt below s 2 12) 12 (kt_W_zone_12 rt xt) := by
    refine wq_iconst_ok h0 kd_W_zone_12 (by decide +kernel) ?_
    exact wq_ireturn_ok h0 hr hlk kd_W_zone_13
  have hb_0 : wq_Snd p l e ({ frames := 8, cells := 2, slots := 12, locals := 123 } : Room) s m args below meth c 4 cs D kz_cl A (wq_G0 ad w) (wq_Q cs D kz_cl A (wq_G0 ad w) rt xt below s 2 12) 0 (kt_W_zone_0 rt xt) := by
    refine wq_aload_n_ok h0 kd_W_zone_0 rfl ?_
    refine wq_iload_n_ok h0 kd_W_zone_1 rfl ?_
    refine wq_iload_n_ok h0 kd_W_zone_2 rfl ?_
    refine wq_call_ok hA (wq_runV (ci := 0) ⟨h0.1, h0.2, hml, hown, hts⟩ (kv_B_zone hl) ⟨(wq_cB hts kw_G kw_643 kw_1 kw_640 ⟨by decide +kernel, by decide +kernel, by decide +kernel⟩ rfl rfl ⟨Nat.le_of_ble_eq_true rfl, Nat.le_of_ble_eq_true rfl⟩), hts _ kw_641, hts _ kw_642⟩ rfl rfl hK hZ hN hA kd_W_zone_3) (fun L E w n1 n2 hx9 => wq_xh_ok hown hN h0 [(0, 3, (kt_W_zone_10 rt xt))] [] (tableOf [((0 : Nat), (6 : Nat), (9 : Nat), (13 : Nat))]) htab (Nat.le_of_ble_eq_true rfl) (fun i q x h1 h2 => match i, h1, h2 with | 0, h1, h2 => by cases h1; cases h2; exact ⟨Nat.le_of_ble_eq_true rfl, by decide +kernel, by decide, hts _ kw_398, va_any rfl (hN.2.1 _ (List.mem_of_getElem? (i := 0) rfl)), Or.inr ⟨3, rfl, kd_W_zone_9⟩, Nat.le_of_ble_eq_true rfl, fun len ⟨ig, hig⟩ => by cases hig.symm.trans kd_W_zone_9; exact hb_10⟩ | n + 1, h1, h2 => by cases h1) E (fun z hz => absurd hz List.not_mem_nil) L w n1 n2 hx9) ?_
    refine wq_goto_ok (tgt := 12) h0 kd_W_zone_6 (by decide) ?_
    exact hb_12
  exact hb_0 _ _ _ _ _ (wq_sp_t hsp)
set_option maxRecDepth 100000 in
set_option maxHeartbeats 4000000 in
theorem kv_W_rule {l : Launch} (hl : l.stackTraces = false) : wq_Vld l kz_cl ky_W_rule kw_T ({ frames := 8, cells := 3, slots := 18, locals := 124 }) wq_G0 ks_W_rule 3 18 := by
  refine wq_methodH (cc := kc_W_rule) (maxL := 5) (ret := (some .int)) (hh := [((0 : Nat), (7 : Nat), (10 : Nat), (13 : Nat))]) (by decide) kw_646 (fun _ _ => rfl) wq_sp_sz ?_
  intro p e s m args below meth c cs D ad as w rt xt hF htab hsp
  obtain ⟨h0, hr, hts, hown, hlk, hnm, hml, hK, hZ, hN, hA⟩ := hF
  have hown : s.vm.findClass "BorderDeskLaw" = some m.cls := hown
  obtain ⟨A, hAe⟩ : ∃ A, A = wq_A ad w s.heap.size := ⟨_, rfl⟩
  rw [← hAe] at hZ hA ⊢
  have hb_12 : wq_Snd p l e ({ frames := 8, cells := 3, slots := 18, locals := 124 } : Room) s m args below meth c 5 cs D kz_cl A (wq_G0 ad w) (wq_Q cs D kz_cl A (wq_G0 ad w) rt xt below s 3 18) 12 (kt_W_rule_12 rt xt) := by
    refine wq_iconst_ok h0 kd_W_rule_12 (by decide +kernel) ?_
    exact wq_ireturn_ok h0 hr hlk kd_W_rule_13
  have hb_14 : wq_Snd p l e ({ frames := 8, cells := 3, slots := 18, locals := 124 } : Room) s m args below meth c 5 cs D kz_cl A (wq_G0 ad w) (wq_Q cs D kz_cl A (wq_G0 ad w) rt xt below s 3 18) 14 (kt_W_rule_14 rt xt) := by
    refine wq_iconst_ok h0 kd_W_rule_14 (by decide +kernel) ?_
    exact wq_ireturn_ok h0 hr hlk kd_W_rule_15
  have hb_0 : wq_Snd p l e ({ frames := 8, cells := 3, slots := 18, locals := 124 } : Room) s m args below meth c 5 cs D kz_cl A (wq_G0 ad w) (wq_Q cs D kz_cl A (wq_G0 ad w) rt xt below s 3 18) 0 (kt_W_rule_0 rt xt) := by
    refine wq_aload_n_ok h0 kd_W_rule_0 rfl ?_
    refine wq_iload_n_ok h0 kd_W_rule_1 rfl ?_
    refine wq_iload_n_ok h0 kd_W_rule_2 rfl ?_
    refine wq_iload_n_ok h0 kd_W_rule_3 rfl ?_
    refine wq_call_ok hA (wq_runV (ci := 0) ⟨h0.1, h0.2, hml, hown, hts⟩ (kv_B_rule hl) ⟨(wq_cB hts kw_G kw_650 kw_1 kw_647 ⟨by decide +kernel, by decide +kernel, by decide +kernel⟩ rfl rfl ⟨Nat.le_of_ble_eq_true rfl, Nat.le_of_ble_eq_true rfl⟩), hts _ kw_648, hts _ kw_649⟩ rfl rfl hK hZ hN hA kd_W_rule_4) (fun L E w n1 n2 hx9 => wq_xh_ok hown hN h0 [(0, 4, (kt_W_rule_12 rt xt))] [] (tableOf [((0 : Nat), (7 : Nat), (10 : Nat), (13 : Nat))]) htab (Nat.le_of_ble_eq_true rfl) (fun i q x h1 h2 => match i, h1, h2 with | 0, h1, h2 => by cases h1; cases h2; exact ⟨Nat.le_of_ble_eq_true rfl, by decide +kernel, by decide, hts _ kw_398, va_any rfl (hN.2.1 _ (List.mem_of_getElem? (i := 0) rfl)), Or.inl kd_W_rule_10, Nat.le_of_ble_eq_true rfl, fun len ⟨ig, hig⟩ => by cases hig.symm.trans kd_W_rule_10; exact hb_12⟩ | n + 1, h1, h2 => by cases h1) E (fun z hz => absurd hz List.not_mem_nil) L w n1 n2 hx9) ?_
    refine wq_goto_ok (tgt := 14) h0 kd_W_rule_7 (by decide) ?_
    exact hb_14
  exact hb_0 _ _ _ _ _ (wq_sp_t hsp)
set_option maxRecDepth 100000 in
set_option maxHeartbeats 4000000 in
theorem kv_W_madeIn {l : Launch} (hl : l.stackTraces = false) : wq_Vld l kz_cl ky_W_madeIn kw_T ({ frames := 8, cells := 1, slots := 6, locals := 192 }) wq_G0 ks_W_madeIn 1 6 := by
  refine wq_methodH (cc := kc_W_madeIn) (maxL := 5) (ret := (some .int)) (hh := [((0 : Nat), (17 : Nat), (20 : Nat), (13 : Nat))]) (by decide) kw_653 (fun _ _ => rfl) wq_sp_sz ?_
  intro p e s m args below meth c cs D ad as w rt xt hF htab hsp
  obtain ⟨h0, hr, hts, hown, hlk, hnm, hml, hK, hZ, hN, hA⟩ := hF
  have hown : s.vm.findClass "BorderDeskLaw" = some m.cls := hown
  obtain ⟨A, hAe⟩ : ∃ A, A = wq_A ad w s.heap.size := ⟨_, rfl⟩
  rw [← hAe] at hZ hA ⊢
  have hb_22 : wq_Snd p l e ({ frames := 8, cells := 1, slots := 6, locals := 192 } : Room) s m args below meth c 5 cs D kz_cl A (wq_G0 ad w) (wq_Q cs D kz_cl A (wq_G0 ad w) rt xt below s 1 6) 22 (kt_W_madeIn_22 rt xt) := by
    refine wq_iconst_ok h0 kd_W_madeIn_22 (by decide +kernel) ?_
    exact wq_ireturn_ok h0 hr hlk kd_W_madeIn_23
  have hb_24 : wq_Snd p l e ({ frames := 8, cells := 1, slots := 6, locals := 192 } : Room) s m args below meth c 5 cs D kz_cl A (wq_G0 ad w) (wq_Q cs D kz_cl A (wq_G0 ad w) rt xt below s 1 6) 24 (kt_W_madeIn_24 rt xt) := by
    refine wq_iconst_ok h0 kd_W_madeIn_24 (by decide +kernel) ?_
    exact wq_ireturn_ok h0 hr hlk kd_W_madeIn_25
  have hb_16 : wq_Snd p l e ({ frames := 8, cells := 1, slots := 6, locals := 192 } : Room) s m args below meth c 5 cs D kz_cl A (wq_G0 ad w) (wq_Q cs D kz_cl A (wq_G0 ad w) rt xt below s 1 6) 16 (kt_W_madeIn_16 rt xt) := by
    refine wq_last_ok h0 hK kd_W_madeIn_16 ?_
    refine wq_goto_ok (tgt := 24) h0 kd_W_madeIn_17 (by decide) ?_
    exact hb_24
  have hb_15 : wq_Snd p l e ({ frames := 8, cells := 1, slots := 6, locals := 192 } : Room) s m args below meth c 5 cs D kz_cl A (wq_G0 ad w) (wq_Q cs D kz_cl A (wq_G0 ad w) rt xt below s 1 6) 15 (kt_W_madeIn_15 rt xt) := by
    refine wq_lconst_ok h0 kd_W_madeIn_15 (by decide +kernel) ?_
    exact hb_16
  have hb_0 : wq_Snd p l e ({ frames := 8, cells := 1, slots := 6, locals := 192 } : Room) s m args below meth c 5 cs D kz_cl A (wq_G0 ad w) (wq_Q cs D kz_cl A (wq_G0 ad w) rt xt below s 1 6) 0 (kt_W_madeIn_0 rt xt) := by
    refine wq_aload_n_ok h0 kd_W_madeIn_0 rfl ?_
    refine wq_iconst_ok h0 kd_W_madeIn_1 (by decide +kernel) ?_
    refine wq_aload_n_ok h0 kd_W_madeIn_2 rfl ?_
    refine wq_iload_n_ok h0 kd_W_madeIn_3 rfl ?_
    refine wq_iload_n_ok h0 kd_W_madeIn_4 rfl ?_
    refine wq_call_ok hA (wq_runV (ci := 0) ⟨h0.1, h0.2, hml, hown, hts⟩ (kv_B_madeIn hl) ⟨(wq_cB hts kw_G kw_657 kw_1 kw_654 ⟨by decide +kernel, by decide +kernel, by decide +kernel⟩ rfl rfl ⟨Nat.le_of_ble_eq_true rfl, Nat.le_of_ble_eq_true rfl⟩), hts _ kw_655, hts _ kw_656⟩ rfl rfl hK hZ hN hA kd_W_madeIn_5) (fun L E w n1 n2 hx9 => wq_xh_ok hown hN h0 [(0, 4, (kt_W_madeIn_22 rt xt))] [] (tableOf [((0 : Nat), (17 : Nat), (20 : Nat), (13 : Nat))]) htab (Nat.le_of_ble_eq_true rfl) (fun i q x h1 h2 => match i, h1, h2 with | 0, h1, h2 => by cases h1; cases h2; exact ⟨Nat.le_of_ble_eq_true rfl, by decide +kernel, by decide, hts _ kw_398, va_any rfl (hN.2.1 _ (List.mem_of_getElem? (i := 0) rfl)), Or.inl kd_W_madeIn_20, Nat.le_of_ble_eq_true rfl, fun len ⟨ig, hig⟩ => by cases hig.symm.trans kd_W_madeIn_20; exact hb_22⟩ | n + 1, h1, h2 => by cases h1) E (fun z hz => absurd hz List.not_mem_nil) L w n1 n2 hx9) ?_
    refine wq_if_eq_ok (tgt := 15) h0 kd_W_madeIn_8 (by decide) ?_ ?_
    · exact hb_15
    refine wq_lconst_ok h0 kd_W_madeIn_11 (by decide +kernel) ?_
    refine wq_goto_ok (tgt := 16) h0 kd_W_madeIn_12 (by decide) ?_
    exact hb_16
  exact hb_0 _ _ _ _ _ (wq_sp_t hsp)
set_option maxRecDepth 100000 in
set_option maxHeartbeats 4000000 in
theorem kv_W_declare {l : Launch} (hl : l.stackTraces = false) : wq_Vld l kz_cl ky_W_declare kw_T ({ frames := 8, cells := 3, slots := 18, locals := 123 }) wq_G0 ks_W_declare 3 18 := by
  refine wq_methodH (cc := kc_W_declare) (maxL := 5) (ret := (some .int)) (hh := [((0 : Nat), (10 : Nat), (13 : Nat), (13 : Nat)), ((0 : Nat), (10 : Nat), (17 : Nat), (15 : Nat))]) (by decide) kw_692 (fun _ _ => rfl) wq_sp_sz ?_
  intro p e s m args below meth c cs D ad as w rt xt hF htab hsp
  obtain ⟨h0, hr, hts, hown, hlk, hnm, hml, hK, hZ, hN, hA⟩ := hF
  have hown : s.vm.findClass "BorderDeskLaw" = some m.cls := hown
  obtain ⟨A, hAe⟩ : ∃ A, A = wq_A ad w s.heap.size := ⟨_, rfl⟩
  rw [← hAe] at hZ hA ⊢
  have hb_15 : wq_Snd p l e ({ frames := 8, cells := 3, slots := 18, locals := 123 } : Room) s m args below meth c 5 cs D kz_cl A (wq_G0 ad w) (wq_Q cs D kz_cl A (wq_G0 ad w) rt xt below s 3 18) 15 (kt_W_declare_15 rt xt) := by
    refine wq_iconst_ok h0 kd_W_declare_15 (by decide +kernel) ?_
    exact wq_ireturn_ok h0 hr hlk kd_W_declare_16
  have hb_19 : wq_Snd p l e ({ frames := 8, cells := 3, slots := 18, locals := 123 } : Room) s m args below meth c 5 cs D kz_cl A (wq_G0 ad w) (wq_Q cs D kz_cl A (wq_G0 ad w) rt xt below s 3 18) 19 (kt_W_declare_19 rt xt) := by
    refine wq_iconst_ok h0 kd_W_declare_19 (by decide +kernel) ?_
    exact wq_ireturn_ok h0 hr hlk kd_W_declare_20
  have hb_21 : wq_Snd p l e ({ frames := 8, cells := 3, slots := 18, locals := 123 } : Room) s m args below meth c 5 cs D kz_cl A (wq_G0 ad w) (wq_Q cs D kz_cl A (wq_G0 ad w) rt xt below s 3 18) 21 (kt_W_declare_21 rt xt) := by
    refine wq_iconst_ok h0 kd_W_declare_21 (by decide +kernel) ?_
    exact wq_ireturn_ok h0 hr hlk kd_W_declare_22
  have hb_0 : wq_Snd p l e ({ frames := 8, cells := 3, slots := 18, locals := 123 } : Room) s m args below meth c 5 cs D kz_cl A (wq_G0 ad w) (wq_Q cs D kz_cl A (wq_G0 ad w) rt xt below s 3 18) 0 (kt_W_declare_0 rt xt) := by
    refine wq_aload_n_ok h0 kd_W_declare_0 rfl ?_
    refine wq_iconst_ok h0 kd_W_declare_1 (by decide +kernel) ?_
    refine wq_aload_n_ok h0 kd_W_declare_2 rfl ?_
    refine wq_iload_n_ok h0 kd_W_declare_3 rfl ?_
    refine wq_iload_n_ok h0 kd_W_declare_4 rfl ?_
    refine wq_call_ok hA (wq_runV (ci := 0) ⟨h0.1, h0.2, hml, hown, hts⟩ (kv_B_declare hl) ⟨(wq_cB hts kw_G kw_696 kw_1 kw_693 ⟨by decide +kernel, by decide +kernel, by decide +kernel⟩ rfl rfl ⟨Nat.le_of_ble_eq_true rfl, Nat.le_of_ble_eq_true rfl⟩), hts _ kw_694, hts _ kw_695⟩ rfl rfl hK hZ hN hA kd_W_declare_5) (fun L E w n1 n2 hx9 => wq_xh_ok hown hN h0 [(0, 4, (kt_W_declare_15 rt xt)), (1, 4, (kt_W_declare_19 rt xt))] [] (tableOf [((0 : Nat), (10 : Nat), (13 : Nat), (13 : Nat)), ((0 : Nat), (10 : Nat), (17 : Nat), (15 : Nat))]) htab (Nat.le_of_ble_eq_true rfl) (fun i q x h1 h2 => match i, h1, h2 with | 0, h1, h2 => by cases h1; cases h2; exact ⟨Nat.le_of_ble_eq_true rfl, by decide +kernel, by decide, hts _ kw_398, va_any rfl (hN.2.1 _ (List.mem_of_getElem? (i := 0) rfl)), Or.inl kd_W_declare_13, Nat.le_of_ble_eq_true rfl, fun len ⟨ig, hig⟩ => by cases hig.symm.trans kd_W_declare_13; exact hb_15⟩ | 1, h1, h2 => by cases h1; cases h2; exact ⟨Nat.le_of_ble_eq_true rfl, by decide +kernel, by decide, hts _ kw_399, va_any rfl (hN.2.1 _ (List.mem_of_getElem? (i := 1) rfl)), Or.inl kd_W_declare_17, Nat.le_of_ble_eq_true rfl, fun len ⟨ig, hig⟩ => by cases hig.symm.trans kd_W_declare_17; exact hb_19⟩ | n + 2, h1, h2 => by cases h1) E (fun z hz => absurd hz List.not_mem_nil) L w n1 n2 hx9) ?_
    refine wq_i2l_ok h0 kd_W_declare_8 ?_
    refine wq_last_ok h0 hK kd_W_declare_9 ?_
    refine wq_goto_ok (tgt := 21) h0 kd_W_declare_10 (by decide) ?_
    exact hb_21
  exact hb_0 _ _ _ _ _ (wq_sp_t hsp)
set_option maxRecDepth 100000 in
set_option maxHeartbeats 4000000 in
theorem kv_W_line {l : Launch} (hl : l.stackTraces = false) : wq_Vld l kz_cl ky_W_line kw_T ({ frames := 8, cells := 6, slots := 36, locals := 128 }) wq_G0 ks_W_line 6 36 := by
  refine wq_methodH (cc := kc_W_line) (maxL := 10) (ret := (some .int)) (hh := [((0 : Nat), (20 : Nat), (23 : Nat), (13 : Nat)), ((0 : Nat), (20 : Nat), (27 : Nat), (15 : Nat))]) (by decide) kw_703 (fun _ _ => rfl) wq_sp_sz ?_
  intro p e s m args below meth c cs D ad as w rt xt hF htab hsp
  obtain ⟨h0, hr, hts, hown, hlk, hnm, hml, hK, hZ, hN, hA⟩ := hF
  have hown : s.vm.findClass "BorderDeskLaw" = some m.cls := hown
  obtain ⟨A, hAe⟩ : ∃ A, A = wq_A ad w s.heap.size := ⟨_, rfl⟩
  rw [← hAe] at hZ hA ⊢
  have hb_25 : wq_Snd p l e ({ frames := 8, cells := 6, slots := 36, locals := 128 } : Room) s m args below meth c 10 cs D kz_cl A (wq_G0 ad w) (wq_Q cs D kz_cl A (wq_G0 ad w) rt xt below s 6 36) 25 (kt_W_line_25 rt xt) := by
    refine wq_iconst_ok h0 kd_W_line_25 (by decide +kernel) ?_
    exact wq_ireturn_ok h0 hr hlk kd_W_line_26
  have hb_29 : wq_Snd p l e ({ frames := 8, cells := 6, slots := 36, locals := 128 } : Room) s m args below meth c 10 cs D kz_cl A (wq_G0 ad w) (wq_Q cs D kz_cl A (wq_G0 ad w) rt xt below s 6 36) 29 (kt_W_line_29 rt xt) := by
    refine wq_iconst_ok h0 kd_W_line_29 (by decide +kernel) ?_
    exact wq_ireturn_ok h0 hr hlk kd_W_line_30
  have hb_31 : wq_Snd p l e ({ frames := 8, cells := 6, slots := 36, locals := 128 } : Room) s m args below meth c 10 cs D kz_cl A (wq_G0 ad w) (wq_Q cs D kz_cl A (wq_G0 ad w) rt xt below s 6 36) 31 (kt_W_line_31 rt xt) := by
    refine wq_iconst_ok h0 kd_W_line_31 (by decide +kernel) ?_
    exact wq_ireturn_ok h0 hr hlk kd_W_line_32
  have hb_0 : wq_Snd p l e ({ frames := 8, cells := 6, slots := 36, locals := 128 } : Room) s m args below meth c 10 cs D kz_cl A (wq_G0 ad w) (wq_Q cs D kz_cl A (wq_G0 ad w) rt xt below s 6 36) 0 (kt_W_line_0 rt xt) := by
    refine wq_aload_ok h0 kd_W_line_0 ?_
    refine wq_iconst_ok h0 kd_W_line_2 (by decide +kernel) ?_
    refine wq_aload_n_ok h0 kd_W_line_3 rfl ?_
    refine wq_iload_n_ok h0 kd_W_line_4 rfl ?_
    refine wq_iload_n_ok h0 kd_W_line_5 rfl ?_
    refine wq_iload_n_ok h0 kd_W_line_6 rfl ?_
    refine wq_iload_ok h0 kd_W_line_7 ?_
    refine wq_iload_ok h0 kd_W_line_9 ?_
    refine wq_iload_ok h0 kd_W_line_11 ?_
    refine wq_iload_ok h0 kd_W_line_13 ?_
    refine wq_call_ok hA (wq_runV (ci := 0) ⟨h0.1, h0.2, hml, hown, hts⟩ (kv_B_line hl) ⟨(wq_cB hts kw_G kw_707 kw_1 kw_704 ⟨by decide +kernel, by decide +kernel, by decide +kernel⟩ rfl rfl ⟨Nat.le_of_ble_eq_true rfl, Nat.le_of_ble_eq_true rfl⟩), hts _ kw_705, hts _ kw_706⟩ rfl rfl hK hZ hN hA kd_W_line_15) (fun L E w n1 n2 hx9 => wq_xh_ok hown hN h0 [(0, 9, (kt_W_line_25 rt xt)), (1, 9, (kt_W_line_29 rt xt))] [] (tableOf [((0 : Nat), (20 : Nat), (23 : Nat), (13 : Nat)), ((0 : Nat), (20 : Nat), (27 : Nat), (15 : Nat))]) htab (Nat.le_of_ble_eq_true rfl) (fun i q x h1 h2 => match i, h1, h2 with | 0, h1, h2 => by cases h1; cases h2; exact ⟨Nat.le_of_ble_eq_true rfl, by decide +kernel, by decide, hts _ kw_398, va_any rfl (hN.2.1 _ (List.mem_of_getElem? (i := 0) rfl)), Or.inl kd_W_line_23, Nat.le_of_ble_eq_true rfl, fun len ⟨ig, hig⟩ => by cases hig.symm.trans kd_W_line_23; exact hb_25⟩ | 1, h1, h2 => by cases h1; cases h2; exact ⟨Nat.le_of_ble_eq_true rfl, by decide +kernel, by decide, hts _ kw_399, va_any rfl (hN.2.1 _ (List.mem_of_getElem? (i := 1) rfl)), Or.inl kd_W_line_27, Nat.le_of_ble_eq_true rfl, fun len ⟨ig, hig⟩ => by cases hig.symm.trans kd_W_line_27; exact hb_29⟩ | n + 2, h1, h2 => by cases h1) E (fun z hz => absurd hz List.not_mem_nil) L w n1 n2 hx9) ?_
    refine wq_i2l_ok h0 kd_W_line_18 ?_
    refine wq_last_ok h0 hK kd_W_line_19 ?_
    refine wq_goto_ok (tgt := 31) h0 kd_W_line_20 (by decide) ?_
    exact hb_31
  exact hb_0 _ _ _ _ _ (wq_sp_t hsp)
set_option maxRecDepth 100000 in
set_option maxHeartbeats 4000000 in
theorem kv_W_charge {l : Launch} (hl : l.stackTraces = false) : wq_Vld l kz_cl ky_W_charge kw_T ({ frames := 8, cells := 4, slots := 24, locals := 124 }) wq_G0 ks_W_charge 4 24 := by
  refine wq_methodH (cc := kc_W_charge) (maxL := 5) (ret := (some .int)) (hh := [((0 : Nat), (7 : Nat), (10 : Nat), (13 : Nat)), ((0 : Nat), (7 : Nat), (14 : Nat), (15 : Nat))]) (by decide) kw_727 (fun _ _ => rfl) wq_sp_sz ?_
  intro p e s m args below meth c cs D ad as w rt xt hF htab hsp
  obtain ⟨h0, hr, hts, hown, hlk, hnm, hml, hK, hZ, hN, hA⟩ := hF
  have hown : s.vm.findClass "BorderDeskLaw" = some m.cls := hown
  obtain ⟨A, hAe⟩ : ∃ A, A = wq_A ad w s.heap.size := ⟨_, rfl⟩
  rw [← hAe] at hZ hA ⊢
  have hb_12 : wq_Snd p l e ({ frames := 8, cells := 4, slots := 24, locals := 124 } : Room) s m args below meth c 5 cs D kz_cl A (wq_G0 ad w) (wq_Q cs D kz_cl A (wq_G0 ad w) rt xt below s 4 24) 12 (kt_W_charge_12 rt xt) := by
    refine wq_iconst_ok h0 kd_W_charge_12 (by decide +kernel) ?_
    exact wq_ireturn_ok h0 hr hlk kd_W_charge_13
  have hb_16 : wq_Snd p l e ({ frames := 8, cells := 4, slots := 24, locals := 124 } : Room) s m args below meth c 5 cs D kz_cl A (wq_G0 ad w) (wq_Q cs D kz_cl A (wq_G0 ad w) rt xt below s 4 24) 16 (kt_W_charge_16 rt xt) := by
    refine wq_iconst_ok h0 kd_W_charge_16 (by decide +kernel) ?_
    exact wq_ireturn_ok h0 hr hlk kd_W_charge_17
  have hb_18 : wq_Snd p l e ({ frames := 8, cells := 4, slots := 24, locals := 124 } : Room) s m args below meth c 5 cs D kz_cl A (wq_G0 ad w) (wq_Q cs D kz_cl A (wq_G0 ad w) rt xt below s 4 24) 18 (kt_W_charge_18 rt xt) := by
    refine wq_iconst_ok h0 kd_W_charge_18 (by decide +kernel) ?_
    exact wq_ireturn_ok h0 hr hlk kd_W_charge_19
  have hb_0 : wq_Snd p l e ({ frames := 8, cells := 4, slots := 24, locals := 124 } : Room) s m args below meth c 5 cs D kz_cl A (wq_G0 ad w) (wq_Q cs D kz_cl A (wq_G0 ad w) rt xt below s 4 24) 0 (kt_W_charge_0 rt xt) := by
    refine wq_aload_n_ok h0 kd_W_charge_0 rfl ?_
    refine wq_iload_n_ok h0 kd_W_charge_1 rfl ?_
    refine wq_iload_n_ok h0 kd_W_charge_2 rfl ?_
    refine wq_iload_n_ok h0 kd_W_charge_3 rfl ?_
    refine wq_call_ok hA (wq_runV (ci := 0) ⟨h0.1, h0.2, hml, hown, hts⟩ (kv_B_charge hl) ⟨(wq_cB hts kw_G kw_731 kw_1 kw_728 ⟨by decide +kernel, by decide +kernel, by decide +kernel⟩ rfl rfl ⟨Nat.le_of_ble_eq_true rfl, Nat.le_of_ble_eq_true rfl⟩), hts _ kw_729, hts _ kw_730⟩ rfl rfl hK hZ hN hA kd_W_charge_4) (fun L E w n1 n2 hx9 => wq_xh_ok hown hN h0 [(0, 4, (kt_W_charge_12 rt xt)), (1, 4, (kt_W_charge_16 rt xt))] [] (tableOf [((0 : Nat), (7 : Nat), (10 : Nat), (13 : Nat)), ((0 : Nat), (7 : Nat), (14 : Nat), (15 : Nat))]) htab (Nat.le_of_ble_eq_true rfl) (fun i q x h1 h2 => match i, h1, h2 with | 0, h1, h2 => by cases h1; cases h2; exact ⟨Nat.le_of_ble_eq_true rfl, by decide +kernel, by decide, hts _ kw_398, va_any rfl (hN.2.1 _ (List.mem_of_getElem? (i := 0) rfl)), Or.inl kd_W_charge_10, Nat.le_of_ble_eq_true rfl, fun len ⟨ig, hig⟩ => by cases hig.symm.trans kd_W_charge_10; exact hb_12⟩ | 1, h1, h2 => by cases h1; cases h2; exact ⟨Nat.le_of_ble_eq_true rfl, by decide +kernel, by decide, hts _ kw_399, va_any rfl (hN.2.1 _ (List.mem_of_getElem? (i := 1) rfl)), Or.inl kd_W_charge_14, Nat.le_of_ble_eq_true rfl, fun len ⟨ig, hig⟩ => by cases hig.symm.trans kd_W_charge_14; exact hb_16⟩ | n + 2, h1, h2 => by cases h1) E (fun z hz => absurd hz List.not_mem_nil) L w n1 n2 hx9) ?_
    refine wq_goto_ok (tgt := 18) h0 kd_W_charge_7 (by decide) ?_
    exact hb_18
  exact hb_0 _ _ _ _ _ (wq_sp_t hsp)
set_option maxRecDepth 100000 in
set_option maxHeartbeats 4000000 in
theorem kv_W_lineOf {l : Launch} (hl : l.stackTraces = false) : wq_Vld l kz_cl ky_W_lineOf kw_T ({ frames := 8, cells := 3, slots := 18, locals := 170 }) wq_G0 ks_W_lineOf 3 18 := by
  refine wq_methodH (cc := kc_W_lineOf) (maxL := 6) (ret := (some .int)) (hh := [((0 : Nat), (11 : Nat), (14 : Nat), (13 : Nat)), ((0 : Nat), (11 : Nat), (18 : Nat), (72 : Nat))]) (by decide) kw_735 (fun _ _ => rfl) wq_sp_sz ?_
  intro p e s m args below meth c cs D ad as w rt xt hF htab hsp
  obtain ⟨h0, hr, hts, hown, hlk, hnm, hml, hK, hZ, hN, hA⟩ := hF
  have hown : s.vm.findClass "BorderDeskLaw" = some m.cls := hown
  obtain ⟨A, hAe⟩ : ∃ A, A = wq_A ad w s.heap.size := ⟨_, rfl⟩
  rw [← hAe] at hZ hA ⊢
  have hb_16 : wq_Snd p l e ({ frames := 8, cells := 3, slots := 18, locals := 170 } : Room) s m args below meth c 6 cs D kz_cl A (wq_G0 ad w) (wq_Q cs D kz_cl A (wq_G0 ad w) rt xt below s 3 18) 16 (kt_W_lineOf_16 rt xt) := by
    refine wq_iconst_ok h0 kd_W_lineOf_16 (by decide +kernel) ?_
    exact wq_ireturn_ok h0 hr hlk kd_W_lineOf_17
  have hb_20 : wq_Snd p l e ({ frames := 8, cells := 3, slots := 18, locals := 170 } : Room) s m args below meth c 6 cs D kz_cl A (wq_G0 ad w) (wq_Q cs D kz_cl A (wq_G0 ad w) rt xt below s 3 18) 20 (kt_W_lineOf_20 rt xt) := by
    refine wq_iconst_ok h0 kd_W_lineOf_20 (by decide +kernel) ?_
    exact wq_ireturn_ok h0 hr hlk kd_W_lineOf_21
  have hb_22 : wq_Snd p l e ({ frames := 8, cells := 3, slots := 18, locals := 170 } : Room) s m args below meth c 6 cs D kz_cl A (wq_G0 ad w) (wq_Q cs D kz_cl A (wq_G0 ad w) rt xt below s 3 18) 22 (kt_W_lineOf_22 rt xt) := by
    refine wq_iconst_ok h0 kd_W_lineOf_22 (by decide +kernel) ?_
    exact wq_ireturn_ok h0 hr hlk kd_W_lineOf_23
  have hb_0 : wq_Snd p l e ({ frames := 8, cells := 3, slots := 18, locals := 170 } : Room) s m args below meth c 6 cs D kz_cl A (wq_G0 ad w) (wq_Q cs D kz_cl A (wq_G0 ad w) rt xt below s 3 18) 0 (kt_W_lineOf_0 rt xt) := by
    refine wq_aload_ok h0 kd_W_lineOf_0 ?_
    refine wq_iconst_ok h0 kd_W_lineOf_2 (by decide +kernel) ?_
    refine wq_aload_n_ok h0 kd_W_lineOf_3 rfl ?_
    refine wq_iload_n_ok h0 kd_W_lineOf_4 rfl ?_
    refine wq_iload_n_ok h0 kd_W_lineOf_5 rfl ?_
    refine wq_iload_n_ok h0 kd_W_lineOf_6 rfl ?_
    refine wq_call_ok hA (wq_runV (ci := 0) ⟨h0.1, h0.2, hml, hown, hts⟩ (kv_B_lineOf hl) ⟨(wq_cB hts kw_G kw_740 kw_1 kw_737 ⟨by decide +kernel, by decide +kernel, by decide +kernel⟩ rfl rfl ⟨Nat.le_of_ble_eq_true rfl, Nat.le_of_ble_eq_true rfl⟩), hts _ kw_738, hts _ kw_739⟩ rfl rfl hK hZ hN hA kd_W_lineOf_7) (fun L E w n1 n2 hx9 => wq_xh_ok hown hN h0 [(0, 5, (kt_W_lineOf_16 rt xt)), (2, 5, (kt_W_lineOf_20 rt xt))] [] (tableOf [((0 : Nat), (11 : Nat), (14 : Nat), (13 : Nat)), ((0 : Nat), (11 : Nat), (18 : Nat), (72 : Nat))]) htab (Nat.le_of_ble_eq_true rfl) (fun i q x h1 h2 => match i, h1, h2 with | 0, h1, h2 => by cases h1; cases h2; exact ⟨Nat.le_of_ble_eq_true rfl, by decide +kernel, by decide, hts _ kw_398, va_any rfl (hN.2.1 _ (List.mem_of_getElem? (i := 0) rfl)), Or.inl kd_W_lineOf_14, Nat.le_of_ble_eq_true rfl, fun len ⟨ig, hig⟩ => by cases hig.symm.trans kd_W_lineOf_14; exact hb_16⟩ | 1, h1, h2 => by cases h1; cases h2; exact ⟨Nat.le_of_ble_eq_true rfl, by decide +kernel, by decide, hts _ kw_736, va_any rfl (hN.2.1 _ (List.mem_of_getElem? (i := 2) rfl)), Or.inl kd_W_lineOf_18, Nat.le_of_ble_eq_true rfl, fun len ⟨ig, hig⟩ => by cases hig.symm.trans kd_W_lineOf_18; exact hb_20⟩ | n + 2, h1, h2 => by cases h1) E (fun z hz => absurd hz List.not_mem_nil) L w n1 n2 hx9) ?_
    refine wq_last_ok h0 hK kd_W_lineOf_10 ?_
    refine wq_goto_ok (tgt := 22) h0 kd_W_lineOf_11 (by decide) ?_
    exact hb_22
  exact hb_0 _ _ _ _ _ (wq_sp_t hsp)
set_option maxRecDepth 100000 in
set_option maxHeartbeats 4000000 in
theorem kv_W_accept {l : Launch} (hl : l.stackTraces = false) : wq_Vld l kz_cl ky_W_accept kw_T ({ frames := 8, cells := 5, slots := 30, locals := 167 }) wq_G0 ks_W_accept 5 30 := by
  refine wq_methodH (cc := kc_W_accept) (maxL := 4) (ret := (some .int)) (hh := [((0 : Nat), (8 : Nat), (11 : Nat), (13 : Nat)), ((0 : Nat), (8 : Nat), (14 : Nat), (15 : Nat)), ((0 : Nat), (8 : Nat), (17 : Nat), (72 : Nat)), ((0 : Nat), (8 : Nat), (20 : Nat), (78 : Nat))]) (by decide) kw_842 (fun _ _ => rfl) wq_sp_sz ?_
  intro p e s m args below meth c cs D ad as w rt xt hF htab hsp
  obtain ⟨h0, hr, hts, hown, hlk, hnm, hml, hK, hZ, hN, hA⟩ := hF
  have hown : s.vm.findClass "BorderDeskLaw" = some m.cls := hown
  obtain ⟨A, hAe⟩ : ∃ A, A = wq_A ad w s.heap.size := ⟨_, rfl⟩
  rw [← hAe] at hZ hA ⊢
  have hb_12 : wq_Snd p l e ({ frames := 8, cells := 5, slots := 30, locals := 167 } : Room) s m args below meth c 4 cs D kz_cl A (wq_G0 ad w) (wq_Q cs D kz_cl A (wq_G0 ad w) rt xt below s 5 30) 12 (kt_W_accept_12 rt xt) := by
    refine wq_iconst_ok h0 kd_W_accept_12 (by decide +kernel) ?_
    exact wq_ireturn_ok h0 hr hlk kd_W_accept_13
  have hb_15 : wq_Snd p l e ({ frames := 8, cells := 5, slots := 30, locals := 167 } : Room) s m args below meth c 4 cs D kz_cl A (wq_G0 ad w) (wq_Q cs D kz_cl A (wq_G0 ad w) rt xt below s 5 30) 15 (kt_W_accept_15 rt xt) := by
    refine wq_iconst_ok h0 kd_W_accept_15 (by decide +kernel) ?_
    exact wq_ireturn_ok h0 hr hlk kd_W_accept_16
  have hb_18 : wq_Snd p l e ({ frames := 8, cells := 5, slots := 30, locals := 167 } : Room) s m args below meth c 4 cs D kz_cl A (wq_G0 ad w) (wq_Q cs D kz_cl A (wq_G0 ad w) rt xt below s 5 30) 18 (kt_W_accept_18 rt xt) := by
    refine wq_iconst_ok h0 kd_W_accept_18 (by decide +kernel) ?_
    exact wq_ireturn_ok h0 hr hlk kd_W_accept_19
  have hb_21 : wq_Snd p l e ({ frames := 8, cells := 5, slots := 30, locals := 167 } : Room) s m args below meth c 4 cs D kz_cl A (wq_G0 ad w) (wq_Q cs D kz_cl A (wq_G0 ad w) rt xt below s 5 30) 21 (kt_W_accept_21 rt xt) := by
    refine wq_iconst_ok h0 kd_W_accept_21 (by decide +kernel) ?_
    exact wq_ireturn_ok h0 hr hlk kd_W_accept_22
  have hb_23 : wq_Snd p l e ({ frames := 8, cells := 5, slots := 30, locals := 167 } : Room) s m args below meth c 4 cs D kz_cl A (wq_G0 ad w) (wq_Q cs D kz_cl A (wq_G0 ad w) rt xt below s 5 30) 23 (kt_W_accept_23 rt xt) := by
    refine wq_iconst_ok h0 kd_W_accept_23 (by decide +kernel) ?_
    exact wq_ireturn_ok h0 hr hlk kd_W_accept_24
  have hb_0 : wq_Snd p l e ({ frames := 8, cells := 5, slots := 30, locals := 167 } : Room) s m args below meth c 4 cs D kz_cl A (wq_G0 ad w) (wq_Q cs D kz_cl A (wq_G0 ad w) rt xt below s 5 30) 0 (kt_W_accept_0 rt xt) := by
    refine wq_aload_n_ok h0 kd_W_accept_0 rfl ?_
    refine wq_iconst_ok h0 kd_W_accept_1 (by decide +kernel) ?_
    refine wq_aload_n_ok h0 kd_W_accept_2 rfl ?_
    refine wq_iload_n_ok h0 kd_W_accept_3 rfl ?_
    refine wq_call_ok hA (wq_runV (ci := 0) ⟨h0.1, h0.2, hml, hown, hts⟩ (kv_B_accept hl) ⟨(wq_cB hts kw_G kw_847 kw_1 kw_844 ⟨by decide +kernel, by decide +kernel, by decide +kernel⟩ rfl rfl ⟨Nat.le_of_ble_eq_true rfl, Nat.le_of_ble_eq_true rfl⟩), hts _ kw_845, hts _ kw_846⟩ rfl rfl hK hZ hN hA kd_W_accept_4) (fun L E w n1 n2 hx9 => wq_xh_ok hown hN h0 [(0, 3, (kt_W_accept_12 rt xt)), (1, 3, (kt_W_accept_15 rt xt)), (2, 3, (kt_W_accept_18 rt xt)), (3, 3, (kt_W_accept_21 rt xt))] [] (tableOf [((0 : Nat), (8 : Nat), (11 : Nat), (13 : Nat)), ((0 : Nat), (8 : Nat), (14 : Nat), (15 : Nat)), ((0 : Nat), (8 : Nat), (17 : Nat), (72 : Nat)), ((0 : Nat), (8 : Nat), (20 : Nat), (78 : Nat))]) htab (Nat.le_of_ble_eq_true rfl) (fun i q x h1 h2 => match i, h1, h2 with | 0, h1, h2 => by cases h1; cases h2; exact ⟨Nat.le_of_ble_eq_true rfl, by decide +kernel, by decide, hts _ kw_398, va_any rfl (hN.2.1 _ (List.mem_of_getElem? (i := 0) rfl)), Or.inr ⟨3, rfl, kd_W_accept_11⟩, Nat.le_of_ble_eq_true rfl, fun len ⟨ig, hig⟩ => by cases hig.symm.trans kd_W_accept_11; exact hb_12⟩ | 1, h1, h2 => by cases h1; cases h2; exact ⟨Nat.le_of_ble_eq_true rfl, by decide +kernel, by decide, hts _ kw_399, va_any rfl (hN.2.1 _ (List.mem_of_getElem? (i := 1) rfl)), Or.inr ⟨3, rfl, kd_W_accept_14⟩, Nat.le_of_ble_eq_true rfl, fun len ⟨ig, hig⟩ => by cases hig.symm.trans kd_W_accept_14; exact hb_15⟩ | 2, h1, h2 => by cases h1; cases h2; exact ⟨Nat.le_of_ble_eq_true rfl, by decide +kernel, by decide, hts _ kw_736, va_any rfl (hN.2.1 _ (List.mem_of_getElem? (i := 2) rfl)), Or.inr ⟨3, rfl, kd_W_accept_17⟩, Nat.le_of_ble_eq_true rfl, fun len ⟨ig, hig⟩ => by cases hig.symm.trans kd_W_accept_17; exact hb_18⟩ | 3, h1, h2 => by cases h1; cases h2; exact ⟨Nat.le_of_ble_eq_true rfl, by decide +kernel, by decide, hts _ kw_843, va_any rfl (hN.2.1 _ (List.mem_of_getElem? (i := 3) rfl)), Or.inr ⟨3, rfl, kd_W_accept_20⟩, Nat.le_of_ble_eq_true rfl, fun len ⟨ig, hig⟩ => by cases hig.symm.trans kd_W_accept_20; exact hb_21⟩ | n + 4, h1, h2 => by cases h1) E (fun z hz => absurd hz List.not_mem_nil) L w n1 n2 hx9) ?_
    refine wq_last_ok h0 hK kd_W_accept_7 ?_
    refine wq_goto_ok (tgt := 23) h0 kd_W_accept_8 (by decide) ?_
    exact hb_23
  exact hb_0 _ _ _ _ _ (wq_sp_t hsp)
set_option maxRecDepth 100000 in
set_option maxHeartbeats 4000000 in
theorem kv_W_amend {l : Launch} (hl : l.stackTraces = false) : wq_Vld l kz_cl ky_W_amend kw_T ({ frames := 8, cells := 5, slots := 30, locals := 173 }) wq_G0 ks_W_amend 5 30 := by
  refine wq_methodH (cc := kc_W_amend) (maxL := 7) (ret := (some .int)) (hh := [((0 : Nat), (13 : Nat), (16 : Nat), (13 : Nat)), ((0 : Nat), (13 : Nat), (20 : Nat), (15 : Nat)), ((0 : Nat), (13 : Nat), (24 : Nat), (72 : Nat))]) (by decide) kw_892 (fun _ _ => rfl) wq_sp_sz ?_
  intro p e s m args below meth c cs D ad as w rt xt hF htab hsp
  obtain ⟨h0, hr, hts, hown, hlk, hnm, hml, hK, hZ, hN, hA⟩ := hF
  have hown : s.vm.findClass "BorderDeskLaw" = some m.cls := hown
  obtain ⟨A, hAe⟩ : ∃ A, A = wq_A ad w s.heap.size := ⟨_, rfl⟩
  rw [← hAe] at hZ hA ⊢
  have hb_18 : wq_Snd p l e ({ frames := 8, cells := 5, slots := 30, locals := 173 } : Room) s m args below meth c 7 cs D kz_cl A (wq_G0 ad w) (wq_Q cs D kz_cl A (wq_G0 ad w) rt xt below s 5 30) 18 (kt_W_amend_18 rt xt) := by
    refine wq_iconst_ok h0 kd_W_amend_18 (by decide +kernel) ?_
    exact wq_ireturn_ok h0 hr hlk kd_W_amend_19
  have hb_22 : wq_Snd p l e ({ frames := 8, cells := 5, slots := 30, locals := 173 } : Room) s m args below meth c 7 cs D kz_cl A (wq_G0 ad w) (wq_Q cs D kz_cl A (wq_G0 ad w) rt xt below s 5 30) 22 (kt_W_amend_22 rt xt) := by
    refine wq_iconst_ok h0 kd_W_amend_22 (by decide +kernel) ?_
    exact wq_ireturn_ok h0 hr hlk kd_W_amend_23
  have hb_26 : wq_Snd p l e ({ frames := 8, cells := 5, slots := 30, locals := 173 } : Room) s m args below meth c 7 cs D kz_cl A (wq_G0 ad w) (wq_Q cs D kz_cl A (wq_G0 ad w) rt xt below s 5 30) 26 (kt_W_amend_26 rt xt) := by
    refine wq_iconst_ok h0 kd_W_amend_26 (by decide +kernel) ?_
    exact wq_ireturn_ok h0 hr hlk kd_W_amend_27
  have hb_28 : wq_Snd p l e ({ frames := 8, cells := 5, slots := 30, locals := 173 } : Room) s m args below meth c 7 cs D kz_cl A (wq_G0 ad w) (wq_Q cs D kz_cl A (wq_G0 ad w) rt xt below s 5 30) 28 (kt_W_amend_28 rt xt) := by
    refine wq_iconst_ok h0 kd_W_amend_28 (by decide +kernel) ?_
    exact wq_ireturn_ok h0 hr hlk kd_W_amend_29
  have hb_0 : wq_Snd p l e ({ frames := 8, cells := 5, slots := 30, locals := 173 } : Room) s m args below meth c 7 cs D kz_cl A (wq_G0 ad w) (wq_Q cs D kz_cl A (wq_G0 ad w) rt xt below s 5 30) 0 (kt_W_amend_0 rt xt) := by
    refine wq_aload_ok h0 kd_W_amend_0 ?_
    refine wq_iconst_ok h0 kd_W_amend_2 (by decide +kernel) ?_
    refine wq_aload_n_ok h0 kd_W_amend_3 rfl ?_
    refine wq_iload_n_ok h0 kd_W_amend_4 rfl ?_
    refine wq_iload_n_ok h0 kd_W_amend_5 rfl ?_
    refine wq_iload_n_ok h0 kd_W_amend_6 rfl ?_
    refine wq_iload_ok h0 kd_W_amend_7 ?_
    refine wq_call_ok hA (wq_runV (ci := 0) ⟨h0.1, h0.2, hml, hown, hts⟩ (kv_B_amend hl) ⟨(wq_cB hts kw_G kw_896 kw_1 kw_893 ⟨by decide +kernel, by decide +kernel, by decide +kernel⟩ rfl rfl ⟨Nat.le_of_ble_eq_true rfl, Nat.le_of_ble_eq_true rfl⟩), hts _ kw_894, hts _ kw_895⟩ rfl rfl hK hZ hN hA kd_W_amend_9) (fun L E w n1 n2 hx9 => wq_xh_ok hown hN h0 [(0, 6, (kt_W_amend_18 rt xt)), (1, 6, (kt_W_amend_22 rt xt)), (2, 6, (kt_W_amend_26 rt xt))] [] (tableOf [((0 : Nat), (13 : Nat), (16 : Nat), (13 : Nat)), ((0 : Nat), (13 : Nat), (20 : Nat), (15 : Nat)), ((0 : Nat), (13 : Nat), (24 : Nat), (72 : Nat))]) htab (Nat.le_of_ble_eq_true rfl) (fun i q x h1 h2 => match i, h1, h2 with | 0, h1, h2 => by cases h1; cases h2; exact ⟨Nat.le_of_ble_eq_true rfl, by decide +kernel, by decide, hts _ kw_398, va_any rfl (hN.2.1 _ (List.mem_of_getElem? (i := 0) rfl)), Or.inl kd_W_amend_16, Nat.le_of_ble_eq_true rfl, fun len ⟨ig, hig⟩ => by cases hig.symm.trans kd_W_amend_16; exact hb_18⟩ | 1, h1, h2 => by cases h1; cases h2; exact ⟨Nat.le_of_ble_eq_true rfl, by decide +kernel, by decide, hts _ kw_399, va_any rfl (hN.2.1 _ (List.mem_of_getElem? (i := 1) rfl)), Or.inl kd_W_amend_20, Nat.le_of_ble_eq_true rfl, fun len ⟨ig, hig⟩ => by cases hig.symm.trans kd_W_amend_20; exact hb_22⟩ | 2, h1, h2 => by cases h1; cases h2; exact ⟨Nat.le_of_ble_eq_true rfl, by decide +kernel, by decide, hts _ kw_736, va_any rfl (hN.2.1 _ (List.mem_of_getElem? (i := 2) rfl)), Or.inl kd_W_amend_24, Nat.le_of_ble_eq_true rfl, fun len ⟨ig, hig⟩ => by cases hig.symm.trans kd_W_amend_24; exact hb_26⟩ | n + 3, h1, h2 => by cases h1) E (fun z hz => absurd hz List.not_mem_nil) L w n1 n2 hx9) ?_
    refine wq_last_ok h0 hK kd_W_amend_12 ?_
    refine wq_goto_ok (tgt := 28) h0 kd_W_amend_13 (by decide) ?_
    exact hb_28
  exact hb_0 _ _ _ _ _ (wq_sp_t hsp)
set_option maxRecDepth 100000 in
set_option maxHeartbeats 4000000 in
theorem kv_W_release {l : Launch} (hl : l.stackTraces = false) : wq_Vld l kz_cl ky_W_release kw_T ({ frames := 8, cells := 3, slots := 18, locals := 125 }) wq_G0 ks_W_release 3 18 := by
  refine wq_methodH (cc := kc_W_release) (maxL := 5) (ret := (some .int)) (hh := [((0 : Nat), (9 : Nat), (12 : Nat), (13 : Nat)), ((0 : Nat), (9 : Nat), (16 : Nat), (15 : Nat))]) (by decide) kw_919 (fun _ _ => rfl) wq_sp_sz ?_
  intro p e s m args below meth c cs D ad as w rt xt hF htab hsp
  obtain ⟨h0, hr, hts, hown, hlk, hnm, hml, hK, hZ, hN, hA⟩ := hF
  have hown : s.vm.findClass "BorderDeskLaw" = some m.cls := hown
  obtain ⟨A, hAe⟩ : ∃ A, A = wq_A ad w s.heap.size := ⟨_, rfl⟩
  rw [← hAe] at hZ hA ⊢
  have hb_14 : wq_Snd p l e ({ frames := 8, cells := 3, slots := 18, locals := 125 } : Room) s m args below meth c 5 cs D kz_cl A (wq_G0 ad w) (wq_Q cs D kz_cl A (wq_G0 ad w) rt xt below s 3 18) 14 (kt_W_release_14 rt xt) := by
    refine wq_iconst_ok h0 kd_W_release_14 (by decide +kernel) ?_
    exact wq_ireturn_ok h0 hr hlk kd_W_release_15
  have hb_18 : wq_Snd p l e ({ frames := 8, cells := 3, slots := 18, locals := 125 } : Room) s m args below meth c 5 cs D kz_cl A (wq_G0 ad w) (wq_Q cs D kz_cl A (wq_G0 ad w) rt xt below s 3 18) 18 (kt_W_release_18 rt xt) := by
    refine wq_iconst_ok h0 kd_W_release_18 (by decide +kernel) ?_
    exact wq_ireturn_ok h0 hr hlk kd_W_release_19
  have hb_20 : wq_Snd p l e ({ frames := 8, cells := 3, slots := 18, locals := 125 } : Room) s m args below meth c 5 cs D kz_cl A (wq_G0 ad w) (wq_Q cs D kz_cl A (wq_G0 ad w) rt xt below s 3 18) 20 (kt_W_release_20 rt xt) := by
    refine wq_iconst_ok h0 kd_W_release_20 (by decide +kernel) ?_
    exact wq_ireturn_ok h0 hr hlk kd_W_release_21
  have hb_0 : wq_Snd p l e ({ frames := 8, cells := 3, slots := 18, locals := 125 } : Room) s m args below meth c 5 cs D kz_cl A (wq_G0 ad w) (wq_Q cs D kz_cl A (wq_G0 ad w) rt xt below s 3 18) 0 (kt_W_release_0 rt xt) := by
    refine wq_aload_n_ok h0 kd_W_release_0 rfl ?_
    refine wq_iconst_ok h0 kd_W_release_1 (by decide +kernel) ?_
    refine wq_aload_n_ok h0 kd_W_release_2 rfl ?_
    refine wq_iload_n_ok h0 kd_W_release_3 rfl ?_
    refine wq_iload_n_ok h0 kd_W_release_4 rfl ?_
    refine wq_call_ok hA (wq_runV (ci := 0) ⟨h0.1, h0.2, hml, hown, hts⟩ (kv_B_release hl) ⟨(wq_cB hts kw_G kw_923 kw_1 kw_920 ⟨by decide +kernel, by decide +kernel, by decide +kernel⟩ rfl rfl ⟨Nat.le_of_ble_eq_true rfl, Nat.le_of_ble_eq_true rfl⟩), hts _ kw_921, hts _ kw_922⟩ rfl rfl hK hZ hN hA kd_W_release_5) (fun L E w n1 n2 hx9 => wq_xh_ok hown hN h0 [(0, 4, (kt_W_release_14 rt xt)), (1, 4, (kt_W_release_18 rt xt))] [] (tableOf [((0 : Nat), (9 : Nat), (12 : Nat), (13 : Nat)), ((0 : Nat), (9 : Nat), (16 : Nat), (15 : Nat))]) htab (Nat.le_of_ble_eq_true rfl) (fun i q x h1 h2 => match i, h1, h2 with | 0, h1, h2 => by cases h1; cases h2; exact ⟨Nat.le_of_ble_eq_true rfl, by decide +kernel, by decide, hts _ kw_398, va_any rfl (hN.2.1 _ (List.mem_of_getElem? (i := 0) rfl)), Or.inl kd_W_release_12, Nat.le_of_ble_eq_true rfl, fun len ⟨ig, hig⟩ => by cases hig.symm.trans kd_W_release_12; exact hb_14⟩ | 1, h1, h2 => by cases h1; cases h2; exact ⟨Nat.le_of_ble_eq_true rfl, by decide +kernel, by decide, hts _ kw_399, va_any rfl (hN.2.1 _ (List.mem_of_getElem? (i := 1) rfl)), Or.inl kd_W_release_16, Nat.le_of_ble_eq_true rfl, fun len ⟨ig, hig⟩ => by cases hig.symm.trans kd_W_release_16; exact hb_18⟩ | n + 2, h1, h2 => by cases h1) E (fun z hz => absurd hz List.not_mem_nil) L w n1 n2 hx9) ?_
    refine wq_last_ok h0 hK kd_W_release_8 ?_
    refine wq_goto_ok (tgt := 20) h0 kd_W_release_9 (by decide) ?_
    exact hb_20
  exact hb_0 _ _ _ _ _ (wq_sp_t hsp)
set_option maxRecDepth 100000 in
set_option maxHeartbeats 4000000 in
theorem kv_W_export {l : Launch} (hl : l.stackTraces = false) : wq_Vld l kz_cl ky_W_export kw_T ({ frames := 8, cells := 3, slots := 18, locals := 125 }) wq_G0 ks_W_export 3 18 := by
  refine wq_methodH (cc := kc_W_export) (maxL := 5) (ret := (some .int)) (hh := [((0 : Nat), (9 : Nat), (12 : Nat), (13 : Nat)), ((0 : Nat), (9 : Nat), (16 : Nat), (15 : Nat))]) (by decide) kw_939 (fun _ _ => rfl) wq_sp_sz ?_
  intro p e s m args below meth c cs D ad as w rt xt hF htab hsp
  obtain ⟨h0, hr, hts, hown, hlk, hnm, hml, hK, hZ, hN, hA⟩ := hF
  have hown : s.vm.findClass "BorderDeskLaw" = some m.cls := hown
  obtain ⟨A, hAe⟩ : ∃ A, A = wq_A ad w s.heap.size := ⟨_, rfl⟩
  rw [← hAe] at hZ hA ⊢
  have hb_14 : wq_Snd p l e ({ frames := 8, cells := 3, slots := 18, locals := 125 } : Room) s m args below meth c 5 cs D kz_cl A (wq_G0 ad w) (wq_Q cs D kz_cl A (wq_G0 ad w) rt xt below s 3 18) 14 (kt_W_export_14 rt xt) := by
    refine wq_iconst_ok h0 kd_W_export_14 (by decide +kernel) ?_
    exact wq_ireturn_ok h0 hr hlk kd_W_export_15
  have hb_18 : wq_Snd p l e ({ frames := 8, cells := 3, slots := 18, locals := 125 } : Room) s m args below meth c 5 cs D kz_cl A (wq_G0 ad w) (wq_Q cs D kz_cl A (wq_G0 ad w) rt xt below s 3 18) 18 (kt_W_export_18 rt xt) := by
    refine wq_iconst_ok h0 kd_W_export_18 (by decide +kernel) ?_
    exact wq_ireturn_ok h0 hr hlk kd_W_export_19
  have hb_20 : wq_Snd p l e ({ frames := 8, cells := 3, slots := 18, locals := 125 } : Room) s m args below meth c 5 cs D kz_cl A (wq_G0 ad w) (wq_Q cs D kz_cl A (wq_G0 ad w) rt xt below s 3 18) 20 (kt_W_export_20 rt xt) := by
    refine wq_iconst_ok h0 kd_W_export_20 (by decide +kernel) ?_
    exact wq_ireturn_ok h0 hr hlk kd_W_export_21
  have hb_0 : wq_Snd p l e ({ frames := 8, cells := 3, slots := 18, locals := 125 } : Room) s m args below meth c 5 cs D kz_cl A (wq_G0 ad w) (wq_Q cs D kz_cl A (wq_G0 ad w) rt xt below s 3 18) 0 (kt_W_export_0 rt xt) := by
    refine wq_aload_n_ok h0 kd_W_export_0 rfl ?_
    refine wq_iconst_ok h0 kd_W_export_1 (by decide +kernel) ?_
    refine wq_aload_n_ok h0 kd_W_export_2 rfl ?_
    refine wq_iload_n_ok h0 kd_W_export_3 rfl ?_
    refine wq_iload_n_ok h0 kd_W_export_4 rfl ?_
    refine wq_call_ok hA (wq_runV (ci := 0) ⟨h0.1, h0.2, hml, hown, hts⟩ (kv_B_export hl) ⟨(wq_cB hts kw_G kw_943 kw_1 kw_940 ⟨by decide +kernel, by decide +kernel, by decide +kernel⟩ rfl rfl ⟨Nat.le_of_ble_eq_true rfl, Nat.le_of_ble_eq_true rfl⟩), hts _ kw_941, hts _ kw_942⟩ rfl rfl hK hZ hN hA kd_W_export_5) (fun L E w n1 n2 hx9 => wq_xh_ok hown hN h0 [(0, 4, (kt_W_export_14 rt xt)), (1, 4, (kt_W_export_18 rt xt))] [] (tableOf [((0 : Nat), (9 : Nat), (12 : Nat), (13 : Nat)), ((0 : Nat), (9 : Nat), (16 : Nat), (15 : Nat))]) htab (Nat.le_of_ble_eq_true rfl) (fun i q x h1 h2 => match i, h1, h2 with | 0, h1, h2 => by cases h1; cases h2; exact ⟨Nat.le_of_ble_eq_true rfl, by decide +kernel, by decide, hts _ kw_398, va_any rfl (hN.2.1 _ (List.mem_of_getElem? (i := 0) rfl)), Or.inl kd_W_export_12, Nat.le_of_ble_eq_true rfl, fun len ⟨ig, hig⟩ => by cases hig.symm.trans kd_W_export_12; exact hb_14⟩ | 1, h1, h2 => by cases h1; cases h2; exact ⟨Nat.le_of_ble_eq_true rfl, by decide +kernel, by decide, hts _ kw_399, va_any rfl (hN.2.1 _ (List.mem_of_getElem? (i := 1) rfl)), Or.inl kd_W_export_16, Nat.le_of_ble_eq_true rfl, fun len ⟨ig, hig⟩ => by cases hig.symm.trans kd_W_export_16; exact hb_18⟩ | n + 2, h1, h2 => by cases h1) E (fun z hz => absurd hz List.not_mem_nil) L w n1 n2 hx9) ?_
    refine wq_last_ok h0 hK kd_W_export_8 ?_
    refine wq_goto_ok (tgt := 20) h0 kd_W_export_9 (by decide) ?_
    exact hb_20
  exact hb_0 _ _ _ _ _ (wq_sp_t hsp)
set_option maxRecDepth 100000 in
set_option maxHeartbeats 4000000 in
theorem kv_W_work {l : Launch} (hl : l.stackTraces = false) : wq_Vld l kz_cl ky_W_work kw_T ({ frames := 8, cells := 4, slots := 24, locals := 127 }) wq_G0 ks_W_work 4 24 := by
  refine wq_methodH (cc := kc_W_work) (maxL := 7) (ret := (some .int)) (hh := [((0 : Nat), (14 : Nat), (17 : Nat), (13 : Nat)), ((0 : Nat), (14 : Nat), (21 : Nat), (15 : Nat)), ((0 : Nat), (14 : Nat), (25 : Nat), (78 : Nat))]) (by decide) kw_946 (fun _ _ => rfl) wq_sp_sz ?_
  intro p e s m args below meth c cs D ad as w rt xt hF htab hsp
  obtain ⟨h0, hr, hts, hown, hlk, hnm, hml, hK, hZ, hN, hA⟩ := hF
  have hown : s.vm.findClass "BorderDeskLaw" = some m.cls := hown
  obtain ⟨A, hAe⟩ : ∃ A, A = wq_A ad w s.heap.size := ⟨_, rfl⟩
  rw [← hAe] at hZ hA ⊢
  have hb_19 : wq_Snd p l e ({ frames := 8, cells := 4, slots := 24, locals := 127 } : Room) s m args below meth c 7 cs D kz_cl A (wq_G0 ad w) (wq_Q cs D kz_cl A (wq_G0 ad w) rt xt below s 4 24) 19 (kt_W_work_19 rt xt) := by
    refine wq_iconst_ok h0 kd_W_work_19 (by decide +kernel) ?_
    exact wq_ireturn_ok h0 hr hlk kd_W_work_20
  have hb_23 : wq_Snd p l e ({ frames := 8, cells := 4, slots := 24, locals := 127 } : Room) s m args below meth c 7 cs D kz_cl A (wq_G0 ad w) (wq_Q cs D kz_cl A (wq_G0 ad w) rt xt below s 4 24) 23 (kt_W_work_23 rt xt) := by
    refine wq_iconst_ok h0 kd_W_work_23 (by decide +kernel) ?_
    exact wq_ireturn_ok h0 hr hlk kd_W_work_24
  have hb_27 : wq_Snd p l e ({ frames := 8, cells := 4, slots := 24, locals := 127 } : Room) s m args below meth c 7 cs D kz_cl A (wq_G0 ad w) (wq_Q cs D kz_cl A (wq_G0 ad w) rt xt below s 4 24) 27 (kt_W_work_27 rt xt) := by
    refine wq_iconst_ok h0 kd_W_work_27 (by decide +kernel) ?_
    exact wq_ireturn_ok h0 hr hlk kd_W_work_28
  have hb_29 : wq_Snd p l e ({ frames := 8, cells := 4, slots := 24, locals := 127 } : Room) s m args below meth c 7 cs D kz_cl A (wq_G0 ad w) (wq_Q cs D kz_cl A (wq_G0 ad w) rt xt below s 4 24) 29 (kt_W_work_29 rt xt) := by
    refine wq_iconst_ok h0 kd_W_work_29 (by decide +kernel) ?_
    exact wq_ireturn_ok h0 hr hlk kd_W_work_30
  have hb_0 : wq_Snd p l e ({ frames := 8, cells := 4, slots := 24, locals := 127 } : Room) s m args below meth c 7 cs D kz_cl A (wq_G0 ad w) (wq_Q cs D kz_cl A (wq_G0 ad w) rt xt below s 4 24) 0 (kt_W_work_0 rt xt) := by
    refine wq_aload_ok h0 kd_W_work_0 ?_
    refine wq_iconst_ok h0 kd_W_work_2 (by decide +kernel) ?_
    refine wq_aload_n_ok h0 kd_W_work_3 rfl ?_
    refine wq_iload_n_ok h0 kd_W_work_4 rfl ?_
    refine wq_iload_n_ok h0 kd_W_work_5 rfl ?_
    refine wq_iload_n_ok h0 kd_W_work_6 rfl ?_
    refine wq_iload_ok h0 kd_W_work_7 ?_
    refine wq_call_ok hA (wq_runV (ci := 0) ⟨h0.1, h0.2, hml, hown, hts⟩ (kv_B_work hl) ⟨(wq_cB hts kw_G kw_950 kw_1 kw_947 ⟨by decide +kernel, by decide +kernel, by decide +kernel⟩ rfl rfl ⟨Nat.le_of_ble_eq_true rfl, Nat.le_of_ble_eq_true rfl⟩), hts _ kw_948, hts _ kw_949⟩ rfl rfl hK hZ hN hA kd_W_work_9) (fun L E w n1 n2 hx9 => wq_xh_ok hown hN h0 [(0, 6, (kt_W_work_19 rt xt)), (1, 6, (kt_W_work_23 rt xt)), (3, 6, (kt_W_work_27 rt xt))] [] (tableOf [((0 : Nat), (14 : Nat), (17 : Nat), (13 : Nat)), ((0 : Nat), (14 : Nat), (21 : Nat), (15 : Nat)), ((0 : Nat), (14 : Nat), (25 : Nat), (78 : Nat))]) htab (Nat.le_of_ble_eq_true rfl) (fun i q x h1 h2 => match i, h1, h2 with | 0, h1, h2 => by cases h1; cases h2; exact ⟨Nat.le_of_ble_eq_true rfl, by decide +kernel, by decide, hts _ kw_398, va_any rfl (hN.2.1 _ (List.mem_of_getElem? (i := 0) rfl)), Or.inl kd_W_work_17, Nat.le_of_ble_eq_true rfl, fun len ⟨ig, hig⟩ => by cases hig.symm.trans kd_W_work_17; exact hb_19⟩ | 1, h1, h2 => by cases h1; cases h2; exact ⟨Nat.le_of_ble_eq_true rfl, by decide +kernel, by decide, hts _ kw_399, va_any rfl (hN.2.1 _ (List.mem_of_getElem? (i := 1) rfl)), Or.inl kd_W_work_21, Nat.le_of_ble_eq_true rfl, fun len ⟨ig, hig⟩ => by cases hig.symm.trans kd_W_work_21; exact hb_23⟩ | 2, h1, h2 => by cases h1; cases h2; exact ⟨Nat.le_of_ble_eq_true rfl, by decide +kernel, by decide, hts _ kw_843, va_any rfl (hN.2.1 _ (List.mem_of_getElem? (i := 3) rfl)), Or.inl kd_W_work_25, Nat.le_of_ble_eq_true rfl, fun len ⟨ig, hig⟩ => by cases hig.symm.trans kd_W_work_25; exact hb_27⟩ | n + 3, h1, h2 => by cases h1) E (fun z hz => absurd hz List.not_mem_nil) L w n1 n2 hx9) ?_
    refine wq_i2l_ok h0 kd_W_work_12 ?_
    refine wq_last_ok h0 hK kd_W_work_13 ?_
    refine wq_goto_ok (tgt := 29) h0 kd_W_work_14 (by decide) ?_
    exact hb_29
  exact hb_0 _ _ _ _ _ (wq_sp_t hsp)
set_option maxRecDepth 100000 in
set_option maxHeartbeats 4000000 in
theorem kv_W_lot {l : Launch} (hl : l.stackTraces = false) : wq_Vld l kz_cl ky_W_lot kw_T ({ frames := 8, cells := 2, slots := 12, locals := 123 }) wq_G0 ks_W_lot 2 12 := by
  refine wq_methodH (cc := kc_W_lot) (maxL := 5) (ret := (some .int)) (hh := [((0 : Nat), (9 : Nat), (12 : Nat), (13 : Nat))]) (by decide) kw_953 (fun _ _ => rfl) wq_sp_sz ?_
  intro p e s m args below meth c cs D ad as w rt xt hF htab hsp
  obtain ⟨h0, hr, hts, hown, hlk, hnm, hml, hK, hZ, hN, hA⟩ := hF
  have hown : s.vm.findClass "BorderDeskLaw" = some m.cls := hown
  obtain ⟨A, hAe⟩ : ∃ A, A = wq_A ad w s.heap.size := ⟨_, rfl⟩
  rw [← hAe] at hZ hA ⊢
  have hb_14 : wq_Snd p l e ({ frames := 8, cells := 2, slots := 12, locals := 123 } : Room) s m args below meth c 5 cs D kz_cl A (wq_G0 ad w) (wq_Q cs D kz_cl A (wq_G0 ad w) rt xt below s 2 12) 14 (kt_W_lot_14 rt xt) := by
    refine wq_iconst_ok h0 kd_W_lot_14 (by decide +kernel) ?_
    exact wq_ireturn_ok h0 hr hlk kd_W_lot_15
  have hb_16 : wq_Snd p l e ({ frames := 8, cells := 2, slots := 12, locals := 123 } : Room) s m args below meth c 5 cs D kz_cl A (wq_G0 ad w) (wq_Q cs D kz_cl A (wq_G0 ad w) rt xt below s 2 12) 16 (kt_W_lot_16 rt xt) := by
    refine wq_iconst_ok h0 kd_W_lot_16 (by decide +kernel) ?_
    exact wq_ireturn_ok h0 hr hlk kd_W_lot_17
  have hb_0 : wq_Snd p l e ({ frames := 8, cells := 2, slots := 12, locals := 123 } : Room) s m args below meth c 5 cs D kz_cl A (wq_G0 ad w) (wq_Q cs D kz_cl A (wq_G0 ad w) rt xt below s 2 12) 0 (kt_W_lot_0 rt xt) := by
    refine wq_aload_n_ok h0 kd_W_lot_0 rfl ?_
    refine wq_iconst_ok h0 kd_W_lot_1 (by decide +kernel) ?_
    refine wq_aload_n_ok h0 kd_W_lot_2 rfl ?_
    refine wq_iload_n_ok h0 kd_W_lot_3 rfl ?_
    refine wq_iload_n_ok h0 kd_W_lot_4 rfl ?_
    refine wq_call_ok hA (wq_runV (ci := 0) ⟨h0.1, h0.2, hml, hown, hts⟩ (kv_B_lot hl) ⟨(wq_cB hts kw_G kw_957 kw_1 kw_954 ⟨by decide +kernel, by decide +kernel, by decide +kernel⟩ rfl rfl ⟨Nat.le_of_ble_eq_true rfl, Nat.le_of_ble_eq_true rfl⟩), hts _ kw_955, hts _ kw_956⟩ rfl rfl hK hZ hN hA kd_W_lot_5) (fun L E w n1 n2 hx9 => wq_xh_ok hown hN h0 [(0, 4, (kt_W_lot_14 rt xt))] [] (tableOf [((0 : Nat), (9 : Nat), (12 : Nat), (13 : Nat))]) htab (Nat.le_of_ble_eq_true rfl) (fun i q x h1 h2 => match i, h1, h2 with | 0, h1, h2 => by cases h1; cases h2; exact ⟨Nat.le_of_ble_eq_true rfl, by decide +kernel, by decide, hts _ kw_398, va_any rfl (hN.2.1 _ (List.mem_of_getElem? (i := 0) rfl)), Or.inl kd_W_lot_12, Nat.le_of_ble_eq_true rfl, fun len ⟨ig, hig⟩ => by cases hig.symm.trans kd_W_lot_12; exact hb_14⟩ | n + 1, h1, h2 => by cases h1) E (fun z hz => absurd hz List.not_mem_nil) L w n1 n2 hx9) ?_
    refine wq_last_ok h0 hK kd_W_lot_8 ?_
    refine wq_goto_ok (tgt := 16) h0 kd_W_lot_9 (by decide) ?_
    exact hb_16
  exact hb_0 _ _ _ _ _ (wq_sp_t hsp)
set_option maxRecDepth 100000 in
set_option maxHeartbeats 4000000 in
theorem kv_W_account {l : Launch} (hl : l.stackTraces = false) : wq_Vld l kz_cl ky_W_account kw_T ({ frames := 8, cells := 2, slots := 12, locals := 123 }) wq_G0 ks_W_account 2 12 := by
  refine wq_methodH (cc := kc_W_account) (maxL := 5) (ret := (some .int)) (hh := [((0 : Nat), (9 : Nat), (12 : Nat), (13 : Nat))]) (by decide) kw_960 (fun _ _ => rfl) wq_sp_sz ?_
  intro p e s m args below meth c cs D ad as w rt xt hF htab hsp
  obtain ⟨h0, hr, hts, hown, hlk, hnm, hml, hK, hZ, hN, hA⟩ := hF
  have hown : s.vm.findClass "BorderDeskLaw" = some m.cls := hown
  obtain ⟨A, hAe⟩ : ∃ A, A = wq_A ad w s.heap.size := ⟨_, rfl⟩
  rw [← hAe] at hZ hA ⊢
  have hb_14 : wq_Snd p l e ({ frames := 8, cells := 2, slots := 12, locals := 123 } : Room) s m args below meth c 5 cs D kz_cl A (wq_G0 ad w) (wq_Q cs D kz_cl A (wq_G0 ad w) rt xt below s 2 12) 14 (kt_W_account_14 rt xt) := by
    refine wq_iconst_ok h0 kd_W_account_14 (by decide +kernel) ?_
    exact wq_ireturn_ok h0 hr hlk kd_W_account_15
  have hb_16 : wq_Snd p l e ({ frames := 8, cells := 2, slots := 12, locals := 123 } : Room) s m args below meth c 5 cs D kz_cl A (wq_G0 ad w) (wq_Q cs D kz_cl A (wq_G0 ad w) rt xt below s 2 12) 16 (kt_W_account_16 rt xt) := by
    refine wq_iconst_ok h0 kd_W_account_16 (by decide +kernel) ?_
    exact wq_ireturn_ok h0 hr hlk kd_W_account_17
  have hb_0 : wq_Snd p l e ({ frames := 8, cells := 2, slots := 12, locals := 123 } : Room) s m args below meth c 5 cs D kz_cl A (wq_G0 ad w) (wq_Q cs D kz_cl A (wq_G0 ad w) rt xt below s 2 12) 0 (kt_W_account_0 rt xt) := by
    refine wq_aload_n_ok h0 kd_W_account_0 rfl ?_
    refine wq_iconst_ok h0 kd_W_account_1 (by decide +kernel) ?_
    refine wq_aload_n_ok h0 kd_W_account_2 rfl ?_
    refine wq_iload_n_ok h0 kd_W_account_3 rfl ?_
    refine wq_iload_n_ok h0 kd_W_account_4 rfl ?_
    refine wq_call_ok hA (wq_runV (ci := 0) ⟨h0.1, h0.2, hml, hown, hts⟩ (kv_B_account hl) ⟨(wq_cB hts kw_G kw_964 kw_1 kw_961 ⟨by decide +kernel, by decide +kernel, by decide +kernel⟩ rfl rfl ⟨Nat.le_of_ble_eq_true rfl, Nat.le_of_ble_eq_true rfl⟩), hts _ kw_962, hts _ kw_963⟩ rfl rfl hK hZ hN hA kd_W_account_5) (fun L E w n1 n2 hx9 => wq_xh_ok hown hN h0 [(0, 4, (kt_W_account_14 rt xt))] [] (tableOf [((0 : Nat), (9 : Nat), (12 : Nat), (13 : Nat))]) htab (Nat.le_of_ble_eq_true rfl) (fun i q x h1 h2 => match i, h1, h2 with | 0, h1, h2 => by cases h1; cases h2; exact ⟨Nat.le_of_ble_eq_true rfl, by decide +kernel, by decide, hts _ kw_398, va_any rfl (hN.2.1 _ (List.mem_of_getElem? (i := 0) rfl)), Or.inl kd_W_account_12, Nat.le_of_ble_eq_true rfl, fun len ⟨ig, hig⟩ => by cases hig.symm.trans kd_W_account_12; exact hb_14⟩ | n + 1, h1, h2 => by cases h1) E (fun z hz => absurd hz List.not_mem_nil) L w n1 n2 hx9) ?_
    refine wq_last_ok h0 hK kd_W_account_8 ?_
    refine wq_goto_ok (tgt := 16) h0 kd_W_account_9 (by decide) ?_
    exact hb_16
  exact hb_0 _ _ _ _ _ (wq_sp_t hsp)
set_option maxRecDepth 100000 in
set_option maxHeartbeats 4000000 in
theorem kv_W_books {l : Launch} (hl : l.stackTraces = false) : wq_Vld l kz_cl ky_W_books kw_T ({ frames := 8, cells := 1, slots := 6, locals := 122 }) wq_G0 ks_W_books 1 6 := by
  refine wq_methodH (cc := kc_W_books) (maxL := 4) (ret := (some .int)) (hh := [((0 : Nat), (8 : Nat), (11 : Nat), (13 : Nat))]) (by decide) kw_971 (fun _ _ => rfl) wq_sp_sz ?_
  intro p e s m args below meth c cs D ad as w rt xt hF htab hsp
  obtain ⟨h0, hr, hts, hown, hlk, hnm, hml, hK, hZ, hN, hA⟩ := hF
  have hown : s.vm.findClass "BorderDeskLaw" = some m.cls := hown
  obtain ⟨A, hAe⟩ : ∃ A, A = wq_A ad w s.heap.size := ⟨_, rfl⟩
  rw [← hAe] at hZ hA ⊢
  have hb_12 : wq_Snd p l e ({ frames := 8, cells := 1, slots := 6, locals := 122 } : Room) s m args below meth c 4 cs D kz_cl A (wq_G0 ad w) (wq_Q cs D kz_cl A (wq_G0 ad w) rt xt below s 1 6) 12 (kt_W_books_12 rt xt) := by
    refine wq_iconst_ok h0 kd_W_books_12 (by decide +kernel) ?_
    exact wq_ireturn_ok h0 hr hlk kd_W_books_13
  have hb_14 : wq_Snd p l e ({ frames := 8, cells := 1, slots := 6, locals := 122 } : Room) s m args below meth c 4 cs D kz_cl A (wq_G0 ad w) (wq_Q cs D kz_cl A (wq_G0 ad w) rt xt below s 1 6) 14 (kt_W_books_14 rt xt) := by
    refine wq_iconst_ok h0 kd_W_books_14 (by decide +kernel) ?_
    exact wq_ireturn_ok h0 hr hlk kd_W_books_15
  have hb_0 : wq_Snd p l e ({ frames := 8, cells := 1, slots := 6, locals := 122 } : Room) s m args below meth c 4 cs D kz_cl A (wq_G0 ad w) (wq_Q cs D kz_cl A (wq_G0 ad w) rt xt below s 1 6) 0 (kt_W_books_0 rt xt) := by
    refine wq_aload_n_ok h0 kd_W_books_0 rfl ?_
    refine wq_iconst_ok h0 kd_W_books_1 (by decide +kernel) ?_
    refine wq_aload_n_ok h0 kd_W_books_2 rfl ?_
    refine wq_iload_n_ok h0 kd_W_books_3 rfl ?_
    refine wq_call_ok hA (wq_runV (ci := 0) ⟨h0.1, h0.2, hml, hown, hts⟩ (kv_B_books hl) ⟨(wq_cB hts kw_G kw_975 kw_1 kw_972 ⟨by decide +kernel, by decide +kernel, by decide +kernel⟩ rfl rfl ⟨Nat.le_of_ble_eq_true rfl, Nat.le_of_ble_eq_true rfl⟩), hts _ kw_973, hts _ kw_974⟩ rfl rfl hK hZ hN hA kd_W_books_4) (fun L E w n1 n2 hx9 => wq_xh_ok hown hN h0 [(0, 3, (kt_W_books_12 rt xt))] [] (tableOf [((0 : Nat), (8 : Nat), (11 : Nat), (13 : Nat))]) htab (Nat.le_of_ble_eq_true rfl) (fun i q x h1 h2 => match i, h1, h2 with | 0, h1, h2 => by cases h1; cases h2; exact ⟨Nat.le_of_ble_eq_true rfl, by decide +kernel, by decide, hts _ kw_398, va_any rfl (hN.2.1 _ (List.mem_of_getElem? (i := 0) rfl)), Or.inr ⟨3, rfl, kd_W_books_11⟩, Nat.le_of_ble_eq_true rfl, fun len ⟨ig, hig⟩ => by cases hig.symm.trans kd_W_books_11; exact hb_12⟩ | n + 1, h1, h2 => by cases h1) E (fun z hz => absurd hz List.not_mem_nil) L w n1 n2 hx9) ?_
    refine wq_last_ok h0 hK kd_W_books_7 ?_
    refine wq_goto_ok (tgt := 14) h0 kd_W_books_8 (by decide) ?_
    exact hb_14
  exact hb_0 _ _ _ _ _ (wq_sp_t hsp)
