set_option maxRecDepth 100000 in
set_option maxHeartbeats 4000000 in
theorem kv_R_add {l : Launch} (hl : l.stackTraces = false) : wq_Vld l kz_cl ky_R_add kw_T ({ frames := 0, cells := 0, slots := 0, locals := 0 }) wq_G0 ks_R_add 0 0 := by
  refine wq_method (cc := kc_R_add) (maxL := 9) (ret := (some .int)) (by decide) kw_582 (fun _ _ => rfl) wq_sp_sz ?_
  intro p e s m args below meth c cs D ad as w rt xt hF hnt hsp
  obtain ⟨h0, hr, hts, hown, hlk, hnm, hml, hK, hZ, hN, hA⟩ := hF
  have hown : s.vm.findClass "BorderDesk$Rates" = some m.cls := hown
  obtain ⟨A, hAe⟩ : ∃ A, A = wq_A ad w s.heap.size := ⟨_, rfl⟩
  rw [← hAe] at hZ hA ⊢
  have hb_0 : wq_Snd p l e ({ frames := 0, cells := 0, slots := 0, locals := 0 } : Room) s m args below meth c 9 cs D kz_cl A (wq_G0 ad w) (wq_Q cs D kz_cl A (wq_G0 ad w) rt xt below s 0 0) 0 (kt_R_add_0 rt xt) := by
    refine wq_aload_n_ok h0 kd_R_add_0 rfl ?_
    refine wq_get_ok (wq_getOK h0 hts ki_R hown hK (ci := 2) rfl 1 (Nat.le_of_ble_eq_true rfl) kw_94 rfl) kd_R_add_1 ?_
    refine wq_istore_ok h0 kd_R_add_4 (Nat.le_of_ble_eq_true rfl) ?_
    refine wq_aload_n_ok h0 kd_R_add_6 rfl ?_
    refine wq_get_ok (wq_getOK h0 hts ki_R hown hK (ci := 2) rfl 2 (Nat.le_of_ble_eq_true rfl) kw_96 rfl) kd_R_add_7 ?_
    refine wq_iload_ok h0 kd_R_add_10 ?_
    refine wq_iload_n_ok h0 kd_R_add_12 rfl ?_
    refine wq_iast_ok h0 hK kd_R_add_13 ?_
    refine wq_aload_n_ok h0 kd_R_add_14 rfl ?_
    refine wq_get_ok (wq_getOK h0 hts ki_R hown hK (ci := 2) rfl 3 (Nat.le_of_ble_eq_true rfl) kw_97 rfl) kd_R_add_15 ?_
    refine wq_iload_ok h0 kd_R_add_18 ?_
    refine wq_iload_n_ok h0 kd_R_add_20 rfl ?_
    refine wq_iast_ok h0 hK kd_R_add_21 ?_
    refine wq_aload_n_ok h0 kd_R_add_22 rfl ?_
    refine wq_get_ok (wq_getOK h0 hts ki_R hown hK (ci := 2) rfl 4 (Nat.le_of_ble_eq_true rfl) kw_98 rfl) kd_R_add_23 ?_
    refine wq_iload_ok h0 kd_R_add_26 ?_
    refine wq_iload_n_ok h0 kd_R_add_28 rfl ?_
    refine wq_iast_ok h0 hK kd_R_add_29 ?_
    refine wq_aload_n_ok h0 kd_R_add_30 rfl ?_
    refine wq_get_ok (wq_getOK h0 hts ki_R hown hK (ci := 2) rfl 5 (Nat.le_of_ble_eq_true rfl) kw_99 rfl) kd_R_add_31 ?_
    refine wq_iload_ok h0 kd_R_add_34 ?_
    refine wq_iload_ok h0 kd_R_add_36 ?_
    refine wq_iast_ok h0 hK kd_R_add_38 ?_
    refine wq_aload_n_ok h0 kd_R_add_39 rfl ?_
    refine wq_get_ok (wq_getOK h0 hts ki_R hown hK (ci := 2) rfl 6 (Nat.le_of_ble_eq_true rfl) kw_100 rfl) kd_R_add_40 ?_
    refine wq_iload_ok h0 kd_R_add_43 ?_
    refine wq_iload_ok h0 kd_R_add_45 ?_
    refine wq_iast_ok h0 hK kd_R_add_47 ?_
    refine wq_aload_n_ok h0 kd_R_add_48 rfl ?_
    refine wq_get_ok (wq_getOK h0 hts ki_R hown hK (ci := 2) rfl 7 (Nat.le_of_ble_eq_true rfl) kw_101 rfl) kd_R_add_49 ?_
    refine wq_iload_ok h0 kd_R_add_52 ?_
    refine wq_iload_ok h0 kd_R_add_54 ?_
    refine wq_iast_ok h0 hK kd_R_add_56 ?_
    refine wq_aload_n_ok h0 kd_R_add_57 rfl ?_
    refine wq_get_ok (wq_getOK h0 hts ki_R hown hK (ci := 2) rfl 8 (Nat.le_of_ble_eq_true rfl) kw_102 rfl) kd_R_add_58 ?_
    refine wq_iload_ok h0 kd_R_add_61 ?_
    refine wq_iload_ok h0 kd_R_add_63 ?_
    refine wq_iast_ok h0 hK kd_R_add_65 ?_
    refine wq_aload_n_ok h0 kd_R_add_66 rfl ?_
    refine wq_dup_ok h0 kd_R_add_67 ?_
    refine wq_get_ok (wq_getOK h0 hts ki_R hown hK (ci := 2) rfl 1 (Nat.le_of_ble_eq_true rfl) kw_94 rfl) kd_R_add_68 ?_
    refine wq_iconst_ok h0 kd_R_add_71 (by decide +kernel) ?_
    refine wq_iadd_ok h0 kd_R_add_72 ?_
    refine wq_put_ok (wq_putOK h0 hts ki_R ka_R kb_R kn_R hown hK (ci := 2) rfl 1 (Nat.le_of_ble_eq_true rfl) kw_94 rfl (Or.inl rfl) wq_okI) kd_R_add_73 ?_
    refine wq_iload_ok h0 kd_R_add_76 ?_
    exact wq_ireturn_ok h0 hr hlk kd_R_add_78
  exact hb_0 _ _ _ _ _ (wq_sp_t hsp)
set_option maxRecDepth 100000 in
set_option maxHeartbeats 4000000 in
theorem kv_R_lastOwn {l : Launch} (hl : l.stackTraces = false) : wq_Vld l kz_cl ky_R_lastOwn kw_T ({ frames := 1, cells := 0, slots := 0, locals := 22 }) wq_G0 ks_R_lastOwn 0 0 := by
  refine wq_method (cc := kc_R_lastOwn) (maxL := 5) (ret := (some .int)) (by decide) kw_597 (fun _ _ => rfl) wq_sp_sz ?_
  intro p e s m args below meth c cs D ad as w rt xt hF hnt hsp
  obtain ⟨h0, hr, hts, hown, hlk, hnm, hml, hK, hZ, hN, hA⟩ := hF
  have hown : s.vm.findClass "BorderDesk$Rates" = some m.cls := hown
  obtain ⟨A, hAe⟩ : ∃ A, A = wq_A ad w s.heap.size := ⟨_, rfl⟩
  rw [← hAe] at hZ hA ⊢
  have hall : ∀ K : Nat → wq_T, (∀ pc, pc ∈ [8] → wq_Snd p l e ({ frames := 1, cells := 0, slots := 0, locals := 22 } : Room) s m args below meth c 5 cs D kz_cl A (wq_G0 ad w) (wq_Q cs D kz_cl A (wq_G0 ad w) rt xt below s 0 0) pc (K pc)) → (∀ pc, pc ∈ [8] → wq_Snd p l e ({ frames := 1, cells := 0, slots := 0, locals := 22 } : Room) s m args below meth c 5 cs D kz_cl A (wq_G0 ad w) (wq_Q cs D kz_cl A (wq_G0 ad w) rt xt below s 0 0) pc (cond (Nat.beq pc 8) (kh_R_lastOwn_8 rt xt K) (fun _ _ _ _ _ => False))) ∧ wq_Snd p l e ({ frames := 1, cells := 0, slots := 0, locals := 22 } : Room) s m args below meth c 5 cs D kz_cl A (wq_G0 ad w) (wq_Q cs D kz_cl A (wq_G0 ad w) rt xt below s 0 0) 0 (kt_R_lastOwn_0 rt xt K) := by
    intro K hKc
    have hb_65 : wq_Snd p l e ({ frames := 1, cells := 0, slots := 0, locals := 22 } : Room) s m args below meth c 5 cs D kz_cl A (wq_G0 ad w) (wq_Q cs D kz_cl A (wq_G0 ad w) rt xt below s 0 0) 65 (kt_R_lastOwn_65 rt xt K) := by
      refine wq_iconst_ok h0 kd_R_lastOwn_65 (by decide +kernel) ?_
      exact wq_ireturn_ok h0 hr hlk kd_R_lastOwn_66
    have hb_59 : wq_Snd p l e ({ frames := 1, cells := 0, slots := 0, locals := 22 } : Room) s m args below meth c 5 cs D kz_cl A (wq_G0 ad w) (wq_Q cs D kz_cl A (wq_G0 ad w) rt xt below s 0 0) 59 (kt_R_lastOwn_59 rt xt K) := by
      refine wq_iinc_ok h0 kd_R_lastOwn_59 (by decide +kernel) (Nat.le_of_ble_eq_true rfl) ?_
      refine wq_goto_ok (tgt := 8) h0 kd_R_lastOwn_62 (by decide) ?_
      exact wq_can_ok (hKc 8 (by decide))
    have hb_8 : wq_Snd p l e ({ frames := 1, cells := 0, slots := 0, locals := 22 } : Room) s m args below meth c 5 cs D kz_cl A (wq_G0 ad w) (wq_Q cs D kz_cl A (wq_G0 ad w) rt xt below s 0 0) 8 (kh_R_lastOwn_8 rt xt K) := by
      refine wq_iload_ok h0 kd_R_lastOwn_8 ?_
      refine wq_if_lt_ok (tgt := 65) h0 kd_R_lastOwn_10 (by decide) ?_ ?_
      · exact hb_65
      refine wq_aload_n_ok h0 kd_R_lastOwn_13 rfl ?_
      refine wq_get_ok (wq_getOK h0 hts ki_R hown hK (ci := 2) rfl 2 (Nat.le_of_ble_eq_true rfl) kw_96 rfl) kd_R_lastOwn_14 ?_
      refine wq_iload_ok h0 kd_R_lastOwn_17 ?_
      refine wq_iald_ok h0 hK kd_R_lastOwn_19 ?_
      refine wq_iload_n_ok h0 kd_R_lastOwn_20 rfl ?_
      refine wq_icmp_ne_ok (tgt := 59) h0 kd_R_lastOwn_21 (by decide) ?_ ?_
      · exact hb_59
      refine wq_aload_n_ok h0 kd_R_lastOwn_24 rfl ?_
      refine wq_get_ok (wq_getOK h0 hts ki_R hown hK (ci := 2) rfl 3 (Nat.le_of_ble_eq_true rfl) kw_97 rfl) kd_R_lastOwn_25 ?_
      refine wq_iload_ok h0 kd_R_lastOwn_28 ?_
      refine wq_iald_ok h0 hK kd_R_lastOwn_30 ?_
      refine wq_iload_n_ok h0 kd_R_lastOwn_31 rfl ?_
      refine wq_icmp_ne_ok (tgt := 59) h0 kd_R_lastOwn_32 (by decide) ?_ ?_
      · exact hb_59
      refine wq_iload_n_ok h0 kd_R_lastOwn_35 rfl ?_
      refine wq_aload_n_ok h0 kd_R_lastOwn_36 rfl ?_
      refine wq_get_ok (wq_getOK h0 hts ki_R hown hK (ci := 2) rfl 7 (Nat.le_of_ble_eq_true rfl) kw_101 rfl) kd_R_lastOwn_37 ?_
      refine wq_iload_ok h0 kd_R_lastOwn_40 ?_
      refine wq_iald_ok h0 hK kd_R_lastOwn_42 ?_
      refine wq_aload_n_ok h0 kd_R_lastOwn_43 rfl ?_
      refine wq_get_ok (wq_getOK h0 hts ki_R hown hK (ci := 2) rfl 8 (Nat.le_of_ble_eq_true rfl) kw_102 rfl) kd_R_lastOwn_44 ?_
      refine wq_iload_ok h0 kd_R_lastOwn_47 ?_
      refine wq_iald_ok h0 hK kd_R_lastOwn_49 ?_
      refine wq_call_ok hA (wq_runSN ⟨h0.1, h0.2, hml, hown, hts⟩ (kv_B_isWithin hl) ⟨(wq_cN hts kw_G kw_517 kw_1 (va_Nw.use rfl (hN.2.2.1 _ (List.mem_of_getElem? (i := 4) rfl))) ⟨by decide +kernel, by decide +kernel, by decide +kernel⟩ rfl rfl ⟨Nat.le_of_ble_eq_true rfl, Nat.le_of_ble_eq_true rfl⟩), hts _ kw_516⟩ hK hZ hN hA kd_R_lastOwn_50) (wq_xout_ok hnt hlk) ?_
      refine wq_if_eq_ok (tgt := 59) h0 kd_R_lastOwn_53 (by decide) ?_ ?_
      · exact hb_59
      refine wq_iload_ok h0 kd_R_lastOwn_56 ?_
      exact wq_ireturn_ok h0 hr hlk kd_R_lastOwn_58
    have hb_0 : wq_Snd p l e ({ frames := 1, cells := 0, slots := 0, locals := 22 } : Room) s m args below meth c 5 cs D kz_cl A (wq_G0 ad w) (wq_Q cs D kz_cl A (wq_G0 ad w) rt xt below s 0 0) 0 (kt_R_lastOwn_0 rt xt K) := by
      refine wq_aload_n_ok h0 kd_R_lastOwn_0 rfl ?_
      refine wq_get_ok (wq_getOK h0 hts ki_R hown hK (ci := 2) rfl 1 (Nat.le_of_ble_eq_true rfl) kw_94 rfl) kd_R_lastOwn_1 ?_
      refine wq_iconst_ok h0 kd_R_lastOwn_4 (by decide +kernel) ?_
      refine wq_isub_ok h0 kd_R_lastOwn_5 ?_
      refine wq_istore_ok h0 kd_R_lastOwn_6 (Nat.le_of_ble_eq_true rfl) ?_
      exact wq_can_ok (hKc 8 (by decide))
    refine ⟨?_, hb_0⟩
    exact List.forall_mem_cons.mpr ⟨hb_8, fun _ h => absurd h List.not_mem_nil⟩
  have hun : ∀ (n pc : Nat), pc ∈ [8] → wq_Snd p l e ({ frames := 1, cells := 0, slots := 0, locals := 22 } : Room) s m args below meth c 5 cs D kz_cl A (wq_G0 ad w) (wq_Q cs D kz_cl A (wq_G0 ad w) rt xt below s 0 0) pc (ku_R_lastOwn rt xt n pc) := by
    intro n
    induction n with
    | zero => intro pc _ L S w9 n1 n2 h; exact h.elim
    | succ n ih => intro pc hpc; exact (hall (ku_R_lastOwn rt xt n) ih).1 pc hpc
  exact (hall (ku_R_lastOwn rt xt 1000000000000) (hun 1000000000000)).2 _ _ _ _ _ (wq_sp_t hsp)
set_option maxRecDepth 100000 in
set_option maxHeartbeats 4000000 in
theorem kv_R_find {l : Launch} (hl : l.stackTraces = false) : wq_Vld l kz_cl ky_R_find kw_T ({ frames := 2, cells := 0, slots := 0, locals := 46 }) wq_G0 ks_R_find 0 0 := by
  refine wq_method (cc := kc_R_find) (maxL := 7) (ret := (some .int)) (by decide) kw_593 (fun _ _ => rfl) wq_sp_sz ?_
  intro p e s m args below meth c cs D ad as w rt xt hF hnt hsp
  obtain ⟨h0, hr, hts, hown, hlk, hnm, hml, hK, hZ, hN, hA⟩ := hF
  have hown : s.vm.findClass "BorderDesk$Rates" = some m.cls := hown
  obtain ⟨A, hAe⟩ : ∃ A, A = wq_A ad w s.heap.size := ⟨_, rfl⟩
  rw [← hAe] at hZ hA ⊢
  have hall : ∀ K : Nat → wq_T, (∀ pc, pc ∈ [6] → wq_Snd p l e ({ frames := 2, cells := 0, slots := 0, locals := 46 } : Room) s m args below meth c 7 cs D kz_cl A (wq_G0 ad w) (wq_Q cs D kz_cl A (wq_G0 ad w) rt xt below s 0 0) pc (K pc)) → (∀ pc, pc ∈ [6] → wq_Snd p l e ({ frames := 2, cells := 0, slots := 0, locals := 46 } : Room) s m args below meth c 7 cs D kz_cl A (wq_G0 ad w) (wq_Q cs D kz_cl A (wq_G0 ad w) rt xt below s 0 0) pc (cond (Nat.beq pc 6) (kh_R_find_6 rt xt K) (fun _ _ _ _ _ => False))) ∧ wq_Snd p l e ({ frames := 2, cells := 0, slots := 0, locals := 46 } : Room) s m args below meth c 7 cs D kz_cl A (wq_G0 ad w) (wq_Q cs D kz_cl A (wq_G0 ad w) rt xt below s 0 0) 0 (kt_R_find_0 rt xt K) := by
    intro K hKc
    have hb_71 : wq_Snd p l e ({ frames := 2, cells := 0, slots := 0, locals := 46 } : Room) s m args below meth c 7 cs D kz_cl A (wq_G0 ad w) (wq_Q cs D kz_cl A (wq_G0 ad w) rt xt below s 0 0) 71 (kt_R_find_71 rt xt K) := by
      refine wq_iconst_ok h0 kd_R_find_71 (by decide +kernel) ?_
      exact wq_ireturn_ok h0 hr hlk kd_R_find_72
    have hb_53 : wq_Snd p l e ({ frames := 2, cells := 0, slots := 0, locals := 46 } : Room) s m args below meth c 7 cs D kz_cl A (wq_G0 ad w) (wq_Q cs D kz_cl A (wq_G0 ad w) rt xt below s 0 0) 53 (kt_R_find_53 rt xt K) := by
      refine wq_aload_n_ok h0 kd_R_find_53 rfl ?_
      refine wq_get_ok (wq_getOK h0 hts ki_R hown hK (ci := 2) rfl 0 (Nat.le_of_ble_eq_true rfl) kw_93 rfl) kd_R_find_54 ?_
      refine wq_get_ok (wq_getOK h0 hts ki_T hown hK (ci := 1) rfl 1 (Nat.le_of_ble_eq_true rfl) kw_40 rfl) kd_R_find_57 ?_
      refine wq_iload_ok h0 kd_R_find_60 ?_
      refine wq_iald_ok h0 hK kd_R_find_62 ?_
      refine wq_istore_ok h0 kd_R_find_63 (Nat.le_of_ble_eq_true rfl) ?_
      refine wq_iinc_ok h0 kd_R_find_65 (by decide +kernel) (Nat.le_of_ble_eq_true rfl) ?_
      refine wq_goto_ok (tgt := 6) h0 kd_R_find_68 (by decide) ?_
      exact wq_can_ok (hKc 6 (by decide))
    have hb_44 : wq_Snd p l e ({ frames := 2, cells := 0, slots := 0, locals := 46 } : Room) s m args below meth c 7 cs D kz_cl A (wq_G0 ad w) (wq_Q cs D kz_cl A (wq_G0 ad w) rt xt below s 0 0) 44 (kt_R_find_44 rt xt K) := by
      refine wq_iload_ok h0 kd_R_find_44 ?_
      refine wq_iconst_ok h0 kd_R_find_46 (by decide +kernel) ?_
      refine wq_icmp_eq_ok (tgt := 53) h0 kd_R_find_47 (by decide) ?_ ?_
      · exact hb_53
      refine wq_iload_ok h0 kd_R_find_50 ?_
      exact wq_ireturn_ok h0 hr hlk kd_R_find_52
    have hb_6 : wq_Snd p l e ({ frames := 2, cells := 0, slots := 0, locals := 46 } : Room) s m args below meth c 7 cs D kz_cl A (wq_G0 ad w) (wq_Q cs D kz_cl A (wq_G0 ad w) rt xt below s 0 0) 6 (kh_R_find_6 rt xt K) := by
      refine wq_iload_ok h0 kd_R_find_6 ?_
      refine wq_iconst_ok h0 kd_R_find_8 (by decide +kernel) ?_
      refine wq_icmp_gt_ok (tgt := 71) h0 kd_R_find_9 (by decide) ?_ ?_
      · exact hb_71
      refine wq_iload_ok h0 kd_R_find_12 ?_
      refine wq_iconst_ok h0 kd_R_find_14 (by decide +kernel) ?_
      refine wq_icmp_eq_ok (tgt := 71) h0 kd_R_find_15 (by decide) ?_ ?_
      · exact hb_71
      refine wq_aload_n_ok h0 kd_R_find_18 rfl ?_
      refine wq_iload_ok h0 kd_R_find_19 ?_
      refine wq_iload_n_ok h0 kd_R_find_21 rfl ?_
      refine wq_iload_n_ok h0 kd_R_find_22 rfl ?_
      refine wq_call_ok hA (wq_runV (ci := 2) ⟨h0.1, h0.2, hml, hown, hts⟩ (kv_R_lastOwn hl) ⟨(wq_cB hts kw_G kw_597 kw_3 kw_594 ⟨by decide +kernel, by decide +kernel, by decide +kernel⟩ rfl rfl ⟨Nat.le_of_ble_eq_true rfl, Nat.le_of_ble_eq_true rfl⟩), hts _ kw_596, hts _ kw_s7⟩ rfl rfl hK hZ hN hA kd_R_find_23) (wq_xout_ok hnt hlk) ?_
      refine wq_istore_ok h0 kd_R_find_26 (Nat.le_of_ble_eq_true rfl) ?_
      refine wq_iload_ok h0 kd_R_find_28 ?_
      refine wq_iconst_ok h0 kd_R_find_30 (by decide +kernel) ?_
      refine wq_icmp_ne_ok (tgt := 44) h0 kd_R_find_31 (by decide) ?_ ?_
      · exact hb_44
      refine wq_aload_n_ok h0 kd_R_find_34 rfl ?_
      refine wq_iload_ok h0 kd_R_find_35 ?_
      refine wq_iconst_ok h0 kd_R_find_37 (by decide +kernel) ?_
      refine wq_iload_n_ok h0 kd_R_find_38 rfl ?_
      refine wq_call_ok hA (wq_runV (ci := 2) ⟨h0.1, h0.2, hml, hown, hts⟩ (kv_R_lastOwn hl) ⟨(wq_cB hts kw_G kw_597 kw_3 kw_594 ⟨by decide +kernel, by decide +kernel, by decide +kernel⟩ rfl rfl ⟨Nat.le_of_ble_eq_true rfl, Nat.le_of_ble_eq_true rfl⟩), hts _ kw_596, hts _ kw_s7⟩ rfl rfl hK hZ hN hA kd_R_find_39) (wq_xout_ok hnt hlk) ?_
      refine wq_istore_ok h0 kd_R_find_42 (Nat.le_of_ble_eq_true rfl) ?_
      exact hb_44
    have hb_0 : wq_Snd p l e ({ frames := 2, cells := 0, slots := 0, locals := 46 } : Room) s m args below meth c 7 cs D kz_cl A (wq_G0 ad w) (wq_Q cs D kz_cl A (wq_G0 ad w) rt xt below s 0 0) 0 (kt_R_find_0 rt xt K) := by
      refine wq_iload_n_ok h0 kd_R_find_0 rfl ?_
      refine wq_istore_ok h0 kd_R_find_1 (Nat.le_of_ble_eq_true rfl) ?_
      refine wq_iconst_ok h0 kd_R_find_3 (by decide +kernel) ?_
      refine wq_istore_ok h0 kd_R_find_4 (Nat.le_of_ble_eq_true rfl) ?_
      exact wq_can_ok (hKc 6 (by decide))
    refine ⟨?_, hb_0⟩
    exact List.forall_mem_cons.mpr ⟨hb_6, fun _ h => absurd h List.not_mem_nil⟩
  have hun : ∀ (n pc : Nat), pc ∈ [6] → wq_Snd p l e ({ frames := 2, cells := 0, slots := 0, locals := 46 } : Room) s m args below meth c 7 cs D kz_cl A (wq_G0 ad w) (wq_Q cs D kz_cl A (wq_G0 ad w) rt xt below s 0 0) pc (ku_R_find rt xt n pc) := by
    intro n
    induction n with
    | zero => intro pc _ L S w9 n1 n2 h; exact h.elim
    | succ n ih => intro pc hpc; exact (hall (ku_R_find rt xt n) ih).1 pc hpc
  exact (hall (ku_R_find rt xt 1000000000000) (hun 1000000000000)).2 _ _ _ _ _ (wq_sp_t hsp)
set_option maxRecDepth 100000 in
set_option maxHeartbeats 4000000 in
theorem kv_R_exactDuty {l : Launch} (hl : l.stackTraces = false) : wq_Vld l kz_cl ky_R_exactDuty kw_T ({ frames := 1, cells := 0, slots := 0, locals := 23 }) wq_G0 ks_R_exactDuty 0 0 := by
  refine wq_method (cc := kc_R_exactDuty) (maxL := 10) (ret := (some .long)) (by decide) kw_830 (fun _ _ => rfl) wq_sp_sz ?_
  intro p e s m args below meth c cs D ad as w rt xt hF hnt hsp
  obtain ⟨h0, hr, hts, hown, hlk, hnm, hml, hK, hZ, hN, hA⟩ := hF
  have hown : s.vm.findClass "BorderDesk$Rates" = some m.cls := hown
  obtain ⟨A, hAe⟩ : ∃ A, A = wq_A ad w s.heap.size := ⟨_, rfl⟩
  rw [← hAe] at hZ hA ⊢
  have hb_60 : wq_Snd p l e ({ frames := 1, cells := 0, slots := 0, locals := 23 } : Room) s m args below meth c 10 cs D kz_cl A (wq_G0 ad w) (wq_Q cs D kz_cl A (wq_G0 ad w) rt xt below s 0 0) 60 (kt_R_exactDuty_60 rt xt) := by
    refine wq_lload_ok h0 kd_R_exactDuty_60 ?_
    exact wq_lreturn_ok h0 hr hlk kd_R_exactDuty_62
  have hb_63 : wq_Snd p l e ({ frames := 1, cells := 0, slots := 0, locals := 23 } : Room) s m args below meth c 10 cs D kz_cl A (wq_G0 ad w) (wq_Q cs D kz_cl A (wq_G0 ad w) rt xt below s 0 0) 63 (kt_R_exactDuty_63 rt xt) := by
    refine wq_lload_ok h0 kd_R_exactDuty_63 ?_
    exact wq_lreturn_ok h0 hr hlk kd_R_exactDuty_65
  have hb_66 : wq_Snd p l e ({ frames := 1, cells := 0, slots := 0, locals := 23 } : Room) s m args below meth c 10 cs D kz_cl A (wq_G0 ad w) (wq_Q cs D kz_cl A (wq_G0 ad w) rt xt below s 0 0) 66 (kt_R_exactDuty_66 rt xt) := by
    refine wq_lload_ok h0 kd_R_exactDuty_66 ?_
    refine wq_lload_ok h0 kd_R_exactDuty_68 ?_
    refine wq_ml_ok (fun H locs n1 n2 ls rest x y hsz hrs hc hs hw => va_mmax_long h0.1 h0.2 (hml.trans hsz.symm) hown (hts _ kw_832) (hts _ kw_833) (hts _ kw_16) (hts _ kw_834) (Nat.le_of_ble_eq_true rfl) (Nat.le_trans (Nat.add_le_add_right hrs 15) (Nat.le_of_ble_eq_true rfl)) hc hs kd_R_exactDuty_70 hw) ?_
    exact wq_lreturn_ok h0 hr hlk kd_R_exactDuty_73
  have hb_74 : wq_Snd p l e ({ frames := 1, cells := 0, slots := 0, locals := 23 } : Room) s m args below meth c 10 cs D kz_cl A (wq_G0 ad w) (wq_Q cs D kz_cl A (wq_G0 ad w) rt xt below s 0 0) 74 (kt_R_exactDuty_74 rt xt) := by
    refine wq_lload_ok h0 kd_R_exactDuty_74 ?_
    refine wq_lload_ok h0 kd_R_exactDuty_76 ?_
    refine wq_ladd_ok h0 kd_R_exactDuty_78 ?_
    exact wq_lreturn_ok h0 hr hlk kd_R_exactDuty_79
  have hb_0 : wq_Snd p l e ({ frames := 1, cells := 0, slots := 0, locals := 23 } : Room) s m args below meth c 10 cs D kz_cl A (wq_G0 ad w) (wq_Q cs D kz_cl A (wq_G0 ad w) rt xt below s 0 0) 0 (kt_R_exactDuty_0 rt xt) := by
    refine wq_aload_n_ok h0 kd_R_exactDuty_0 rfl ?_
    refine wq_get_ok (wq_getOK h0 hts ki_R hown hK (ci := 2) rfl 5 (Nat.le_of_ble_eq_true rfl) kw_99 rfl) kd_R_exactDuty_1 ?_
    refine wq_iload_n_ok h0 kd_R_exactDuty_4 rfl ?_
    refine wq_iald_ok h0 hK kd_R_exactDuty_5 ?_
    refine wq_i2l_ok h0 kd_R_exactDuty_6 ?_
    refine wq_lload_n_ok h0 kd_R_exactDuty_7 rfl ?_
    refine wq_lmul_ok h0 kd_R_exactDuty_8 ?_
    refine wq_lstore_ok h0 kd_R_exactDuty_9 (Nat.le_of_ble_eq_true rfl) ?_
    refine wq_aload_n_ok h0 kd_R_exactDuty_11 rfl ?_
    refine wq_get_ok (wq_getOK h0 hts ki_R hown hK (ci := 2) rfl 6 (Nat.le_of_ble_eq_true rfl) kw_100 rfl) kd_R_exactDuty_12 ?_
    refine wq_iload_n_ok h0 kd_R_exactDuty_15 rfl ?_
    refine wq_iald_ok h0 hK kd_R_exactDuty_16 ?_
    refine wq_i2l_ok h0 kd_R_exactDuty_17 ?_
    refine wq_lload_ok h0 kd_R_exactDuty_18 ?_
    refine wq_lmul_ok h0 kd_R_exactDuty_20 ?_
    refine wq_ldc2_ok (v := 10000) h0 hown (hts _ kw_831) kd_R_exactDuty_21 ?_
    refine wq_lmul_ok h0 kd_R_exactDuty_24 ?_
    refine wq_lstore_ok h0 kd_R_exactDuty_25 (Nat.le_of_ble_eq_true rfl) ?_
    refine wq_aload_n_ok h0 kd_R_exactDuty_27 rfl ?_
    refine wq_get_ok (wq_getOK h0 hts ki_R hown hK (ci := 2) rfl 4 (Nat.le_of_ble_eq_true rfl) kw_98 rfl) kd_R_exactDuty_28 ?_
    refine wq_iload_n_ok h0 kd_R_exactDuty_31 rfl ?_
    refine wq_iald_ok h0 hK kd_R_exactDuty_32 ?_
    refine wq_sw_ok ?_ ?_
    · exact List.forall_mem_cons.mpr ⟨⟨60, (by exact hb_60), fun H locs n1 n2 ls rest hw => lv_tableIn (tgt := 60) (off := 27) h0.1 h0.2 kd_R_exactDuty_33 (show ¬ (nI 0).toInt < 0 by decide +kernel) (show ¬ 2 < (nI 0).toInt by decide +kernel) (show (#[27, 30, 33] : Array Int)[((nI 0).toInt - 0).toNat]? = some 27 by decide +kernel) (by decide) hw⟩, List.forall_mem_cons.mpr ⟨⟨63, (by exact hb_63), fun H locs n1 n2 ls rest hw => lv_tableIn (tgt := 63) (off := 30) h0.1 h0.2 kd_R_exactDuty_33 (show ¬ (nI 1).toInt < 0 by decide +kernel) (show ¬ 2 < (nI 1).toInt by decide +kernel) (show (#[27, 30, 33] : Array Int)[((nI 1).toInt - 0).toNat]? = some 30 by decide +kernel) (by decide) hw⟩, List.forall_mem_cons.mpr ⟨⟨66, (by exact hb_66), fun H locs n1 n2 ls rest hw => lv_tableIn (tgt := 66) (off := 33) h0.1 h0.2 kd_R_exactDuty_33 (show ¬ (nI 2).toInt < 0 by decide +kernel) (show ¬ 2 < (nI 2).toInt by decide +kernel) (show (#[27, 30, 33] : Array Int)[((nI 2).toInt - 0).toNat]? = some 33 by decide +kernel) (by decide) hw⟩, fun _ h => absurd h List.not_mem_nil⟩⟩⟩
    · exact ⟨74, (by exact hb_74), fun H locs n1 n2 ls rest x hq hw => lv_tableOut (tgt := 74) h0.1 h0.2 kd_R_exactDuty_33 (wq_tabO 0 2 (by decide) (fun k h1 h2 => by rcases (show k = 0 ∨ k = 1 ∨ k = 2 by omega) with rfl | rfl | rfl <;> first | exact hq _ List.mem_cons_self | exact hq _ (List.mem_cons_of_mem _ List.mem_cons_self) | exact hq _ (List.mem_cons_of_mem _ (List.mem_cons_of_mem _ List.mem_cons_self)))) (by decide) hw⟩
  exact hb_0 _ _ _ _ _ (wq_sp_t hsp)
set_option maxRecDepth 100000 in
set_option maxHeartbeats 4000000 in
theorem kv_Q_add {l : Launch} (hl : l.stackTraces = false) : wq_Vld l kz_cl ky_Q_add kw_T ({ frames := 0, cells := 0, slots := 0, locals := 0 }) wq_G0 ks_Q_add 0 0 := by
  refine wq_method (cc := kc_Q_add) (maxL := 8) (ret := (some .int)) (by decide) kw_610 (fun _ _ => rfl) wq_sp_sz ?_
  intro p e s m args below meth c cs D ad as w rt xt hF hnt hsp
  obtain ⟨h0, hr, hts, hown, hlk, hnm, hml, hK, hZ, hN, hA⟩ := hF
  have hown : s.vm.findClass "BorderDesk$Quotas" = some m.cls := hown
  obtain ⟨A, hAe⟩ : ∃ A, A = wq_A ad w s.heap.size := ⟨_, rfl⟩
  rw [← hAe] at hZ hA ⊢
  have hb_0 : wq_Snd p l e ({ frames := 0, cells := 0, slots := 0, locals := 0 } : Room) s m args below meth c 8 cs D kz_cl A (wq_G0 ad w) (wq_Q cs D kz_cl A (wq_G0 ad w) rt xt below s 0 0) 0 (kt_Q_add_0 rt xt) := by
    refine wq_aload_n_ok h0 kd_Q_add_0 rfl ?_
    refine wq_get_ok (wq_getOK h0 hts ki_Q hown hK (ci := 3) rfl 1 (Nat.le_of_ble_eq_true rfl) kw_129 rfl) kd_Q_add_1 ?_
    refine wq_istore_ok h0 kd_Q_add_4 (Nat.le_of_ble_eq_true rfl) ?_
    refine wq_aload_n_ok h0 kd_Q_add_6 rfl ?_
    refine wq_get_ok (wq_getOK h0 hts ki_Q hown hK (ci := 3) rfl 4 (Nat.le_of_ble_eq_true rfl) kw_136 rfl) kd_Q_add_7 ?_
    refine wq_iload_ok h0 kd_Q_add_10 ?_
    refine wq_iload_n_ok h0 kd_Q_add_12 rfl ?_
    refine wq_iast_ok h0 hK kd_Q_add_13 ?_
    refine wq_aload_n_ok h0 kd_Q_add_14 rfl ?_
    refine wq_get_ok (wq_getOK h0 hts ki_Q hown hK (ci := 3) rfl 5 (Nat.le_of_ble_eq_true rfl) kw_137 rfl) kd_Q_add_15 ?_
    refine wq_iload_ok h0 kd_Q_add_18 ?_
    refine wq_iload_n_ok h0 kd_Q_add_20 rfl ?_
    refine wq_iast_ok h0 hK kd_Q_add_21 ?_
    refine wq_aload_n_ok h0 kd_Q_add_22 rfl ?_
    refine wq_get_ok (wq_getOK h0 hts ki_Q hown hK (ci := 3) rfl 2 (Nat.le_of_ble_eq_true rfl) kw_131 rfl) kd_Q_add_23 ?_
    refine wq_iload_ok h0 kd_Q_add_26 ?_
    refine wq_iload_n_ok h0 kd_Q_add_28 rfl ?_
    refine wq_iast_ok h0 hK kd_Q_add_29 ?_
    refine wq_aload_n_ok h0 kd_Q_add_30 rfl ?_
    refine wq_get_ok (wq_getOK h0 hts ki_Q hown hK (ci := 3) rfl 3 (Nat.le_of_ble_eq_true rfl) kw_134 rfl) kd_Q_add_31 ?_
    refine wq_iload_ok h0 kd_Q_add_34 ?_
    refine wq_iload_ok h0 kd_Q_add_36 ?_
    refine wq_iast_ok h0 hK kd_Q_add_38 ?_
    refine wq_aload_n_ok h0 kd_Q_add_39 rfl ?_
    refine wq_get_ok (wq_getOK h0 hts ki_Q hown hK (ci := 3) rfl 6 (Nat.le_of_ble_eq_true rfl) kw_138 rfl) kd_Q_add_40 ?_
    refine wq_iload_ok h0 kd_Q_add_43 ?_
    refine wq_iload_ok h0 kd_Q_add_45 ?_
    refine wq_iast_ok h0 hK kd_Q_add_47 ?_
    refine wq_aload_n_ok h0 kd_Q_add_48 rfl ?_
    refine wq_get_ok (wq_getOK h0 hts ki_Q hown hK (ci := 3) rfl 7 (Nat.le_of_ble_eq_true rfl) kw_139 rfl) kd_Q_add_49 ?_
    refine wq_iload_ok h0 kd_Q_add_52 ?_
    refine wq_iload_ok h0 kd_Q_add_54 ?_
    refine wq_iast_ok h0 hK kd_Q_add_56 ?_
    refine wq_aload_n_ok h0 kd_Q_add_57 rfl ?_
    refine wq_dup_ok h0 kd_Q_add_58 ?_
    refine wq_get_ok (wq_getOK h0 hts ki_Q hown hK (ci := 3) rfl 1 (Nat.le_of_ble_eq_true rfl) kw_129 rfl) kd_Q_add_59 ?_
    refine wq_iconst_ok h0 kd_Q_add_62 (by decide +kernel) ?_
    refine wq_iadd_ok h0 kd_Q_add_63 ?_
    refine wq_put_ok (wq_putOK h0 hts ki_Q ka_Q kb_Q kn_Q hown hK (ci := 3) rfl 1 (Nat.le_of_ble_eq_true rfl) kw_129 rfl (Or.inl rfl) wq_okI) kd_Q_add_64 ?_
    refine wq_iload_ok h0 kd_Q_add_67 ?_
    exact wq_ireturn_ok h0 hr hlk kd_Q_add_69
  exact hb_0 _ _ _ _ _ (wq_sp_t hsp)
set_option maxRecDepth 100000 in
set_option maxHeartbeats 4000000 in
theorem kv_Q_find {l : Launch} (hl : l.stackTraces = false) : wq_Vld l kz_cl ky_Q_find kw_T ({ frames := 1, cells := 0, slots := 0, locals := 24 }) wq_G0 ks_Q_find 0 0 := by
  refine wq_method (cc := kc_Q_find) (maxL := 5) (ret := (some .int)) (by decide) kw_777 (fun _ _ => rfl) wq_sp_sz ?_
  intro p e s m args below meth c cs D ad as w rt xt hF hnt hsp
  obtain ⟨h0, hr, hts, hown, hlk, hnm, hml, hK, hZ, hN, hA⟩ := hF
  have hown : s.vm.findClass "BorderDesk$Quotas" = some m.cls := hown
  obtain ⟨A, hAe⟩ : ∃ A, A = wq_A ad w s.heap.size := ⟨_, rfl⟩
  rw [← hAe] at hZ hA ⊢
  have hall : ∀ K : Nat → wq_T, (∀ pc, pc ∈ [3] → wq_Snd p l e ({ frames := 1, cells := 0, slots := 0, locals := 24 } : Room) s m args below meth c 5 cs D kz_cl A (wq_G0 ad w) (wq_Q cs D kz_cl A (wq_G0 ad w) rt xt below s 0 0) pc (K pc)) → (∀ pc, pc ∈ [3] → wq_Snd p l e ({ frames := 1, cells := 0, slots := 0, locals := 24 } : Room) s m args below meth c 5 cs D kz_cl A (wq_G0 ad w) (wq_Q cs D kz_cl A (wq_G0 ad w) rt xt below s 0 0) pc (cond (Nat.beq pc 3) (kh_Q_find_3 rt xt K) (fun _ _ _ _ _ => False))) ∧ wq_Snd p l e ({ frames := 1, cells := 0, slots := 0, locals := 24 } : Room) s m args below meth c 5 cs D kz_cl A (wq_G0 ad w) (wq_Q cs D kz_cl A (wq_G0 ad w) rt xt below s 0 0) 0 (kt_Q_find_0 rt xt K) := by
    intro K hKc
    have hb_71 : wq_Snd p l e ({ frames := 1, cells := 0, slots := 0, locals := 24 } : Room) s m args below meth c 5 cs D kz_cl A (wq_G0 ad w) (wq_Q cs D kz_cl A (wq_G0 ad w) rt xt below s 0 0) 71 (kt_Q_find_71 rt xt K) := by
      refine wq_iconst_ok h0 kd_Q_find_71 (by decide +kernel) ?_
      exact wq_ireturn_ok h0 hr hlk kd_Q_find_72
    have hb_65 : wq_Snd p l e ({ frames := 1, cells := 0, slots := 0, locals := 24 } : Room) s m args below meth c 5 cs D kz_cl A (wq_G0 ad w) (wq_Q cs D kz_cl A (wq_G0 ad w) rt xt below s 0 0) 65 (kt_Q_find_65 rt xt K) := by
      refine wq_iinc_ok h0 kd_Q_find_65 (by decide +kernel) (Nat.le_of_ble_eq_true rfl) ?_
      refine wq_goto_ok (tgt := 3) h0 kd_Q_find_68 (by decide) ?_
      exact wq_can_ok (hKc 3 (by decide))
    have hb_3 : wq_Snd p l e ({ frames := 1, cells := 0, slots := 0, locals := 24 } : Room) s m args below meth c 5 cs D kz_cl A (wq_G0 ad w) (wq_Q cs D kz_cl A (wq_G0 ad w) rt xt below s 0 0) 3 (kh_Q_find_3 rt xt K) := by
      refine wq_iload_ok h0 kd_Q_find_3 ?_
      refine wq_aload_n_ok h0 kd_Q_find_5 rfl ?_
      refine wq_get_ok (wq_getOK h0 hts ki_Q hown hK (ci := 3) rfl 1 (Nat.le_of_ble_eq_true rfl) kw_129 rfl) kd_Q_find_6 ?_
      refine wq_icmp_ge_ok (tgt := 71) h0 kd_Q_find_9 (by decide) ?_ ?_
      · exact hb_71
      refine wq_aload_n_ok h0 kd_Q_find_12 rfl ?_
      refine wq_get_ok (wq_getOK h0 hts ki_Q hown hK (ci := 3) rfl 5 (Nat.le_of_ble_eq_true rfl) kw_137 rfl) kd_Q_find_13 ?_
      refine wq_iload_ok h0 kd_Q_find_16 ?_
      refine wq_iald_ok h0 hK kd_Q_find_18 ?_
      refine wq_iload_n_ok h0 kd_Q_find_19 rfl ?_
      refine wq_icmp_ne_ok (tgt := 65) h0 kd_Q_find_20 (by decide) ?_ ?_
      · exact hb_65
      refine wq_iload_n_ok h0 kd_Q_find_23 rfl ?_
      refine wq_aload_n_ok h0 kd_Q_find_24 rfl ?_
      refine wq_get_ok (wq_getOK h0 hts ki_Q hown hK (ci := 3) rfl 6 (Nat.le_of_ble_eq_true rfl) kw_138 rfl) kd_Q_find_25 ?_
      refine wq_iload_ok h0 kd_Q_find_28 ?_
      refine wq_iald_ok h0 hK kd_Q_find_30 ?_
      refine wq_aload_n_ok h0 kd_Q_find_31 rfl ?_
      refine wq_get_ok (wq_getOK h0 hts ki_Q hown hK (ci := 3) rfl 7 (Nat.le_of_ble_eq_true rfl) kw_139 rfl) kd_Q_find_32 ?_
      refine wq_iload_ok h0 kd_Q_find_35 ?_
      refine wq_iald_ok h0 hK kd_Q_find_37 ?_
      refine wq_call_ok hA (wq_runSN ⟨h0.1, h0.2, hml, hown, hts⟩ (kv_B_isWithin hl) ⟨(wq_cN hts kw_G kw_517 kw_1 (va_Nw.use rfl (hN.2.2.1 _ (List.mem_of_getElem? (i := 6) rfl))) ⟨by decide +kernel, by decide +kernel, by decide +kernel⟩ rfl rfl ⟨Nat.le_of_ble_eq_true rfl, Nat.le_of_ble_eq_true rfl⟩), hts _ kw_516⟩ hK hZ hN hA kd_Q_find_38) (wq_xout_ok hnt hlk) ?_
      refine wq_if_eq_ok (tgt := 65) h0 kd_Q_find_41 (by decide) ?_ ?_
      · exact hb_65
      refine wq_aload_n_ok h0 kd_Q_find_44 rfl ?_
      refine wq_get_ok (wq_getOK h0 hts ki_Q hown hK (ci := 3) rfl 0 (Nat.le_of_ble_eq_true rfl) kw_128 rfl) kd_Q_find_45 ?_
      refine wq_aload_n_ok h0 kd_Q_find_48 rfl ?_
      refine wq_get_ok (wq_getOK h0 hts ki_Q hown hK (ci := 3) rfl 4 (Nat.le_of_ble_eq_true rfl) kw_136 rfl) kd_Q_find_49 ?_
      refine wq_iload_ok h0 kd_Q_find_52 ?_
      refine wq_iald_ok h0 hK kd_Q_find_54 ?_
      refine wq_iload_n_ok h0 kd_Q_find_55 rfl ?_
      refine wq_call_ok hA (wq_runV (ci := 1) ⟨h0.1, h0.2, hml, hown, hts⟩ (kv_T_isSameOrAbove hl) ⟨(wq_cB hts kw_G kw_782 kw_2 kw_779 ⟨by decide +kernel, by decide +kernel, by decide +kernel⟩ rfl rfl ⟨Nat.le_of_ble_eq_true rfl, Nat.le_of_ble_eq_true rfl⟩), hts _ kw_780, hts _ kw_781⟩ rfl rfl hK hZ hN hA kd_Q_find_56) (wq_xout_ok hnt hlk) ?_
      refine wq_if_eq_ok (tgt := 65) h0 kd_Q_find_59 (by decide) ?_ ?_
      · exact hb_65
      refine wq_iload_ok h0 kd_Q_find_62 ?_
      exact wq_ireturn_ok h0 hr hlk kd_Q_find_64
    have hb_0 : wq_Snd p l e ({ frames := 1, cells := 0, slots := 0, locals := 24 } : Room) s m args below meth c 5 cs D kz_cl A (wq_G0 ad w) (wq_Q cs D kz_cl A (wq_G0 ad w) rt xt below s 0 0) 0 (kt_Q_find_0 rt xt K) := by
      refine wq_iconst_ok h0 kd_Q_find_0 (by decide +kernel) ?_
      refine wq_istore_ok h0 kd_Q_find_1 (Nat.le_of_ble_eq_true rfl) ?_
      exact wq_can_ok (hKc 3 (by decide))
    refine ⟨?_, hb_0⟩
    exact List.forall_mem_cons.mpr ⟨hb_3, fun _ h => absurd h List.not_mem_nil⟩
  have hun : ∀ (n pc : Nat), pc ∈ [3] → wq_Snd p l e ({ frames := 1, cells := 0, slots := 0, locals := 24 } : Room) s m args below meth c 5 cs D kz_cl A (wq_G0 ad w) (wq_Q cs D kz_cl A (wq_G0 ad w) rt xt below s 0 0) pc (ku_Q_find rt xt n pc) := by
    intro n
    induction n with
    | zero => intro pc _ L S w9 n1 n2 h; exact h.elim
    | succ n ih => intro pc hpc; exact (hall (ku_Q_find rt xt n) ih).1 pc hpc
  exact (hall (ku_Q_find rt xt 1000000000000) (hun 1000000000000)).2 _ _ _ _ _ (wq_sp_t hsp)
set_option maxRecDepth 100000 in
set_option maxHeartbeats 4000000 in
theorem kv_O_has {l : Launch} (hl : l.stackTraces = false) : wq_Vld l kz_cl ky_O_has kw_T ({ frames := 0, cells := 0, slots := 0, locals := 0 }) wq_G0 ks_O_has 0 0 := by
  refine wq_method (cc := kc_O_has) (maxL := 2) (ret := (some .boolean)) (by decide) kw_632 (fun _ _ => rfl) wq_sp_sz ?_
  intro p e s m args below meth c cs D ad as w rt xt hF hnt hsp
  obtain ⟨h0, hr, hts, hown, hlk, hnm, hml, hK, hZ, hN, hA⟩ := hF
  have hown : s.vm.findClass "BorderDesk$Origins" = some m.cls := hown
  obtain ⟨A, hAe⟩ : ∃ A, A = wq_A ad w s.heap.size := ⟨_, rfl⟩
  rw [← hAe] at hZ hA ⊢
  have hb_14 : wq_Snd p l e ({ frames := 0, cells := 0, slots := 0, locals := 0 } : Room) s m args below meth c 2 cs D kz_cl A (wq_G0 ad w) (wq_Q cs D kz_cl A (wq_G0 ad w) rt xt below s 0 0) 14 (kt_O_has_14 rt xt) := by
    exact wq_zreturn_ok h0 hr hlk kd_O_has_14
  have hb_13 : wq_Snd p l e ({ frames := 0, cells := 0, slots := 0, locals := 0 } : Room) s m args below meth c 2 cs D kz_cl A (wq_G0 ad w) (wq_Q cs D kz_cl A (wq_G0 ad w) rt xt below s 0 0) 13 (kt_O_has_13 rt xt) := by
    refine wq_iconst_ok h0 kd_O_has_13 (by decide +kernel) ?_
    exact hb_14
  have hb_0 : wq_Snd p l e ({ frames := 0, cells := 0, slots := 0, locals := 0 } : Room) s m args below meth c 2 cs D kz_cl A (wq_G0 ad w) (wq_Q cs D kz_cl A (wq_G0 ad w) rt xt below s 0 0) 0 (kt_O_has_0 rt xt) := by
    refine wq_iload_n_ok h0 kd_O_has_0 rfl ?_
    refine wq_iload_n_ok h0 kd_O_has_1 rfl ?_
    refine wq_ishr_ok h0 kd_O_has_2 ?_
    refine wq_iconst_ok h0 kd_O_has_3 (by decide +kernel) ?_
    refine wq_iand_ok h0 kd_O_has_4 ?_
    refine wq_iconst_ok h0 kd_O_has_5 (by decide +kernel) ?_
    refine wq_icmp_ne_ok (tgt := 13) h0 kd_O_has_6 (by decide) ?_ ?_
    · exact hb_13
    refine wq_iconst_ok h0 kd_O_has_9 (by decide +kernel) ?_
    refine wq_goto_ok (tgt := 14) h0 kd_O_has_10 (by decide) ?_
    exact hb_14
  exact hb_0 _ _ _ _ _ (wq_sp_t hsp)
set_option maxRecDepth 100000 in
set_option maxHeartbeats 4000000 in
theorem kv_O_wouldComeRound {l : Launch} (hl : l.stackTraces = false) : wq_Vld l kz_cl ky_O_wouldComeRound kw_T ({ frames := 1, cells := 0, slots := 0, locals := 21 }) wq_G0 ks_O_wouldComeRound 0 0 := by
  refine wq_method (cc := kc_O_wouldComeRound) (maxL := 3) (ret := (some .boolean)) (by decide) kw_629 (fun _ _ => rfl) wq_sp_sz ?_
  intro p e s m args below meth c cs D ad as w rt xt hF hnt hsp
  obtain ⟨h0, hr, hts, hown, hlk, hnm, hml, hK, hZ, hN, hA⟩ := hF
  have hown : s.vm.findClass "BorderDesk$Origins" = some m.cls := hown
  obtain ⟨A, hAe⟩ : ∃ A, A = wq_A ad w s.heap.size := ⟨_, rfl⟩
  rw [← hAe] at hZ hA ⊢
  have hb_23 : wq_Snd p l e ({ frames := 1, cells := 0, slots := 0, locals := 21 } : Room) s m args below meth c 3 cs D kz_cl A (wq_G0 ad w) (wq_Q cs D kz_cl A (wq_G0 ad w) rt xt below s 0 0) 23 (kt_O_wouldComeRound_23 rt xt) := by
    exact wq_zreturn_ok h0 hr hlk kd_O_wouldComeRound_23
  have hb_18 : wq_Snd p l e ({ frames := 1, cells := 0, slots := 0, locals := 21 } : Room) s m args below meth c 3 cs D kz_cl A (wq_G0 ad w) (wq_Q cs D kz_cl A (wq_G0 ad w) rt xt below s 0 0) 18 (kt_O_wouldComeRound_18 rt xt) := by
    refine wq_iconst_ok h0 kd_O_wouldComeRound_18 (by decide +kernel) ?_
    refine wq_goto_ok (tgt := 23) h0 kd_O_wouldComeRound_19 (by decide) ?_
    exact hb_23
  have hb_22 : wq_Snd p l e ({ frames := 1, cells := 0, slots := 0, locals := 21 } : Room) s m args below meth c 3 cs D kz_cl A (wq_G0 ad w) (wq_Q cs D kz_cl A (wq_G0 ad w) rt xt below s 0 0) 22 (kt_O_wouldComeRound_22 rt xt) := by
    refine wq_iconst_ok h0 kd_O_wouldComeRound_22 (by decide +kernel) ?_
    exact hb_23
  have hb_0 : wq_Snd p l e ({ frames := 1, cells := 0, slots := 0, locals := 21 } : Room) s m args below meth c 3 cs D kz_cl A (wq_G0 ad w) (wq_Q cs D kz_cl A (wq_G0 ad w) rt xt below s 0 0) 0 (kt_O_wouldComeRound_0 rt xt) := by
    refine wq_iload_n_ok h0 kd_O_wouldComeRound_0 rfl ?_
    refine wq_iload_n_ok h0 kd_O_wouldComeRound_1 rfl ?_
    refine wq_icmp_eq_ok (tgt := 18) h0 kd_O_wouldComeRound_2 (by decide) ?_ ?_
    · exact hb_18
    refine wq_aload_n_ok h0 kd_O_wouldComeRound_5 rfl ?_
    refine wq_get_ok (wq_getOK h0 hts ki_O hown hK (ci := 4) rfl 6 (Nat.le_of_ble_eq_true rfl) kw_172 rfl) kd_O_wouldComeRound_6 ?_
    refine wq_iload_n_ok h0 kd_O_wouldComeRound_9 rfl ?_
    refine wq_iald_ok h0 hK kd_O_wouldComeRound_10 ?_
    refine wq_iload_n_ok h0 kd_O_wouldComeRound_11 rfl ?_
    refine wq_call_ok hA (wq_runS ⟨h0.1, h0.2, hml, hown, hts⟩ (kv_O_has hl) ⟨(wq_cB hts kw_G kw_632 kw_5 kw_630 ⟨by decide +kernel, by decide +kernel, by decide +kernel⟩ rfl rfl ⟨Nat.le_of_ble_eq_true rfl, Nat.le_of_ble_eq_true rfl⟩), hts _ kw_631⟩ hK hZ hN hA kd_O_wouldComeRound_12) (wq_xout_ok hnt hlk) ?_
    refine wq_if_eq_ok (tgt := 22) h0 kd_O_wouldComeRound_15 (by decide) ?_ ?_
    · exact hb_22
    exact hb_18
  exact hb_0 _ _ _ _ _ (wq_sp_t hsp)
set_option maxRecDepth 100000 in
set_option maxHeartbeats 4000000 in
theorem kv_O_addPart {l : Launch} (hl : l.stackTraces = false) : wq_Vld l kz_cl ky_O_addPart kw_T ({ frames := 1, cells := 0, slots := 0, locals := 21 }) wq_G0 ks_O_addPart 0 0 := by
  refine wq_method (cc := kc_O_addPart) (maxL := 8) (ret := (some .int)) (by decide) kw_636 (fun _ _ => rfl) wq_sp_sz ?_
  intro p e s m args below meth c cs D ad as w rt xt hF hnt hsp
  obtain ⟨h0, hr, hts, hown, hlk, hnm, hml, hK, hZ, hN, hA⟩ := hF
  have hown : s.vm.findClass "BorderDesk$Origins" = some m.cls := hown
  obtain ⟨A, hAe⟩ : ∃ A, A = wq_A ad w s.heap.size := ⟨_, rfl⟩
  rw [← hAe] at hZ hA ⊢
  have hall : ∀ K : Nat → wq_T, (∀ pc, pc ∈ [64] → wq_Snd p l e ({ frames := 1, cells := 0, slots := 0, locals := 21 } : Room) s m args below meth c 8 cs D kz_cl A (wq_G0 ad w) (wq_Q cs D kz_cl A (wq_G0 ad w) rt xt below s 0 0) pc (K pc)) → (∀ pc, pc ∈ [64] → wq_Snd p l e ({ frames := 1, cells := 0, slots := 0, locals := 21 } : Room) s m args below meth c 8 cs D kz_cl A (wq_G0 ad w) (wq_Q cs D kz_cl A (wq_G0 ad w) rt xt below s 0 0) pc (cond (Nat.beq pc 64) (kh_O_addPart_64 rt xt K) (fun _ _ _ _ _ => False))) ∧ wq_Snd p l e ({ frames := 1, cells := 0, slots := 0, locals := 21 } : Room) s m args below meth c 8 cs D kz_cl A (wq_G0 ad w) (wq_Q cs D kz_cl A (wq_G0 ad w) rt xt below s 0 0) 0 (kt_O_addPart_0 rt xt K) := by
    intro K hKc
    have hb_109 : wq_Snd p l e ({ frames := 1, cells := 0, slots := 0, locals := 21 } : Room) s m args below meth c 8 cs D kz_cl A (wq_G0 ad w) (wq_Q cs D kz_cl A (wq_G0 ad w) rt xt below s 0 0) 109 (kt_O_addPart_109 rt xt K) := by
      refine wq_aload_n_ok h0 kd_O_addPart_109 rfl ?_
      refine wq_get_ok (wq_getOK h0 hts ki_O hown hK (ci := 4) rfl 2 (Nat.le_of_ble_eq_true rfl) kw_167 rfl) kd_O_addPart_110 ?_
      refine wq_iload_n_ok h0 kd_O_addPart_113 rfl ?_
      refine wq_iald_ok h0 hK kd_O_addPart_114 ?_
      exact wq_ireturn_ok h0 hr hlk kd_O_addPart_115
    have hb_103 : wq_Snd p l e ({ frames := 1, cells := 0, slots := 0, locals := 21 } : Room) s m args below meth c 8 cs D kz_cl A (wq_G0 ad w) (wq_Q cs D kz_cl A (wq_G0 ad w) rt xt below s 0 0) 103 (kt_O_addPart_103 rt xt K) := by
      refine wq_iinc_ok h0 kd_O_addPart_103 (by decide +kernel) (Nat.le_of_ble_eq_true rfl) ?_
      refine wq_goto_ok (tgt := 64) h0 kd_O_addPart_106 (by decide) ?_
      exact wq_can_ok (hKc 64 (by decide))
    have hb_91 : wq_Snd p l e ({ frames := 1, cells := 0, slots := 0, locals := 21 } : Room) s m args below meth c 8 cs D kz_cl A (wq_G0 ad w) (wq_Q cs D kz_cl A (wq_G0 ad w) rt xt below s 0 0) 91 (kt_O_addPart_91 rt xt K) := by
      refine wq_aload_n_ok h0 kd_O_addPart_91 rfl ?_
      refine wq_get_ok (wq_getOK h0 hts ki_O hown hK (ci := 4) rfl 6 (Nat.le_of_ble_eq_true rfl) kw_172 rfl) kd_O_addPart_92 ?_
      refine wq_iload_ok h0 kd_O_addPart_95 ?_
      refine wq_dup2_ok h0 kd_O_addPart_97 ?_
      refine wq_iald_ok h0 hK kd_O_addPart_98 ?_
      refine wq_iload_ok h0 kd_O_addPart_99 ?_
      refine wq_ior_ok h0 kd_O_addPart_101 ?_
      refine wq_iast_ok h0 hK kd_O_addPart_102 ?_
      exact hb_103
    have hb_64 : wq_Snd p l e ({ frames := 1, cells := 0, slots := 0, locals := 21 } : Room) s m args below meth c 8 cs D kz_cl A (wq_G0 ad w) (wq_Q cs D kz_cl A (wq_G0 ad w) rt xt below s 0 0) 64 (kh_O_addPart_64 rt xt K) := by
      refine wq_iload_ok h0 kd_O_addPart_64 ?_
      refine wq_bipush_ok h0 kd_O_addPart_66 (by decide +kernel) ?_
      refine wq_icmp_ge_ok (tgt := 109) h0 kd_O_addPart_68 (by decide) ?_ ?_
      · exact hb_109
      refine wq_iload_ok h0 kd_O_addPart_71 ?_
      refine wq_iload_n_ok h0 kd_O_addPart_73 rfl ?_
      refine wq_icmp_eq_ok (tgt := 91) h0 kd_O_addPart_74 (by decide) ?_ ?_
      · exact hb_91
      refine wq_aload_n_ok h0 kd_O_addPart_77 rfl ?_
      refine wq_get_ok (wq_getOK h0 hts ki_O hown hK (ci := 4) rfl 6 (Nat.le_of_ble_eq_true rfl) kw_172 rfl) kd_O_addPart_78 ?_
      refine wq_iload_ok h0 kd_O_addPart_81 ?_
      refine wq_iald_ok h0 hK kd_O_addPart_83 ?_
      refine wq_iload_n_ok h0 kd_O_addPart_84 rfl ?_
      refine wq_call_ok hA (wq_runS ⟨h0.1, h0.2, hml, hown, hts⟩ (kv_O_has hl) ⟨(wq_cB hts kw_G kw_632 kw_5 kw_630 ⟨by decide +kernel, by decide +kernel, by decide +kernel⟩ rfl rfl ⟨Nat.le_of_ble_eq_true rfl, Nat.le_of_ble_eq_true rfl⟩), hts _ kw_631⟩ hK hZ hN hA kd_O_addPart_85) (wq_xout_ok hnt hlk) ?_
      refine wq_if_eq_ok (tgt := 103) h0 kd_O_addPart_88 (by decide) ?_ ?_
      · exact hb_103
      exact hb_91
    have hb_0 : wq_Snd p l e ({ frames := 1, cells := 0, slots := 0, locals := 21 } : Room) s m args below meth c 8 cs D kz_cl A (wq_G0 ad w) (wq_Q cs D kz_cl A (wq_G0 ad w) rt xt below s 0 0) 0 (kt_O_addPart_0 rt xt K) := by
      refine wq_aload_n_ok h0 kd_O_addPart_0 rfl ?_
      refine wq_get_ok (wq_getOK h0 hts ki_O hown hK (ci := 4) rfl 2 (Nat.le_of_ble_eq_true rfl) kw_167 rfl) kd_O_addPart_1 ?_
      refine wq_iload_n_ok h0 kd_O_addPart_4 rfl ?_
      refine wq_iald_ok h0 hK kd_O_addPart_5 ?_
      refine wq_istore_ok h0 kd_O_addPart_6 (Nat.le_of_ble_eq_true rfl) ?_
      refine wq_aload_n_ok h0 kd_O_addPart_8 rfl ?_
      refine wq_get_ok (wq_getOK h0 hts ki_O hown hK (ci := 4) rfl 3 (Nat.le_of_ble_eq_true rfl) kw_169 rfl) kd_O_addPart_9 ?_
      refine wq_iload_n_ok h0 kd_O_addPart_12 rfl ?_
      refine wq_aald_ok h0 hK kd_O_addPart_13 ?_
      refine wq_iload_ok h0 kd_O_addPart_14 ?_
      refine wq_iload_n_ok h0 kd_O_addPart_16 rfl ?_
      refine wq_iast_ok h0 hK kd_O_addPart_17 ?_
      refine wq_aload_n_ok h0 kd_O_addPart_18 rfl ?_
      refine wq_get_ok (wq_getOK h0 hts ki_O hown hK (ci := 4) rfl 4 (Nat.le_of_ble_eq_true rfl) kw_170 rfl) kd_O_addPart_19 ?_
      refine wq_iload_n_ok h0 kd_O_addPart_22 rfl ?_
      refine wq_aald_ok h0 hK kd_O_addPart_23 ?_
      refine wq_iload_ok h0 kd_O_addPart_24 ?_
      refine wq_iload_n_ok h0 kd_O_addPart_26 rfl ?_
      refine wq_iast_ok h0 hK kd_O_addPart_27 ?_
      refine wq_aload_n_ok h0 kd_O_addPart_28 rfl ?_
      refine wq_get_ok (wq_getOK h0 hts ki_O hown hK (ci := 4) rfl 5 (Nat.le_of_ble_eq_true rfl) kw_171 rfl) kd_O_addPart_29 ?_
      refine wq_iload_n_ok h0 kd_O_addPart_32 rfl ?_
      refine wq_aald_ok h0 hK kd_O_addPart_33 ?_
      refine wq_iload_ok h0 kd_O_addPart_34 ?_
      refine wq_iload_ok h0 kd_O_addPart_36 ?_
      refine wq_iast_ok h0 hK kd_O_addPart_38 ?_
      refine wq_aload_n_ok h0 kd_O_addPart_39 rfl ?_
      refine wq_get_ok (wq_getOK h0 hts ki_O hown hK (ci := 4) rfl 2 (Nat.le_of_ble_eq_true rfl) kw_167 rfl) kd_O_addPart_40 ?_
      refine wq_iload_n_ok h0 kd_O_addPart_43 rfl ?_
      refine wq_dup2_ok h0 kd_O_addPart_44 ?_
      refine wq_iald_ok h0 hK kd_O_addPart_45 ?_
      refine wq_iconst_ok h0 kd_O_addPart_46 (by decide +kernel) ?_
      refine wq_iadd_ok h0 kd_O_addPart_47 ?_
      refine wq_iast_ok h0 hK kd_O_addPart_48 ?_
      refine wq_aload_n_ok h0 kd_O_addPart_49 rfl ?_
      refine wq_get_ok (wq_getOK h0 hts ki_O hown hK (ci := 4) rfl 6 (Nat.le_of_ble_eq_true rfl) kw_172 rfl) kd_O_addPart_50 ?_
      refine wq_iload_n_ok h0 kd_O_addPart_53 rfl ?_
      refine wq_iald_ok h0 hK kd_O_addPart_54 ?_
      refine wq_iconst_ok h0 kd_O_addPart_55 (by decide +kernel) ?_
      refine wq_iload_n_ok h0 kd_O_addPart_56 rfl ?_
      refine wq_ishl_ok h0 kd_O_addPart_57 ?_
      refine wq_ior_ok h0 kd_O_addPart_58 ?_
      refine wq_istore_ok h0 kd_O_addPart_59 (Nat.le_of_ble_eq_true rfl) ?_
      refine wq_iconst_ok h0 kd_O_addPart_61 (by decide +kernel) ?_
      refine wq_istore_ok h0 kd_O_addPart_62 (Nat.le_of_ble_eq_true rfl) ?_
      exact wq_can_ok (hKc 64 (by decide))
    refine ⟨?_, hb_0⟩
    exact List.forall_mem_cons.mpr ⟨hb_64, fun _ h => absurd h List.not_mem_nil⟩
  have hun : ∀ (n pc : Nat), pc ∈ [64] → wq_Snd p l e ({ frames := 1, cells := 0, slots := 0, locals := 21 } : Room) s m args below meth c 8 cs D kz_cl A (wq_G0 ad w) (wq_Q cs D kz_cl A (wq_G0 ad w) rt xt below s 0 0) pc (ku_O_addPart rt xt n pc) := by
    intro n
    induction n with
    | zero => intro pc _ L S w9 n1 n2 h; exact h.elim
    | succ n ih => intro pc hpc; exact (hall (ku_O_addPart rt xt n) ih).1 pc hpc
  exact (hall (ku_O_addPart rt xt 1000000000000) (hun 1000000000000)).2 _ _ _ _ _ (wq_sp_t hsp)
set_option maxRecDepth 100000 in
set_option maxHeartbeats 4000000 in
theorem kv_O_isForeign {l : Launch} (hl : l.stackTraces = false) : wq_Vld l kz_cl ky_O_isForeign kw_T ({ frames := 1, cells := 0, slots := 0, locals := 21 }) wq_G0 ks_O_isForeign 0 0 := by
  refine wq_method (cc := kc_O_isForeign) (maxL := 6) (ret := (some .boolean)) (by decide) kw_684 (fun _ _ => rfl) wq_sp_sz ?_
  intro p e s m args below meth c cs D ad as w rt xt hF hnt hsp
  obtain ⟨h0, hr, hts, hown, hlk, hnm, hml, hK, hZ, hN, hA⟩ := hF
  have hown : s.vm.findClass "BorderDesk$Origins" = some m.cls := hown
  obtain ⟨A, hAe⟩ : ∃ A, A = wq_A ad w s.heap.size := ⟨_, rfl⟩
  rw [← hAe] at hZ hA ⊢
  have hb_55 : wq_Snd p l e ({ frames := 1, cells := 0, slots := 0, locals := 21 } : Room) s m args below meth c 6 cs D kz_cl A (wq_G0 ad w) (wq_Q cs D kz_cl A (wq_G0 ad w) rt xt below s 0 0) 55 (kt_O_isForeign_55 rt xt) := by
    exact wq_zreturn_ok h0 hr hlk kd_O_isForeign_55
  have hb_50 : wq_Snd p l e ({ frames := 1, cells := 0, slots := 0, locals := 21 } : Room) s m args below meth c 6 cs D kz_cl A (wq_G0 ad w) (wq_Q cs D kz_cl A (wq_G0 ad w) rt xt below s 0 0) 50 (kt_O_isForeign_50 rt xt) := by
    refine wq_iconst_ok h0 kd_O_isForeign_50 (by decide +kernel) ?_
    refine wq_goto_ok (tgt := 55) h0 kd_O_isForeign_51 (by decide) ?_
    exact hb_55
  have hb_54 : wq_Snd p l e ({ frames := 1, cells := 0, slots := 0, locals := 21 } : Room) s m args below meth c 6 cs D kz_cl A (wq_G0 ad w) (wq_Q cs D kz_cl A (wq_G0 ad w) rt xt below s 0 0) 54 (kt_O_isForeign_54 rt xt) := by
    refine wq_iconst_ok h0 kd_O_isForeign_54 (by decide +kernel) ?_
    exact hb_55
  have hb_0 : wq_Snd p l e ({ frames := 1, cells := 0, slots := 0, locals := 21 } : Room) s m args below meth c 6 cs D kz_cl A (wq_G0 ad w) (wq_Q cs D kz_cl A (wq_G0 ad w) rt xt below s 0 0) 0 (kt_O_isForeign_0 rt xt) := by
    refine wq_aload_n_ok h0 kd_O_isForeign_0 rfl ?_
    refine wq_get_ok (wq_getOK h0 hts ki_O hown hK (ci := 4) rfl 3 (Nat.le_of_ble_eq_true rfl) kw_169 rfl) kd_O_isForeign_1 ?_
    refine wq_iload_n_ok h0 kd_O_isForeign_4 rfl ?_
    refine wq_aald_ok h0 hK kd_O_isForeign_5 ?_
    refine wq_iload_n_ok h0 kd_O_isForeign_6 rfl ?_
    refine wq_iald_ok h0 hK kd_O_isForeign_7 ?_
    refine wq_istore_ok h0 kd_O_isForeign_8 (Nat.le_of_ble_eq_true rfl) ?_
    refine wq_aload_n_ok h0 kd_O_isForeign_10 rfl ?_
    refine wq_get_ok (wq_getOK h0 hts ki_O hown hK (ci := 4) rfl 1 (Nat.le_of_ble_eq_true rfl) kw_165 rfl) kd_O_isForeign_11 ?_
    refine wq_iload_n_ok h0 kd_O_isForeign_14 rfl ?_
    refine wq_iald_ok h0 hK kd_O_isForeign_15 ?_
    refine wq_aload_n_ok h0 kd_O_isForeign_16 rfl ?_
    refine wq_get_ok (wq_getOK h0 hts ki_O hown hK (ci := 4) rfl 5 (Nat.le_of_ble_eq_true rfl) kw_171 rfl) kd_O_isForeign_17 ?_
    refine wq_iload_n_ok h0 kd_O_isForeign_20 rfl ?_
    refine wq_aald_ok h0 hK kd_O_isForeign_21 ?_
    refine wq_iload_n_ok h0 kd_O_isForeign_22 rfl ?_
    refine wq_iald_ok h0 hK kd_O_isForeign_23 ?_
    refine wq_call_ok hA (wq_runS ⟨h0.1, h0.2, hml, hown, hts⟩ (kv_O_has hl) ⟨(wq_cB hts kw_G kw_632 kw_5 kw_630 ⟨by decide +kernel, by decide +kernel, by decide +kernel⟩ rfl rfl ⟨Nat.le_of_ble_eq_true rfl, Nat.le_of_ble_eq_true rfl⟩), hts _ kw_631⟩ hK hZ hN hA kd_O_isForeign_24) (wq_xout_ok hnt hlk) ?_
    refine wq_if_eq_ok (tgt := 50) h0 kd_O_isForeign_27 (by decide) ?_ ?_
    · exact hb_50
    refine wq_aload_n_ok h0 kd_O_isForeign_30 rfl ?_
    refine wq_get_ok (wq_getOK h0 hts ki_O hown hK (ci := 4) rfl 2 (Nat.le_of_ble_eq_true rfl) kw_167 rfl) kd_O_isForeign_31 ?_
    refine wq_iload_ok h0 kd_O_isForeign_34 ?_
    refine wq_iald_ok h0 hK kd_O_isForeign_36 ?_
    refine wq_if_le_ok (tgt := 54) h0 kd_O_isForeign_37 (by decide) ?_ ?_
    · exact hb_54
    refine wq_iload_ok h0 kd_O_isForeign_40 ?_
    refine wq_iload_ok h0 kd_O_isForeign_42 ?_
    refine wq_call_ok hA (wq_runS ⟨h0.1, h0.2, hml, hown, hts⟩ (kv_O_has hl) ⟨(wq_cB hts kw_G kw_632 kw_5 kw_630 ⟨by decide +kernel, by decide +kernel, by decide +kernel⟩ rfl rfl ⟨Nat.le_of_ble_eq_true rfl, Nat.le_of_ble_eq_true rfl⟩), hts _ kw_631⟩ hK hZ hN hA kd_O_isForeign_44) (wq_xout_ok hnt hlk) ?_
    refine wq_if_ne_ok (tgt := 54) h0 kd_O_isForeign_47 (by decide) ?_ ?_
    · exact hb_54
    exact hb_50
  exact hb_0 _ _ _ _ _ (wq_sp_t hsp)
set_option maxRecDepth 100000 in
set_option maxHeartbeats 4000000 in
theorem kv_O_meetsChange {l : Launch} (hl : l.stackTraces = false) : wq_Vld l kz_cl ky_O_meetsChange kw_T ({ frames := 4, cells := 0, slots := 0, locals := 94 }) wq_G0 ks_O_meetsChange 0 0 := by
  refine wq_method (cc := kc_O_meetsChange) (maxL := 6) (ret := (some .boolean)) (by decide) kw_680 (fun _ _ => rfl) wq_sp_sz ?_
  intro p e s m args below meth c cs D ad as w rt xt hF hnt hsp
  obtain ⟨h0, hr, hts, hown, hlk, hnm, hml, hK, hZ, hN, hA⟩ := hF
  have hown : s.vm.findClass "BorderDesk$Origins" = some m.cls := hown
  obtain ⟨A, hAe⟩ : ∃ A, A = wq_A ad w s.heap.size := ⟨_, rfl⟩
  rw [← hAe] at hZ hA ⊢
  have hall : ∀ K : Nat → wq_T, (∀ pc, pc ∈ [3] → wq_Snd p l e ({ frames := 4, cells := 0, slots := 0, locals := 94 } : Room) s m args below meth c 6 cs D kz_cl A (wq_G0 ad w) (wq_Q cs D kz_cl A (wq_G0 ad w) rt xt below s 0 0) pc (K pc)) → (∀ pc, pc ∈ [3] → wq_Snd p l e ({ frames := 4, cells := 0, slots := 0, locals := 94 } : Room) s m args below meth c 6 cs D kz_cl A (wq_G0 ad w) (wq_Q cs D kz_cl A (wq_G0 ad w) rt xt below s 0 0) pc (cond (Nat.beq pc 3) (kh_O_meetsChange_3 rt xt K) (fun _ _ _ _ _ => False))) ∧ wq_Snd p l e ({ frames := 4, cells := 0, slots := 0, locals := 94 } : Room) s m args below meth c 6 cs D kz_cl A (wq_G0 ad w) (wq_Q cs D kz_cl A (wq_G0 ad w) rt xt below s 0 0) 0 (kt_O_meetsChange_0 rt xt K) := by
    intro K hKc
    have hb_55 : wq_Snd p l e ({ frames := 4, cells := 0, slots := 0, locals := 94 } : Room) s m args below meth c 6 cs D kz_cl A (wq_G0 ad w) (wq_Q cs D kz_cl A (wq_G0 ad w) rt xt below s 0 0) 55 (kt_O_meetsChange_55 rt xt K) := by
      refine wq_iconst_ok h0 kd_O_meetsChange_55 (by decide +kernel) ?_
      exact wq_zreturn_ok h0 hr hlk kd_O_meetsChange_56
    have hb_49 : wq_Snd p l e ({ frames := 4, cells := 0, slots := 0, locals := 94 } : Room) s m args below meth c 6 cs D kz_cl A (wq_G0 ad w) (wq_Q cs D kz_cl A (wq_G0 ad w) rt xt below s 0 0) 49 (kt_O_meetsChange_49 rt xt K) := by
      refine wq_iinc_ok h0 kd_O_meetsChange_49 (by decide +kernel) (Nat.le_of_ble_eq_true rfl) ?_
      refine wq_goto_ok (tgt := 3) h0 kd_O_meetsChange_52 (by decide) ?_
      exact wq_can_ok (hKc 3 (by decide))
    have hb_3 : wq_Snd p l e ({ frames := 4, cells := 0, slots := 0, locals := 94 } : Room) s m args below meth c 6 cs D kz_cl A (wq_G0 ad w) (wq_Q cs D kz_cl A (wq_G0 ad w) rt xt below s 0 0) 3 (kh_O_meetsChange_3 rt xt K) := by
      refine wq_iload_ok h0 kd_O_meetsChange_3 ?_
      refine wq_aload_n_ok h0 kd_O_meetsChange_5 rfl ?_
      refine wq_get_ok (wq_getOK h0 hts ki_O hown hK (ci := 4) rfl 2 (Nat.le_of_ble_eq_true rfl) kw_167 rfl) kd_O_meetsChange_6 ?_
      refine wq_iload_n_ok h0 kd_O_meetsChange_9 rfl ?_
      refine wq_iald_ok h0 hK kd_O_meetsChange_10 ?_
      refine wq_icmp_ge_ok (tgt := 55) h0 kd_O_meetsChange_11 (by decide) ?_ ?_
      · exact hb_55
      refine wq_aload_n_ok h0 kd_O_meetsChange_14 rfl ?_
      refine wq_iload_n_ok h0 kd_O_meetsChange_15 rfl ?_
      refine wq_iload_ok h0 kd_O_meetsChange_16 ?_
      refine wq_iload_n_ok h0 kd_O_meetsChange_18 rfl ?_
      refine wq_iload_n_ok h0 kd_O_meetsChange_19 rfl ?_
      refine wq_call_ok hA (wq_runV (ci := 4) ⟨h0.1, h0.2, hml, hown, hts⟩ (kv_O_isForeign hl) ⟨(wq_cB hts kw_G kw_684 kw_5 kw_681 ⟨by decide +kernel, by decide +kernel, by decide +kernel⟩ rfl rfl ⟨Nat.le_of_ble_eq_true rfl, Nat.le_of_ble_eq_true rfl⟩), hts _ kw_683, hts _ kw_s10⟩ rfl rfl hK hZ hN hA kd_O_meetsChange_20) (wq_xout_ok hnt hlk) ?_
      refine wq_if_eq_ok (tgt := 49) h0 kd_O_meetsChange_23 (by decide) ?_ ?_
      · exact hb_49
      refine wq_aload_n_ok h0 kd_O_meetsChange_26 rfl ?_
      refine wq_get_ok (wq_getOK h0 hts ki_O hown hK (ci := 4) rfl 0 (Nat.le_of_ble_eq_true rfl) kw_164 rfl) kd_O_meetsChange_27 ?_
      refine wq_aload_n_ok h0 kd_O_meetsChange_30 rfl ?_
      refine wq_get_ok (wq_getOK h0 hts ki_O hown hK (ci := 4) rfl 3 (Nat.le_of_ble_eq_true rfl) kw_169 rfl) kd_O_meetsChange_31 ?_
      refine wq_iload_n_ok h0 kd_O_meetsChange_34 rfl ?_
      refine wq_aald_ok h0 hK kd_O_meetsChange_35 ?_
      refine wq_iload_ok h0 kd_O_meetsChange_36 ?_
      refine wq_iald_ok h0 hK kd_O_meetsChange_38 ?_
      refine wq_call_ok hA (wq_runV (ci := 1) ⟨h0.1, h0.2, hml, hown, hts⟩ (kv_T_classOf hl) ⟨(wq_cB hts kw_G kw_542 kw_2 kw_672 ⟨by decide +kernel, by decide +kernel, by decide +kernel⟩ rfl rfl ⟨Nat.le_of_ble_eq_true rfl, Nat.le_of_ble_eq_true rfl⟩), hts _ kw_540, hts _ kw_541⟩ rfl rfl hK hZ hN hA kd_O_meetsChange_39) (wq_xout_ok hnt hlk) ?_
      refine wq_iload_ok h0 kd_O_meetsChange_42 ?_
      refine wq_icmp_ne_ok (tgt := 49) h0 kd_O_meetsChange_44 (by decide) ?_ ?_
      · exact hb_49
      refine wq_iconst_ok h0 kd_O_meetsChange_47 (by decide +kernel) ?_
      exact wq_zreturn_ok h0 hr hlk kd_O_meetsChange_48
    have hb_0 : wq_Snd p l e ({ frames := 4, cells := 0, slots := 0, locals := 94 } : Room) s m args below meth c 6 cs D kz_cl A (wq_G0 ad w) (wq_Q cs D kz_cl A (wq_G0 ad w) rt xt below s 0 0) 0 (kt_O_meetsChange_0 rt xt K) := by
      refine wq_iconst_ok h0 kd_O_meetsChange_0 (by decide +kernel) ?_
      refine wq_istore_ok h0 kd_O_meetsChange_1 (Nat.le_of_ble_eq_true rfl) ?_
      exact wq_can_ok (hKc 3 (by decide))
    refine ⟨?_, hb_0⟩
    exact List.forall_mem_cons.mpr ⟨hb_3, fun _ h => absurd h List.not_mem_nil⟩
  have hun : ∀ (n pc : Nat), pc ∈ [3] → wq_Snd p l e ({ frames := 4, cells := 0, slots := 0, locals := 94 } : Room) s m args below meth c 6 cs D kz_cl A (wq_G0 ad w) (wq_Q cs D kz_cl A (wq_G0 ad w) rt xt below s 0 0) pc (ku_O_meetsChange rt xt n pc) := by
    intro n
    induction n with
    | zero => intro pc _ L S w9 n1 n2 h; exact h.elim
    | succ n ih => intro pc hpc; exact (hall (ku_O_meetsChange rt xt n) ih).1 pc hpc
  exact (hall (ku_O_meetsChange rt xt 1000000000000) (hun 1000000000000)).2 _ _ _ _ _ (wq_sp_t hsp)
set_option maxRecDepth 100000 in
set_option maxHeartbeats 4000000 in
theorem kv_O_meetsShare {l : Launch} (hl : l.stackTraces = false) : wq_Vld l kz_cl ky_O_meetsShare kw_T ({ frames := 2, cells := 0, slots := 0, locals := 46 }) wq_G0 ks_O_meetsShare 0 0 := by
  refine wq_method (cc := kc_O_meetsShare) (maxL := 11) (ret := (some .boolean)) (by decide) kw_688 (fun _ _ => rfl) wq_sp_sz ?_
  intro p e s m args below meth c cs D ad as w rt xt hF hnt hsp
  obtain ⟨h0, hr, hts, hown, hlk, hnm, hml, hK, hZ, hN, hA⟩ := hF
  have hown : s.vm.findClass "BorderDesk$Origins" = some m.cls := hown
  obtain ⟨A, hAe⟩ : ∃ A, A = wq_A ad w s.heap.size := ⟨_, rfl⟩
  rw [← hAe] at hZ hA ⊢
  have hall : ∀ K : Nat → wq_T, (∀ pc, pc ∈ [9] → wq_Snd p l e ({ frames := 2, cells := 0, slots := 0, locals := 46 } : Room) s m args below meth c 11 cs D kz_cl A (wq_G0 ad w) (wq_Q cs D kz_cl A (wq_G0 ad w) rt xt below s 0 0) pc (K pc)) → (∀ pc, pc ∈ [9] → wq_Snd p l e ({ frames := 2, cells := 0, slots := 0, locals := 46 } : Room) s m args below meth c 11 cs D kz_cl A (wq_G0 ad w) (wq_Q cs D kz_cl A (wq_G0 ad w) rt xt below s 0 0) pc (cond (Nat.beq pc 9) (kh_O_meetsShare_9 rt xt K) (fun _ _ _ _ _ => False))) ∧ wq_Snd p l e ({ frames := 2, cells := 0, slots := 0, locals := 46 } : Room) s m args below meth c 11 cs D kz_cl A (wq_G0 ad w) (wq_Q cs D kz_cl A (wq_G0 ad w) rt xt below s 0 0) 0 (kt_O_meetsShare_0 rt xt K) := by
    intro K hKc
    have hb_86 : wq_Snd p l e ({ frames := 2, cells := 0, slots := 0, locals := 46 } : Room) s m args below meth c 11 cs D kz_cl A (wq_G0 ad w) (wq_Q cs D kz_cl A (wq_G0 ad w) rt xt below s 0 0) 86 (kt_O_meetsShare_86 rt xt K) := by
      exact wq_zreturn_ok h0 hr hlk kd_O_meetsShare_86
    have hb_85 : wq_Snd p l e ({ frames := 2, cells := 0, slots := 0, locals := 46 } : Room) s m args below meth c 11 cs D kz_cl A (wq_G0 ad w) (wq_Q cs D kz_cl A (wq_G0 ad w) rt xt below s 0 0) 85 (kt_O_meetsShare_85 rt xt K) := by
      refine wq_iconst_ok h0 kd_O_meetsShare_85 (by decide +kernel) ?_
      exact hb_86
    have hb_65 : wq_Snd p l e ({ frames := 2, cells := 0, slots := 0, locals := 46 } : Room) s m args below meth c 11 cs D kz_cl A (wq_G0 ad w) (wq_Q cs D kz_cl A (wq_G0 ad w) rt xt below s 0 0) 65 (kt_O_meetsShare_65 rt xt K) := by
      refine wq_ldc2_ok (v := 1000) h0 hown (hts _ kw_689) kd_O_meetsShare_65 ?_
      refine wq_lload_ok h0 kd_O_meetsShare_68 ?_
      refine wq_lmul_ok h0 kd_O_meetsShare_70 ?_
      refine wq_iload_ok h0 kd_O_meetsShare_71 ?_
      refine wq_i2l_ok h0 kd_O_meetsShare_73 ?_
      refine wq_lload_ok h0 kd_O_meetsShare_74 ?_
      refine wq_lmul_ok h0 kd_O_meetsShare_76 ?_
      refine wq_lcmp_gt_ok (tgt := 85) h0 kd_O_meetsShare_77 kd_O_meetsShare_78 (by decide) ?_ ?_
      · exact hb_85
      refine wq_iconst_ok h0 kd_O_meetsShare_81 (by decide +kernel) ?_
      refine wq_goto_ok (tgt := 86) h0 kd_O_meetsShare_82 (by decide) ?_
      exact hb_86
    have hb_59 : wq_Snd p l e ({ frames := 2, cells := 0, slots := 0, locals := 46 } : Room) s m args below meth c 11 cs D kz_cl A (wq_G0 ad w) (wq_Q cs D kz_cl A (wq_G0 ad w) rt xt below s 0 0) 59 (kt_O_meetsShare_59 rt xt K) := by
      refine wq_iinc_ok h0 kd_O_meetsShare_59 (by decide +kernel) (Nat.le_of_ble_eq_true rfl) ?_
      refine wq_goto_ok (tgt := 9) h0 kd_O_meetsShare_62 (by decide) ?_
      exact wq_can_ok (hKc 9 (by decide))
    have hb_9 : wq_Snd p l e ({ frames := 2, cells := 0, slots := 0, locals := 46 } : Room) s m args below meth c 11 cs D kz_cl A (wq_G0 ad w) (wq_Q cs D kz_cl A (wq_G0 ad w) rt xt below s 0 0) 9 (kh_O_meetsShare_9 rt xt K) := by
      refine wq_iload_ok h0 kd_O_meetsShare_9 ?_
      refine wq_aload_n_ok h0 kd_O_meetsShare_11 rfl ?_
      refine wq_get_ok (wq_getOK h0 hts ki_O hown hK (ci := 4) rfl 2 (Nat.le_of_ble_eq_true rfl) kw_167 rfl) kd_O_meetsShare_12 ?_
      refine wq_iload_n_ok h0 kd_O_meetsShare_15 rfl ?_
      refine wq_iald_ok h0 hK kd_O_meetsShare_16 ?_
      refine wq_icmp_ge_ok (tgt := 65) h0 kd_O_meetsShare_17 (by decide) ?_ ?_
      · exact hb_65
      refine wq_aload_n_ok h0 kd_O_meetsShare_20 rfl ?_
      refine wq_get_ok (wq_getOK h0 hts ki_O hown hK (ci := 4) rfl 4 (Nat.le_of_ble_eq_true rfl) kw_170 rfl) kd_O_meetsShare_21 ?_
      refine wq_iload_n_ok h0 kd_O_meetsShare_24 rfl ?_
      refine wq_aald_ok h0 hK kd_O_meetsShare_25 ?_
      refine wq_iload_ok h0 kd_O_meetsShare_26 ?_
      refine wq_iald_ok h0 hK kd_O_meetsShare_28 ?_
      refine wq_istore_ok h0 kd_O_meetsShare_29 (Nat.le_of_ble_eq_true rfl) ?_
      refine wq_lload_ok h0 kd_O_meetsShare_31 ?_
      refine wq_iload_ok h0 kd_O_meetsShare_33 ?_
      refine wq_i2l_ok h0 kd_O_meetsShare_35 ?_
      refine wq_ladd_ok h0 kd_O_meetsShare_36 ?_
      refine wq_lstore_ok h0 kd_O_meetsShare_37 (Nat.le_of_ble_eq_true rfl) ?_
      refine wq_aload_n_ok h0 kd_O_meetsShare_39 rfl ?_
      refine wq_iload_n_ok h0 kd_O_meetsShare_40 rfl ?_
      refine wq_iload_ok h0 kd_O_meetsShare_41 ?_
      refine wq_iload_n_ok h0 kd_O_meetsShare_43 rfl ?_
      refine wq_iload_n_ok h0 kd_O_meetsShare_44 rfl ?_
      refine wq_call_ok hA (wq_runV (ci := 4) ⟨h0.1, h0.2, hml, hown, hts⟩ (kv_O_isForeign hl) ⟨(wq_cB hts kw_G kw_684 kw_5 kw_681 ⟨by decide +kernel, by decide +kernel, by decide +kernel⟩ rfl rfl ⟨Nat.le_of_ble_eq_true rfl, Nat.le_of_ble_eq_true rfl⟩), hts _ kw_683, hts _ kw_s10⟩ rfl rfl hK hZ hN hA kd_O_meetsShare_45) (wq_xout_ok hnt hlk) ?_
      refine wq_if_eq_ok (tgt := 59) h0 kd_O_meetsShare_48 (by decide) ?_ ?_
      · exact hb_59
      refine wq_lload_ok h0 kd_O_meetsShare_51 ?_
      refine wq_iload_ok h0 kd_O_meetsShare_53 ?_
      refine wq_i2l_ok h0 kd_O_meetsShare_55 ?_
      refine wq_ladd_ok h0 kd_O_meetsShare_56 ?_
      refine wq_lstore_ok h0 kd_O_meetsShare_57 (Nat.le_of_ble_eq_true rfl) ?_
      exact hb_59
    have hb_0 : wq_Snd p l e ({ frames := 2, cells := 0, slots := 0, locals := 46 } : Room) s m args below meth c 11 cs D kz_cl A (wq_G0 ad w) (wq_Q cs D kz_cl A (wq_G0 ad w) rt xt below s 0 0) 0 (kt_O_meetsShare_0 rt xt K) := by
      refine wq_lconst_ok h0 kd_O_meetsShare_0 (by decide +kernel) ?_
      refine wq_lstore_ok h0 kd_O_meetsShare_1 (Nat.le_of_ble_eq_true rfl) ?_
      refine wq_lconst_ok h0 kd_O_meetsShare_3 (by decide +kernel) ?_
      refine wq_lstore_ok h0 kd_O_meetsShare_4 (Nat.le_of_ble_eq_true rfl) ?_
      refine wq_iconst_ok h0 kd_O_meetsShare_6 (by decide +kernel) ?_
      refine wq_istore_ok h0 kd_O_meetsShare_7 (Nat.le_of_ble_eq_true rfl) ?_
      exact wq_can_ok (hKc 9 (by decide))
    refine ⟨?_, hb_0⟩
    exact List.forall_mem_cons.mpr ⟨hb_9, fun _ h => absurd h List.not_mem_nil⟩
  have hun : ∀ (n pc : Nat), pc ∈ [9] → wq_Snd p l e ({ frames := 2, cells := 0, slots := 0, locals := 46 } : Room) s m args below meth c 11 cs D kz_cl A (wq_G0 ad w) (wq_Q cs D kz_cl A (wq_G0 ad w) rt xt below s 0 0) pc (ku_O_meetsShare rt xt n pc) := by
    intro n
    induction n with
    | zero => intro pc _ L S w9 n1 n2 h; exact h.elim
    | succ n ih => intro pc hpc; exact (hall (ku_O_meetsShare rt xt n) ih).1 pc hpc
  exact (hall (ku_O_meetsShare rt xt 1000000000000) (hun 1000000000000)).2 _ _ _ _ _ (wq_sp_t hsp)
set_option maxRecDepth 100000 in
set_option maxHeartbeats 4000000 in
theorem kv_O_meetsRule {l : Launch} (hl : l.stackTraces = false) : wq_Vld l kz_cl ky_O_meetsRule kw_T ({ frames := 5, cells := 0, slots := 0, locals := 119 }) wq_G0 ks_O_meetsRule 0 0 := by
  refine wq_method (cc := kc_O_meetsRule) (maxL := 6) (ret := (some .boolean)) (by decide) kw_671 (fun _ _ => rfl) wq_sp_sz ?_
  intro p e s m args below meth c cs D ad as w rt xt hF hnt hsp
  obtain ⟨h0, hr, hts, hown, hlk, hnm, hml, hK, hZ, hN, hA⟩ := hF
  have hown : s.vm.findClass "BorderDesk$Origins" = some m.cls := hown
  obtain ⟨A, hAe⟩ : ∃ A, A = wq_A ad w s.heap.size := ⟨_, rfl⟩
  rw [← hAe] at hZ hA ⊢
  have hb_75 : wq_Snd p l e ({ frames := 5, cells := 0, slots := 0, locals := 119 } : Room) s m args below meth c 6 cs D kz_cl A (wq_G0 ad w) (wq_Q cs D kz_cl A (wq_G0 ad w) rt xt below s 0 0) 75 (kt_O_meetsRule_75 rt xt) := by
    refine wq_aload_n_ok h0 kd_O_meetsRule_75 rfl ?_
    refine wq_iload_n_ok h0 kd_O_meetsRule_76 rfl ?_
    refine wq_iload_n_ok h0 kd_O_meetsRule_77 rfl ?_
    refine wq_iload_n_ok h0 kd_O_meetsRule_78 rfl ?_
    refine wq_aload_n_ok h0 kd_O_meetsRule_79 rfl ?_
    refine wq_get_ok (wq_getOK h0 hts ki_O hown hK (ci := 4) rfl 0 (Nat.le_of_ble_eq_true rfl) kw_164 rfl) kd_O_meetsRule_80 ?_
    refine wq_get_ok (wq_getOK h0 hts ki_T hown hK (ci := 1) rfl 4 (Nat.le_of_ble_eq_true rfl) kw_46 rfl) kd_O_meetsRule_83 ?_
    refine wq_iload_ok h0 kd_O_meetsRule_86 ?_
    refine wq_iald_ok h0 hK kd_O_meetsRule_88 ?_
    refine wq_call_ok hA (wq_runV (ci := 4) ⟨h0.1, h0.2, hml, hown, hts⟩ (kv_O_meetsShare hl) ⟨(wq_cB hts kw_G kw_688 kw_5 kw_685 ⟨by decide +kernel, by decide +kernel, by decide +kernel⟩ rfl rfl ⟨Nat.le_of_ble_eq_true rfl, Nat.le_of_ble_eq_true rfl⟩), hts _ kw_687, hts _ kw_s11⟩ rfl rfl hK hZ hN hA kd_O_meetsRule_89) (wq_xout_ok hnt hlk) ?_
    exact wq_zreturn_ok h0 hr hlk kd_O_meetsRule_92
  have hb_52 : wq_Snd p l e ({ frames := 5, cells := 0, slots := 0, locals := 119 } : Room) s m args below meth c 6 cs D kz_cl A (wq_G0 ad w) (wq_Q cs D kz_cl A (wq_G0 ad w) rt xt below s 0 0) 52 (kt_O_meetsRule_52 rt xt) := by
    refine wq_aload_n_ok h0 kd_O_meetsRule_52 rfl ?_
    refine wq_get_ok (wq_getOK h0 hts ki_O hown hK (ci := 4) rfl 0 (Nat.le_of_ble_eq_true rfl) kw_164 rfl) kd_O_meetsRule_53 ?_
    refine wq_get_ok (wq_getOK h0 hts ki_T hown hK (ci := 1) rfl 3 (Nat.le_of_ble_eq_true rfl) kw_43 rfl) kd_O_meetsRule_56 ?_
    refine wq_iload_ok h0 kd_O_meetsRule_59 ?_
    refine wq_iald_ok h0 hK kd_O_meetsRule_61 ?_
    refine wq_if_ne_ok (tgt := 75) h0 kd_O_meetsRule_62 (by decide) ?_ ?_
    · exact hb_75
    refine wq_aload_n_ok h0 kd_O_meetsRule_65 rfl ?_
    refine wq_iload_n_ok h0 kd_O_meetsRule_66 rfl ?_
    refine wq_iload_n_ok h0 kd_O_meetsRule_67 rfl ?_
    refine wq_iload_n_ok h0 kd_O_meetsRule_68 rfl ?_
    refine wq_iload_ok h0 kd_O_meetsRule_69 ?_
    refine wq_call_ok hA (wq_runV (ci := 4) ⟨h0.1, h0.2, hml, hown, hts⟩ (kv_O_meetsChange hl) ⟨(wq_cB hts kw_G kw_680 kw_5 kw_677 ⟨by decide +kernel, by decide +kernel, by decide +kernel⟩ rfl rfl ⟨Nat.le_of_ble_eq_true rfl, Nat.le_of_ble_eq_true rfl⟩), hts _ kw_679, hts _ kw_s9⟩ rfl rfl hK hZ hN hA kd_O_meetsRule_71) (wq_xout_ok hnt hlk) ?_
    exact wq_zreturn_ok h0 hr hlk kd_O_meetsRule_74
  have hb_42 : wq_Snd p l e ({ frames := 5, cells := 0, slots := 0, locals := 119 } : Room) s m args below meth c 6 cs D kz_cl A (wq_G0 ad w) (wq_Q cs D kz_cl A (wq_G0 ad w) rt xt below s 0 0) 42 (kt_O_meetsRule_42 rt xt) := by
    refine wq_istore_ok h0 kd_O_meetsRule_42 (Nat.le_of_ble_eq_true rfl) ?_
    refine wq_iload_ok h0 kd_O_meetsRule_44 ?_
    refine wq_iconst_ok h0 kd_O_meetsRule_46 (by decide +kernel) ?_
    refine wq_icmp_ne_ok (tgt := 52) h0 kd_O_meetsRule_47 (by decide) ?_ ?_
    · exact hb_52
    refine wq_iconst_ok h0 kd_O_meetsRule_50 (by decide +kernel) ?_
    exact wq_zreturn_ok h0 hr hlk kd_O_meetsRule_51
  have hb_33 : wq_Snd p l e ({ frames := 5, cells := 0, slots := 0, locals := 119 } : Room) s m args below meth c 6 cs D kz_cl A (wq_G0 ad w) (wq_Q cs D kz_cl A (wq_G0 ad w) rt xt below s 0 0) 33 (kt_O_meetsRule_33 rt xt) := by
    refine wq_aload_n_ok h0 kd_O_meetsRule_33 rfl ?_
    refine wq_get_ok (wq_getOK h0 hts ki_O hown hK (ci := 4) rfl 0 (Nat.le_of_ble_eq_true rfl) kw_164 rfl) kd_O_meetsRule_34 ?_
    refine wq_iload_ok h0 kd_O_meetsRule_37 ?_
    refine wq_call_ok hA (wq_runV (ci := 1) ⟨h0.1, h0.2, hml, hown, hts⟩ (kv_T_headingWithRule hl) ⟨(wq_cB hts kw_G kw_676 kw_2 kw_673 ⟨by decide +kernel, by decide +kernel, by decide +kernel⟩ rfl rfl ⟨Nat.le_of_ble_eq_true rfl, Nat.le_of_ble_eq_true rfl⟩), hts _ kw_674, hts _ kw_675⟩ rfl rfl hK hZ hN hA kd_O_meetsRule_39) (wq_xout_ok hnt hlk) ?_
    exact hb_42
  have hb_21 : wq_Snd p l e ({ frames := 5, cells := 0, slots := 0, locals := 119 } : Room) s m args below meth c 6 cs D kz_cl A (wq_G0 ad w) (wq_Q cs D kz_cl A (wq_G0 ad w) rt xt below s 0 0) 21 (kt_O_meetsRule_21 rt xt) := by
    refine wq_istore_ok h0 kd_O_meetsRule_21 (Nat.le_of_ble_eq_true rfl) ?_
    refine wq_iload_ok h0 kd_O_meetsRule_23 ?_
    refine wq_iconst_ok h0 kd_O_meetsRule_25 (by decide +kernel) ?_
    refine wq_icmp_ne_ok (tgt := 33) h0 kd_O_meetsRule_26 (by decide) ?_ ?_
    · exact hb_33
    refine wq_iconst_ok h0 kd_O_meetsRule_29 (by decide +kernel) ?_
    refine wq_goto_ok (tgt := 42) h0 kd_O_meetsRule_30 (by decide) ?_
    exact hb_42
  have hb_13 : wq_Snd p l e ({ frames := 5, cells := 0, slots := 0, locals := 119 } : Room) s m args below meth c 6 cs D kz_cl A (wq_G0 ad w) (wq_Q cs D kz_cl A (wq_G0 ad w) rt xt below s 0 0) 13 (kt_O_meetsRule_13 rt xt) := by
    refine wq_aload_n_ok h0 kd_O_meetsRule_13 rfl ?_
    refine wq_get_ok (wq_getOK h0 hts ki_O hown hK (ci := 4) rfl 0 (Nat.le_of_ble_eq_true rfl) kw_164 rfl) kd_O_meetsRule_14 ?_
    refine wq_iload_n_ok h0 kd_O_meetsRule_17 rfl ?_
    refine wq_call_ok hA (wq_runV (ci := 1) ⟨h0.1, h0.2, hml, hown, hts⟩ (kv_T_classOf hl) ⟨(wq_cB hts kw_G kw_542 kw_2 kw_672 ⟨by decide +kernel, by decide +kernel, by decide +kernel⟩ rfl rfl ⟨Nat.le_of_ble_eq_true rfl, Nat.le_of_ble_eq_true rfl⟩), hts _ kw_540, hts _ kw_541⟩ rfl rfl hK hZ hN hA kd_O_meetsRule_18) (wq_xout_ok hnt hlk) ?_
    exact hb_21
  have hb_0 : wq_Snd p l e ({ frames := 5, cells := 0, slots := 0, locals := 119 } : Room) s m args below meth c 6 cs D kz_cl A (wq_G0 ad w) (wq_Q cs D kz_cl A (wq_G0 ad w) rt xt below s 0 0) 0 (kt_O_meetsRule_0 rt xt) := by
    refine wq_aload_n_ok h0 kd_O_meetsRule_0 rfl ?_
    refine wq_get_ok (wq_getOK h0 hts ki_O hown hK (ci := 4) rfl 2 (Nat.le_of_ble_eq_true rfl) kw_167 rfl) kd_O_meetsRule_1 ?_
    refine wq_iload_n_ok h0 kd_O_meetsRule_4 rfl ?_
    refine wq_iald_ok h0 hK kd_O_meetsRule_5 ?_
    refine wq_if_ne_ok (tgt := 13) h0 kd_O_meetsRule_6 (by decide) ?_ ?_
    · exact hb_13
    refine wq_iconst_ok h0 kd_O_meetsRule_9 (by decide +kernel) ?_
    refine wq_goto_ok (tgt := 21) h0 kd_O_meetsRule_10 (by decide) ?_
    exact hb_21
  exact hb_0 _ _ _ _ _ (wq_sp_t hsp)
set_option maxRecDepth 100000 in
set_option maxHeartbeats 4000000 in
theorem kv_O_isMadeIn {l : Launch} (hl : l.stackTraces = false) : wq_Vld l kz_cl ky_O_isMadeIn kw_T ({ frames := 6, cells := 0, slots := 0, locals := 144 }) wq_G0 ks_O_isMadeIn 0 0 := by
  refine wq_method (cc := kc_O_isMadeIn) (maxL := 7) (ret := (some .boolean)) (by decide) kw_661 (fun _ _ => rfl) wq_sp_sz ?_
  intro p e s m args below meth c cs D ad as w rt xt hF hnt hsp
  obtain ⟨h0, hr, hts, hown, hlk, hnm, hml, hK, hZ, hN, hA⟩ := hF
  have hown : s.vm.findClass "BorderDesk$Origins" = some m.cls := hown
  obtain ⟨A, hAe⟩ : ∃ A, A = wq_A ad w s.heap.size := ⟨_, rfl⟩
  rw [← hAe] at hZ hA ⊢
  have hall : ∀ K : Nat → wq_T, (∀ pc, pc ∈ [17, 34] → wq_Snd p l e ({ frames := 6, cells := 0, slots := 0, locals := 144 } : Room) s m args below meth c 7 cs D kz_cl A (wq_G0 ad w) (wq_Q cs D kz_cl A (wq_G0 ad w) rt xt below s 0 0) pc (K pc)) → (∀ pc, pc ∈ [17, 34] → wq_Snd p l e ({ frames := 6, cells := 0, slots := 0, locals := 144 } : Room) s m args below meth c 7 cs D kz_cl A (wq_G0 ad w) (wq_Q cs D kz_cl A (wq_G0 ad w) rt xt below s 0 0) pc (cond (Nat.beq pc 17) (kh_O_isMadeIn_17 rt xt K) (cond (Nat.beq pc 34) (kh_O_isMadeIn_34 rt xt K) (fun _ _ _ _ _ => False)))) ∧ wq_Snd p l e ({ frames := 6, cells := 0, slots := 0, locals := 144 } : Room) s m args below meth c 7 cs D kz_cl A (wq_G0 ad w) (wq_Q cs D kz_cl A (wq_G0 ad w) rt xt below s 0 0) 0 (kt_O_isMadeIn_0 rt xt K) := by
    intro K hKc
    have hb_98 : wq_Snd p l e ({ frames := 6, cells := 0, slots := 0, locals := 144 } : Room) s m args below meth c 7 cs D kz_cl A (wq_G0 ad w) (wq_Q cs D kz_cl A (wq_G0 ad w) rt xt below s 0 0) 98 (kt_O_isMadeIn_98 rt xt K) := by
      refine wq_iload_ok h0 kd_O_isMadeIn_98 ?_
      refine wq_iload_n_ok h0 kd_O_isMadeIn_100 rfl ?_
      refine wq_call_ok hA (wq_runS ⟨h0.1, h0.2, hml, hown, hts⟩ (kv_O_has hl) ⟨(wq_cB hts kw_G kw_632 kw_5 kw_630 ⟨by decide +kernel, by decide +kernel, by decide +kernel⟩ rfl rfl ⟨Nat.le_of_ble_eq_true rfl, Nat.le_of_ble_eq_true rfl⟩), hts _ kw_631⟩ hK hZ hN hA kd_O_isMadeIn_101) (wq_xout_ok hnt hlk) ?_
      exact wq_zreturn_ok h0 hr hlk kd_O_isMadeIn_104
    have hb_17 : wq_Snd p l e ({ frames := 6, cells := 0, slots := 0, locals := 144 } : Room) s m args below meth c 7 cs D kz_cl A (wq_G0 ad w) (wq_Q cs D kz_cl A (wq_G0 ad w) rt xt below s 0 0) 17 (kh_O_isMadeIn_17 rt xt K) := by
      refine wq_iload_ok h0 kd_O_isMadeIn_17 ?_
      refine wq_aload_n_ok h0 kd_O_isMadeIn_19 rfl ?_
      refine wq_get_ok (wq_getOK h0 hts ki_O hown hK (ci := 4) rfl 6 (Nat.le_of_ble_eq_true rfl) kw_172 rfl) kd_O_isMadeIn_20 ?_
      refine wq_iload_n_ok h0 kd_O_isMadeIn_23 rfl ?_
      refine wq_iald_ok h0 hK kd_O_isMadeIn_24 ?_
      refine wq_call_ok hA (wq_runS ⟨h0.1, h0.2, hml, hown, hts⟩ (kv_I_bitCount hl) ⟨(wq_cB hts kw_G kw_664 kw_17 kw_662 ⟨by decide +kernel, by decide +kernel, by decide +kernel⟩ rfl rfl ⟨Nat.le_of_ble_eq_true rfl, Nat.le_of_ble_eq_true rfl⟩), hts _ kw_663⟩ hK hZ hN hA kd_O_isMadeIn_25) (wq_xout_ok hnt hlk) ?_
      refine wq_icmp_gt_ok (tgt := 98) h0 kd_O_isMadeIn_28 (by decide) ?_ ?_
      · exact hb_98
      refine wq_iconst_ok h0 kd_O_isMadeIn_31 (by decide +kernel) ?_
      refine wq_istore_ok h0 kd_O_isMadeIn_32 (Nat.le_of_ble_eq_true rfl) ?_
      exact wq_can_ok (hKc 34 (by decide))
    have hb_92 : wq_Snd p l e ({ frames := 6, cells := 0, slots := 0, locals := 144 } : Room) s m args below meth c 7 cs D kz_cl A (wq_G0 ad w) (wq_Q cs D kz_cl A (wq_G0 ad w) rt xt below s 0 0) 92 (kt_O_isMadeIn_92 rt xt K) := by
      refine wq_iinc_ok h0 kd_O_isMadeIn_92 (by decide +kernel) (Nat.le_of_ble_eq_true rfl) ?_
      refine wq_goto_ok (tgt := 17) h0 kd_O_isMadeIn_95 (by decide) ?_
      exact wq_can_ok (hKc 17 (by decide))
    have hb_86 : wq_Snd p l e ({ frames := 6, cells := 0, slots := 0, locals := 144 } : Room) s m args below meth c 7 cs D kz_cl A (wq_G0 ad w) (wq_Q cs D kz_cl A (wq_G0 ad w) rt xt below s 0 0) 86 (kt_O_isMadeIn_86 rt xt K) := by
      refine wq_iinc_ok h0 kd_O_isMadeIn_86 (by decide +kernel) (Nat.le_of_ble_eq_true rfl) ?_
      refine wq_goto_ok (tgt := 34) h0 kd_O_isMadeIn_89 (by decide) ?_
      exact wq_can_ok (hKc 34 (by decide))
    have hb_34 : wq_Snd p l e ({ frames := 6, cells := 0, slots := 0, locals := 144 } : Room) s m args below meth c 7 cs D kz_cl A (wq_G0 ad w) (wq_Q cs D kz_cl A (wq_G0 ad w) rt xt below s 0 0) 34 (kh_O_isMadeIn_34 rt xt K) := by
      refine wq_iload_ok h0 kd_O_isMadeIn_34 ?_
      refine wq_bipush_ok h0 kd_O_isMadeIn_36 (by decide +kernel) ?_
      refine wq_icmp_ge_ok (tgt := 92) h0 kd_O_isMadeIn_38 (by decide) ?_ ?_
      · exact hb_92
      refine wq_iload_n_ok h0 kd_O_isMadeIn_41 rfl ?_
      refine wq_iload_ok h0 kd_O_isMadeIn_42 ?_
      refine wq_call_ok hA (wq_runS ⟨h0.1, h0.2, hml, hown, hts⟩ (kv_O_has hl) ⟨(wq_cB hts kw_G kw_632 kw_5 kw_630 ⟨by decide +kernel, by decide +kernel, by decide +kernel⟩ rfl rfl ⟨Nat.le_of_ble_eq_true rfl, Nat.le_of_ble_eq_true rfl⟩), hts _ kw_631⟩ hK hZ hN hA kd_O_isMadeIn_44) (wq_xout_ok hnt hlk) ?_
      refine wq_if_eq_ok (tgt := 86) h0 kd_O_isMadeIn_47 (by decide) ?_ ?_
      · exact hb_86
      refine wq_aload_n_ok h0 kd_O_isMadeIn_50 rfl ?_
      refine wq_get_ok (wq_getOK h0 hts ki_O hown hK (ci := 4) rfl 6 (Nat.le_of_ble_eq_true rfl) kw_172 rfl) kd_O_isMadeIn_51 ?_
      refine wq_iload_ok h0 kd_O_isMadeIn_54 ?_
      refine wq_iald_ok h0 hK kd_O_isMadeIn_56 ?_
      refine wq_call_ok hA (wq_runS ⟨h0.1, h0.2, hml, hown, hts⟩ (kv_I_bitCount hl) ⟨(wq_cB hts kw_G kw_664 kw_17 kw_662 ⟨by decide +kernel, by decide +kernel, by decide +kernel⟩ rfl rfl ⟨Nat.le_of_ble_eq_true rfl, Nat.le_of_ble_eq_true rfl⟩), hts _ kw_663⟩ hK hZ hN hA kd_O_isMadeIn_57) (wq_xout_ok hnt hlk) ?_
      refine wq_iload_ok h0 kd_O_isMadeIn_60 ?_
      refine wq_icmp_ne_ok (tgt := 86) h0 kd_O_isMadeIn_62 (by decide) ?_ ?_
      · exact hb_86
      refine wq_aload_n_ok h0 kd_O_isMadeIn_65 rfl ?_
      refine wq_iload_ok h0 kd_O_isMadeIn_66 ?_
      refine wq_iload_n_ok h0 kd_O_isMadeIn_68 rfl ?_
      refine wq_iload_ok h0 kd_O_isMadeIn_69 ?_
      refine wq_call_ok hA (wq_runV (ci := 4) ⟨h0.1, h0.2, hml, hown, hts⟩ (kv_O_meetsRule hl) ⟨(wq_cB hts kw_G kw_671 kw_5 kw_668 ⟨by decide +kernel, by decide +kernel, by decide +kernel⟩ rfl rfl ⟨Nat.le_of_ble_eq_true rfl, Nat.le_of_ble_eq_true rfl⟩), hts _ kw_670, hts _ kw_s8⟩ rfl rfl hK hZ hN hA kd_O_isMadeIn_71) (wq_xout_ok hnt hlk) ?_
      refine wq_if_eq_ok (tgt := 86) h0 kd_O_isMadeIn_74 (by decide) ?_ ?_
      · exact hb_86
      refine wq_iload_ok h0 kd_O_isMadeIn_77 ?_
      refine wq_iconst_ok h0 kd_O_isMadeIn_79 (by decide +kernel) ?_
      refine wq_iload_ok h0 kd_O_isMadeIn_80 ?_
      refine wq_ishl_ok h0 kd_O_isMadeIn_82 ?_
      refine wq_ior_ok h0 kd_O_isMadeIn_83 ?_
      refine wq_istore_ok h0 kd_O_isMadeIn_84 (Nat.le_of_ble_eq_true rfl) ?_
      exact hb_86
    have hb_0 : wq_Snd p l e ({ frames := 6, cells := 0, slots := 0, locals := 144 } : Room) s m args below meth c 7 cs D kz_cl A (wq_G0 ad w) (wq_Q cs D kz_cl A (wq_G0 ad w) rt xt below s 0 0) 0 (kt_O_isMadeIn_0 rt xt K) := by
      refine wq_aload_n_ok h0 kd_O_isMadeIn_0 rfl ?_
      refine wq_get_ok (wq_getOK h0 hts ki_O hown hK (ci := 4) rfl 6 (Nat.le_of_ble_eq_true rfl) kw_172 rfl) kd_O_isMadeIn_1 ?_
      refine wq_iload_n_ok h0 kd_O_isMadeIn_4 rfl ?_
      refine wq_iald_ok h0 hK kd_O_isMadeIn_5 ?_
      refine wq_iconst_ok h0 kd_O_isMadeIn_6 (by decide +kernel) ?_
      refine wq_iload_n_ok h0 kd_O_isMadeIn_7 rfl ?_
      refine wq_ishl_ok h0 kd_O_isMadeIn_8 ?_
      refine wq_ior_ok h0 kd_O_isMadeIn_9 ?_
      refine wq_istore_n_ok h0 kd_O_isMadeIn_10 rfl (Nat.le_of_ble_eq_true rfl) ?_
      refine wq_iconst_ok h0 kd_O_isMadeIn_11 (by decide +kernel) ?_
      refine wq_istore_ok h0 kd_O_isMadeIn_12 (Nat.le_of_ble_eq_true rfl) ?_
      refine wq_iconst_ok h0 kd_O_isMadeIn_14 (by decide +kernel) ?_
      refine wq_istore_ok h0 kd_O_isMadeIn_15 (Nat.le_of_ble_eq_true rfl) ?_
      exact wq_can_ok (hKc 17 (by decide))
    refine ⟨?_, hb_0⟩
    exact List.forall_mem_cons.mpr ⟨hb_17, List.forall_mem_cons.mpr ⟨hb_34, fun _ h => absurd h List.not_mem_nil⟩⟩
  have hun : ∀ (n pc : Nat), pc ∈ [17, 34] → wq_Snd p l e ({ frames := 6, cells := 0, slots := 0, locals := 144 } : Room) s m args below meth c 7 cs D kz_cl A (wq_G0 ad w) (wq_Q cs D kz_cl A (wq_G0 ad w) rt xt below s 0 0) pc (ku_O_isMadeIn rt xt n pc) := by
    intro n
    induction n with
    | zero => intro pc _ L S w9 n1 n2 h; exact h.elim
    | succ n ih => intro pc hpc; exact (hall (ku_O_isMadeIn rt xt n) ih).1 pc hpc
  exact (hall (ku_O_isMadeIn rt xt 1000000000000) (hun 1000000000000)).2 _ _ _ _ _ (wq_sp_t hsp)
