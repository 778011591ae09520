set_option maxRecDepth 100000 in
set_option maxHeartbeats 4000000 in
theorem kv_A_greatestRemainder {l : Launch} (hl : l.stackTraces = false) : wq_Vld l kz_cl ky_A_greatestRemainder kw_T ({ frames := 0, cells := 0, slots := 0, locals := 0 }) wq_G0 ks_A_greatestRemainder 0 0 := by
  refine wq_method (cc := kc_A_greatestRemainder) (maxL := 4) (ret := (some .int)) (by decide) kw_765 (fun _ _ => rfl) wq_sp_sz ?_
  intro p e s m args below meth c cs D ad as w rt xt hF hnt hsp
  obtain ⟨h0, hr, hts, hown, hlk, hnm, hml, hK, hZ, hN, hA⟩ := hF
  have hown : s.vm.findClass "BorderDesk$Assessor" = some m.cls := hown
  obtain ⟨A, hAe⟩ : ∃ A, A = wq_A ad w s.heap.size := ⟨_, rfl⟩
  rw [← hAe] at hZ hA ⊢
  have hall : ∀ K : Nat → wq_T, (∀ pc, pc ∈ [4] → wq_Snd p l e ({ frames := 0, cells := 0, slots := 0, locals := 0 } : Room) s m args below meth c 4 cs D kz_cl A (wq_G0 ad w) (wq_Q cs D kz_cl A (wq_G0 ad w) rt xt below s 0 0) pc (K pc)) → (∀ pc, pc ∈ [4] → wq_Snd p l e ({ frames := 0, cells := 0, slots := 0, locals := 0 } : Room) s m args below meth c 4 cs D kz_cl A (wq_G0 ad w) (wq_Q cs D kz_cl A (wq_G0 ad w) rt xt below s 0 0) pc (cond (Nat.beq pc 4) (kh_A_greatestRemainder_4 rt xt K) (fun _ _ _ _ _ => False))) ∧ wq_Snd p l e ({ frames := 0, cells := 0, slots := 0, locals := 0 } : Room) s m args below meth c 4 cs D kz_cl A (wq_G0 ad w) (wq_Q cs D kz_cl A (wq_G0 ad w) rt xt below s 0 0) 0 (kt_A_greatestRemainder_0 rt xt K) := by
    intro K hKc
    have hb_33 : wq_Snd p l e ({ frames := 0, cells := 0, slots := 0, locals := 0 } : Room) s m args below meth c 4 cs D kz_cl A (wq_G0 ad w) (wq_Q cs D kz_cl A (wq_G0 ad w) rt xt below s 0 0) 33 (kt_A_greatestRemainder_33 rt xt K) := by
      refine wq_iload_n_ok h0 kd_A_greatestRemainder_33 rfl ?_
      exact wq_ireturn_ok h0 hr hlk kd_A_greatestRemainder_34
    have hb_27 : wq_Snd p l e ({ frames := 0, cells := 0, slots := 0, locals := 0 } : Room) s m args below meth c 4 cs D kz_cl A (wq_G0 ad w) (wq_Q cs D kz_cl A (wq_G0 ad w) rt xt below s 0 0) 27 (kt_A_greatestRemainder_27 rt xt K) := by
      refine wq_iinc_ok h0 kd_A_greatestRemainder_27 (by decide +kernel) (Nat.le_of_ble_eq_true rfl) ?_
      refine wq_goto_ok (tgt := 4) h0 kd_A_greatestRemainder_30 (by decide) ?_
      exact wq_can_ok (hKc 4 (by decide))
    have hb_4 : wq_Snd p l e ({ frames := 0, cells := 0, slots := 0, locals := 0 } : Room) s m args below meth c 4 cs D kz_cl A (wq_G0 ad w) (wq_Q cs D kz_cl A (wq_G0 ad w) rt xt below s 0 0) 4 (kh_A_greatestRemainder_4 rt xt K) := by
      refine wq_iload_n_ok h0 kd_A_greatestRemainder_4 rfl ?_
      refine wq_iload_n_ok h0 kd_A_greatestRemainder_5 rfl ?_
      refine wq_icmp_ge_ok (tgt := 33) h0 kd_A_greatestRemainder_6 (by decide) ?_ ?_
      · exact hb_33
      refine wq_aload_n_ok h0 kd_A_greatestRemainder_9 rfl ?_
      refine wq_get_ok (wq_getOK h0 hts ki_A hown hK (ci := 6) rfl 11 (Nat.le_of_ble_eq_true rfl) kw_285 rfl) kd_A_greatestRemainder_10 ?_
      refine wq_iload_n_ok h0 kd_A_greatestRemainder_13 rfl ?_
      refine wq_lald_ok h0 hK kd_A_greatestRemainder_14 ?_
      refine wq_aload_n_ok h0 kd_A_greatestRemainder_15 rfl ?_
      refine wq_get_ok (wq_getOK h0 hts ki_A hown hK (ci := 6) rfl 11 (Nat.le_of_ble_eq_true rfl) kw_285 rfl) kd_A_greatestRemainder_16 ?_
      refine wq_iload_n_ok h0 kd_A_greatestRemainder_19 rfl ?_
      refine wq_lald_ok h0 hK kd_A_greatestRemainder_20 ?_
      refine wq_lcmp_le_ok (tgt := 27) h0 kd_A_greatestRemainder_21 kd_A_greatestRemainder_22 (by decide) ?_ ?_
      · exact hb_27
      refine wq_iload_n_ok h0 kd_A_greatestRemainder_25 rfl ?_
      refine wq_istore_n_ok h0 kd_A_greatestRemainder_26 rfl (Nat.le_of_ble_eq_true rfl) ?_
      exact hb_27
    have hb_0 : wq_Snd p l e ({ frames := 0, cells := 0, slots := 0, locals := 0 } : Room) s m args below meth c 4 cs D kz_cl A (wq_G0 ad w) (wq_Q cs D kz_cl A (wq_G0 ad w) rt xt below s 0 0) 0 (kt_A_greatestRemainder_0 rt xt K) := by
      refine wq_iconst_ok h0 kd_A_greatestRemainder_0 (by decide +kernel) ?_
      refine wq_istore_n_ok h0 kd_A_greatestRemainder_1 rfl (Nat.le_of_ble_eq_true rfl) ?_
      refine wq_iconst_ok h0 kd_A_greatestRemainder_2 (by decide +kernel) ?_
      refine wq_istore_n_ok h0 kd_A_greatestRemainder_3 rfl (Nat.le_of_ble_eq_true rfl) ?_
      exact wq_can_ok (hKc 4 (by decide))
    refine ⟨?_, hb_0⟩
    exact List.forall_mem_cons.mpr ⟨hb_4, fun _ h => absurd h List.not_mem_nil⟩
  have hun : ∀ (n pc : Nat), pc ∈ [4] → wq_Snd p l e ({ frames := 0, cells := 0, slots := 0, locals := 0 } : Room) s m args below meth c 4 cs D kz_cl A (wq_G0 ad w) (wq_Q cs D kz_cl A (wq_G0 ad w) rt xt below s 0 0) pc (ku_A_greatestRemainder rt xt n pc) := by
    intro n
    induction n with
    | zero => intro pc _ L S w9 n1 n2 h; exact h.elim
    | succ n ih => intro pc hpc; exact (hall (ku_A_greatestRemainder rt xt n) ih).1 pc hpc
  exact (hall (ku_A_greatestRemainder rt xt 1000000000000) (hun 1000000000000)).2 _ _ _ _ _ (wq_sp_t hsp)
set_option maxRecDepth 100000 in
set_option maxHeartbeats 4000000 in
theorem kv_A_findWeights {l : Launch} (hl : l.stackTraces = false) : wq_Vld l kz_cl ky_A_findWeights kw_T ({ frames := 1, cells := 0, slots := 0, locals := 21 }) wq_G0 ks_A_findWeights 0 0 := by
  refine wq_method (cc := kc_A_findWeights) (maxL := 7) (ret := (some .long)) (by decide) kw_761 (fun _ _ => rfl) wq_sp_sz ?_
  intro p e s m args below meth c cs D ad as w rt xt hF hnt hsp
  obtain ⟨h0, hr, hts, hown, hlk, hnm, hml, hK, hZ, hN, hA⟩ := hF
  have hown : s.vm.findClass "BorderDesk$Assessor" = some m.cls := hown
  obtain ⟨A, hAe⟩ : ∃ A, A = wq_A ad w s.heap.size := ⟨_, rfl⟩
  rw [← hAe] at hZ hA ⊢
  have hall : ∀ K : Nat → wq_T, (∀ pc, pc ∈ [16, 69] → wq_Snd p l e ({ frames := 1, cells := 0, slots := 0, locals := 21 } : Room) s m args below meth c 7 cs D kz_cl A (wq_G0 ad w) (wq_Q cs D kz_cl A (wq_G0 ad w) rt xt below s 0 0) pc (K pc)) → (∀ pc, pc ∈ [16, 69] → wq_Snd p l e ({ frames := 1, cells := 0, slots := 0, locals := 21 } : Room) s m args below meth c 7 cs D kz_cl A (wq_G0 ad w) (wq_Q cs D kz_cl A (wq_G0 ad w) rt xt below s 0 0) pc (cond (Nat.beq pc 16) (kh_A_findWeights_16 rt xt K) (cond (Nat.beq pc 69) (kh_A_findWeights_69 rt xt K) (fun _ _ _ _ _ => False)))) ∧ wq_Snd p l e ({ frames := 1, cells := 0, slots := 0, locals := 21 } : Room) s m args below meth c 7 cs D kz_cl A (wq_G0 ad w) (wq_Q cs D kz_cl A (wq_G0 ad w) rt xt below s 0 0) 0 (kt_A_findWeights_0 rt xt K) := by
    intro K hKc
    have hb_66 : wq_Snd p l e ({ frames := 1, cells := 0, slots := 0, locals := 21 } : Room) s m args below meth c 7 cs D kz_cl A (wq_G0 ad w) (wq_Q cs D kz_cl A (wq_G0 ad w) rt xt below s 0 0) 66 (kt_A_findWeights_66 rt xt K) := by
      refine wq_iconst_ok h0 kd_A_findWeights_66 (by decide +kernel) ?_
      refine wq_istore_ok h0 kd_A_findWeights_67 (Nat.le_of_ble_eq_true rfl) ?_
      exact wq_can_ok (hKc 69 (by decide))
    have hb_56 : wq_Snd p l e ({ frames := 1, cells := 0, slots := 0, locals := 21 } : Room) s m args below meth c 7 cs D kz_cl A (wq_G0 ad w) (wq_Q cs D kz_cl A (wq_G0 ad w) rt xt below s 0 0) 56 (kt_A_findWeights_56 rt xt K) := by
      refine wq_lload_ok h0 kd_A_findWeights_56 ?_
      refine wq_lconst_ok h0 kd_A_findWeights_58 (by decide +kernel) ?_
      refine wq_lcmp_le_ok (tgt := 66) h0 kd_A_findWeights_59 kd_A_findWeights_60 (by decide) ?_ ?_
      · exact hb_66
      refine wq_lload_ok h0 kd_A_findWeights_63 ?_
      exact wq_lreturn_ok h0 hr hlk kd_A_findWeights_65
    have hb_16 : wq_Snd p l e ({ frames := 1, cells := 0, slots := 0, locals := 21 } : Room) s m args below meth c 7 cs D kz_cl A (wq_G0 ad w) (wq_Q cs D kz_cl A (wq_G0 ad w) rt xt below s 0 0) 16 (kh_A_findWeights_16 rt xt K) := by
      refine wq_iload_ok h0 kd_A_findWeights_16 ?_
      refine wq_iload_n_ok h0 kd_A_findWeights_18 rfl ?_
      refine wq_icmp_ge_ok (tgt := 56) h0 kd_A_findWeights_19 (by decide) ?_ ?_
      · exact hb_56
      refine wq_aload_n_ok h0 kd_A_findWeights_22 rfl ?_
      refine wq_get_ok (wq_getOK h0 hts ki_A hown hK (ci := 6) rfl 10 (Nat.le_of_ble_eq_true rfl) kw_284 rfl) kd_A_findWeights_23 ?_
      refine wq_iload_ok h0 kd_A_findWeights_26 ?_
      refine wq_aload_n_ok h0 kd_A_findWeights_28 rfl ?_
      refine wq_iload_n_ok h0 kd_A_findWeights_29 rfl ?_
      refine wq_iload_ok h0 kd_A_findWeights_30 ?_
      refine wq_call_ok hA (wq_runS ⟨h0.1, h0.2, hml, hown, hts⟩ (kv_D_rowOf hl) ⟨(wq_cB hts kw_G kw_724 kw_6 kw_753 ⟨by decide +kernel, by decide +kernel, by decide +kernel⟩ rfl rfl ⟨Nat.le_of_ble_eq_true rfl, Nat.le_of_ble_eq_true rfl⟩), hts _ kw_723⟩ hK hZ hN hA kd_A_findWeights_32) (wq_xout_ok hnt hlk) ?_
      refine wq_iald_ok h0 hK kd_A_findWeights_35 ?_
      refine wq_i2l_ok h0 kd_A_findWeights_36 ?_
      refine wq_last_ok h0 hK kd_A_findWeights_37 ?_
      refine wq_lload_ok h0 kd_A_findWeights_38 ?_
      refine wq_aload_n_ok h0 kd_A_findWeights_40 rfl ?_
      refine wq_get_ok (wq_getOK h0 hts ki_A hown hK (ci := 6) rfl 10 (Nat.le_of_ble_eq_true rfl) kw_284 rfl) kd_A_findWeights_41 ?_
      refine wq_iload_ok h0 kd_A_findWeights_44 ?_
      refine wq_lald_ok h0 hK kd_A_findWeights_46 ?_
      refine wq_ladd_ok h0 kd_A_findWeights_47 ?_
      refine wq_lstore_ok h0 kd_A_findWeights_48 (Nat.le_of_ble_eq_true rfl) ?_
      refine wq_iinc_ok h0 kd_A_findWeights_50 (by decide +kernel) (Nat.le_of_ble_eq_true rfl) ?_
      refine wq_goto_ok (tgt := 16) h0 kd_A_findWeights_53 (by decide) ?_
      exact wq_can_ok (hKc 16 (by decide))
    have hb_89 : wq_Snd p l e ({ frames := 1, cells := 0, slots := 0, locals := 21 } : Room) s m args below meth c 7 cs D kz_cl A (wq_G0 ad w) (wq_Q cs D kz_cl A (wq_G0 ad w) rt xt below s 0 0) 89 (kt_A_findWeights_89 rt xt K) := by
      refine wq_iload_n_ok h0 kd_A_findWeights_89 rfl ?_
      refine wq_i2l_ok h0 kd_A_findWeights_90 ?_
      exact wq_lreturn_ok h0 hr hlk kd_A_findWeights_91
    have hb_69 : wq_Snd p l e ({ frames := 1, cells := 0, slots := 0, locals := 21 } : Room) s m args below meth c 7 cs D kz_cl A (wq_G0 ad w) (wq_Q cs D kz_cl A (wq_G0 ad w) rt xt below s 0 0) 69 (kh_A_findWeights_69 rt xt K) := by
      refine wq_iload_ok h0 kd_A_findWeights_69 ?_
      refine wq_iload_n_ok h0 kd_A_findWeights_71 rfl ?_
      refine wq_icmp_ge_ok (tgt := 89) h0 kd_A_findWeights_72 (by decide) ?_ ?_
      · exact hb_89
      refine wq_aload_n_ok h0 kd_A_findWeights_75 rfl ?_
      refine wq_get_ok (wq_getOK h0 hts ki_A hown hK (ci := 6) rfl 10 (Nat.le_of_ble_eq_true rfl) kw_284 rfl) kd_A_findWeights_76 ?_
      refine wq_iload_ok h0 kd_A_findWeights_79 ?_
      refine wq_lconst_ok h0 kd_A_findWeights_81 (by decide +kernel) ?_
      refine wq_last_ok h0 hK kd_A_findWeights_82 ?_
      refine wq_iinc_ok h0 kd_A_findWeights_83 (by decide +kernel) (Nat.le_of_ble_eq_true rfl) ?_
      refine wq_goto_ok (tgt := 69) h0 kd_A_findWeights_86 (by decide) ?_
      exact wq_can_ok (hKc 69 (by decide))
    have hb_0 : wq_Snd p l e ({ frames := 1, cells := 0, slots := 0, locals := 21 } : Room) s m args below meth c 7 cs D kz_cl A (wq_G0 ad w) (wq_Q cs D kz_cl A (wq_G0 ad w) rt xt below s 0 0) 0 (kt_A_findWeights_0 rt xt K) := by
      refine wq_aload_n_ok h0 kd_A_findWeights_0 rfl ?_
      refine wq_get_ok (wq_getOK h0 hts ki_A hown hK (ci := 6) rfl 3 (Nat.le_of_ble_eq_true rfl) kw_275 rfl) kd_A_findWeights_1 ?_
      refine wq_get_ok (wq_getOK h0 hts ki_D hown hK (ci := 5) rfl 3 (Nat.le_of_ble_eq_true rfl) kw_201 rfl) kd_A_findWeights_4 ?_
      refine wq_iload_n_ok h0 kd_A_findWeights_7 rfl ?_
      refine wq_iald_ok h0 hK kd_A_findWeights_8 ?_
      refine wq_istore_n_ok h0 kd_A_findWeights_9 rfl (Nat.le_of_ble_eq_true rfl) ?_
      refine wq_lconst_ok h0 kd_A_findWeights_10 (by decide +kernel) ?_
      refine wq_lstore_ok h0 kd_A_findWeights_11 (Nat.le_of_ble_eq_true rfl) ?_
      refine wq_iconst_ok h0 kd_A_findWeights_13 (by decide +kernel) ?_
      refine wq_istore_ok h0 kd_A_findWeights_14 (Nat.le_of_ble_eq_true rfl) ?_
      exact wq_can_ok (hKc 16 (by decide))
    refine ⟨?_, hb_0⟩
    exact List.forall_mem_cons.mpr ⟨hb_16, List.forall_mem_cons.mpr ⟨hb_69, fun _ h => absurd h List.not_mem_nil⟩⟩
  have hun : ∀ (n pc : Nat), pc ∈ [16, 69] → wq_Snd p l e ({ frames := 1, cells := 0, slots := 0, locals := 21 } : Room) s m args below meth c 7 cs D kz_cl A (wq_G0 ad w) (wq_Q cs D kz_cl A (wq_G0 ad w) rt xt below s 0 0) pc (ku_A_findWeights rt xt n pc) := by
    intro n
    induction n with
    | zero => intro pc _ L S w9 n1 n2 h; exact h.elim
    | succ n ih => intro pc hpc; exact (hall (ku_A_findWeights rt xt n) ih).1 pc hpc
  exact (hall (ku_A_findWeights rt xt 1000000000000) (hun 1000000000000)).2 _ _ _ _ _ (wq_sp_t hsp)
set_option maxRecDepth 100000 in
set_option maxHeartbeats 4000000 in
theorem kv_A_spread {l : Launch} (hl : l.stackTraces = false) : wq_Vld l kz_cl ky_A_spread kw_T ({ frames := 2, cells := 0, slots := 0, locals := 47 }) wq_G0 ks_A_spread 0 0 := by
  refine wq_method (cc := kc_A_spread) (maxL := 14) (ret := none) (by decide) kw_757 (fun _ _ => rfl) wq_sp_sz ?_
  intro p e s m args below meth c cs D ad as w rt xt hF hnt hsp
  obtain ⟨h0, hr, hts, hown, hlk, hnm, hml, hK, hZ, hN, hA⟩ := hF
  have hown : s.vm.findClass "BorderDesk$Assessor" = some m.cls := hown
  obtain ⟨A, hAe⟩ : ∃ A, A = wq_A ad w s.heap.size := ⟨_, rfl⟩
  rw [← hAe] at hZ hA ⊢
  have hall : ∀ K : Nat → wq_T, (∀ pc, pc ∈ [40, 112] → wq_Snd p l e ({ frames := 2, cells := 0, slots := 0, locals := 47 } : Room) s m args below meth c 14 cs D kz_cl A (wq_G0 ad w) (wq_Q cs D kz_cl A (wq_G0 ad w) rt xt below s 0 0) pc (K pc)) → (∀ pc, pc ∈ [40, 112] → wq_Snd p l e ({ frames := 2, cells := 0, slots := 0, locals := 47 } : Room) s m args below meth c 14 cs D kz_cl A (wq_G0 ad w) (wq_Q cs D kz_cl A (wq_G0 ad w) rt xt below s 0 0) pc (cond (Nat.beq pc 40) (kh_A_spread_40 rt xt K) (cond (Nat.beq pc 112) (kh_A_spread_112 rt xt K) (fun _ _ _ _ _ => False)))) ∧ wq_Snd p l e ({ frames := 2, cells := 0, slots := 0, locals := 47 } : Room) s m args below meth c 14 cs D kz_cl A (wq_G0 ad w) (wq_Q cs D kz_cl A (wq_G0 ad w) rt xt below s 0 0) 0 (kt_A_spread_0 rt xt K) := by
    intro K hKc
    have hb_109 : wq_Snd p l e ({ frames := 2, cells := 0, slots := 0, locals := 47 } : Room) s m args below meth c 14 cs D kz_cl A (wq_G0 ad w) (wq_Q cs D kz_cl A (wq_G0 ad w) rt xt below s 0 0) 109 (kt_A_spread_109 rt xt K) := by
      refine wq_iconst_ok h0 kd_A_spread_109 (by decide +kernel) ?_
      refine wq_istore_ok h0 kd_A_spread_110 (Nat.le_of_ble_eq_true rfl) ?_
      exact wq_can_ok (hKc 112 (by decide))
    have hb_40 : wq_Snd p l e ({ frames := 2, cells := 0, slots := 0, locals := 47 } : Room) s m args below meth c 14 cs D kz_cl A (wq_G0 ad w) (wq_Q cs D kz_cl A (wq_G0 ad w) rt xt below s 0 0) 40 (kh_A_spread_40 rt xt K) := by
      refine wq_iload_ok h0 kd_A_spread_40 ?_
      refine wq_iload_ok h0 kd_A_spread_42 ?_
      refine wq_icmp_ge_ok (tgt := 109) h0 kd_A_spread_44 (by decide) ?_ ?_
      · exact hb_109
      refine wq_lload_ok h0 kd_A_spread_47 ?_
      refine wq_lconst_ok h0 kd_A_spread_49 (by decide +kernel) ?_
      refine wq_lcmp_le_ok (tgt := 109) h0 kd_A_spread_50 kd_A_spread_51 (by decide) ?_ ?_
      · exact hb_109
      refine wq_lload_ok h0 kd_A_spread_54 ?_
      refine wq_aload_n_ok h0 kd_A_spread_56 rfl ?_
      refine wq_get_ok (wq_getOK h0 hts ki_A hown hK (ci := 6) rfl 10 (Nat.le_of_ble_eq_true rfl) kw_284 rfl) kd_A_spread_57 ?_
      refine wq_iload_ok h0 kd_A_spread_60 ?_
      refine wq_lald_ok h0 hK kd_A_spread_62 ?_
      refine wq_lmul_ok h0 kd_A_spread_63 ?_
      refine wq_lstore_ok h0 kd_A_spread_64 (Nat.le_of_ble_eq_true rfl) ?_
      refine wq_aload_n_ok h0 kd_A_spread_66 rfl ?_
      refine wq_get_ok (wq_getOK h0 hts ki_A hown hK (ci := 6) rfl 6 (Nat.le_of_ble_eq_true rfl) kw_280 rfl) kd_A_spread_67 ?_
      refine wq_iload_ok h0 kd_A_spread_70 ?_
      refine wq_dup2_ok h0 kd_A_spread_72 ?_
      refine wq_lald_ok h0 hK kd_A_spread_73 ?_
      refine wq_lload_ok h0 kd_A_spread_74 ?_
      refine wq_lload_ok h0 kd_A_spread_76 ?_
      refine wq_ldiv_ok h0 kd_A_spread_78 ?_
      refine wq_ladd_ok h0 kd_A_spread_79 ?_
      refine wq_last_ok h0 hK kd_A_spread_80 ?_
      refine wq_lload_ok h0 kd_A_spread_81 ?_
      refine wq_lload_ok h0 kd_A_spread_83 ?_
      refine wq_lload_ok h0 kd_A_spread_85 ?_
      refine wq_ldiv_ok h0 kd_A_spread_87 ?_
      refine wq_lsub_ok h0 kd_A_spread_88 ?_
      refine wq_lstore_ok h0 kd_A_spread_89 (Nat.le_of_ble_eq_true rfl) ?_
      refine wq_aload_n_ok h0 kd_A_spread_91 rfl ?_
      refine wq_get_ok (wq_getOK h0 hts ki_A hown hK (ci := 6) rfl 11 (Nat.le_of_ble_eq_true rfl) kw_285 rfl) kd_A_spread_92 ?_
      refine wq_iload_ok h0 kd_A_spread_95 ?_
      refine wq_lload_ok h0 kd_A_spread_97 ?_
      refine wq_lload_ok h0 kd_A_spread_99 ?_
      refine wq_lrem_ok h0 kd_A_spread_101 ?_
      refine wq_last_ok h0 hK kd_A_spread_102 ?_
      refine wq_iinc_ok h0 kd_A_spread_103 (by decide +kernel) (Nat.le_of_ble_eq_true rfl) ?_
      refine wq_goto_ok (tgt := 40) h0 kd_A_spread_106 (by decide) ?_
      exact wq_can_ok (hKc 40 (by decide))
    have hb_163 : wq_Snd p l e ({ frames := 2, cells := 0, slots := 0, locals := 47 } : Room) s m args below meth c 14 cs D kz_cl A (wq_G0 ad w) (wq_Q cs D kz_cl A (wq_G0 ad w) rt xt below s 0 0) 163 (kt_A_spread_163 rt xt K) := by
      exact wq_vreturn_ok h0 hr hlk kd_A_spread_163
    have hb_112 : wq_Snd p l e ({ frames := 2, cells := 0, slots := 0, locals := 47 } : Room) s m args below meth c 14 cs D kz_cl A (wq_G0 ad w) (wq_Q cs D kz_cl A (wq_G0 ad w) rt xt below s 0 0) 112 (kh_A_spread_112 rt xt K) := by
      refine wq_iload_ok h0 kd_A_spread_112 ?_
      refine wq_iload_ok h0 kd_A_spread_114 ?_
      refine wq_icmp_ge_ok (tgt := 163) h0 kd_A_spread_116 (by decide) ?_ ?_
      · exact hb_163
      refine wq_iload_ok h0 kd_A_spread_119 ?_
      refine wq_i2l_ok h0 kd_A_spread_121 ?_
      refine wq_lload_ok h0 kd_A_spread_122 ?_
      refine wq_lcmp_ge_ok (tgt := 163) h0 kd_A_spread_124 kd_A_spread_125 (by decide) ?_ ?_
      · exact hb_163
      refine wq_aload_n_ok h0 kd_A_spread_128 rfl ?_
      refine wq_iload_ok h0 kd_A_spread_129 ?_
      refine wq_call_ok hA (wq_runV (ci := 6) ⟨h0.1, h0.2, hml, hown, hts⟩ (kv_A_greatestRemainder hl) ⟨(wq_cB hts kw_G kw_765 kw_7 kw_762 ⟨by decide +kernel, by decide +kernel, by decide +kernel⟩ rfl rfl ⟨Nat.le_of_ble_eq_true rfl, Nat.le_of_ble_eq_true rfl⟩), hts _ kw_764, hts _ kw_s17⟩ rfl rfl hK hZ hN hA kd_A_spread_131) (wq_xout_ok hnt hlk) ?_
      refine wq_istore_ok h0 kd_A_spread_134 (Nat.le_of_ble_eq_true rfl) ?_
      refine wq_aload_n_ok h0 kd_A_spread_136 rfl ?_
      refine wq_get_ok (wq_getOK h0 hts ki_A hown hK (ci := 6) rfl 6 (Nat.le_of_ble_eq_true rfl) kw_280 rfl) kd_A_spread_137 ?_
      refine wq_iload_ok h0 kd_A_spread_140 ?_
      refine wq_dup2_ok h0 kd_A_spread_142 ?_
      refine wq_lald_ok h0 hK kd_A_spread_143 ?_
      refine wq_lconst_ok h0 kd_A_spread_144 (by decide +kernel) ?_
      refine wq_ladd_ok h0 kd_A_spread_145 ?_
      refine wq_last_ok h0 hK kd_A_spread_146 ?_
      refine wq_aload_n_ok h0 kd_A_spread_147 rfl ?_
      refine wq_get_ok (wq_getOK h0 hts ki_A hown hK (ci := 6) rfl 11 (Nat.le_of_ble_eq_true rfl) kw_285 rfl) kd_A_spread_148 ?_
      refine wq_iload_ok h0 kd_A_spread_151 ?_
      refine wq_ldc2_ok (v := -1) h0 hown (hts _ kw_766) kd_A_spread_153 ?_
      refine wq_last_ok h0 hK kd_A_spread_156 ?_
      refine wq_iinc_ok h0 kd_A_spread_157 (by decide +kernel) (Nat.le_of_ble_eq_true rfl) ?_
      refine wq_goto_ok (tgt := 112) h0 kd_A_spread_160 (by decide) ?_
      exact wq_can_ok (hKc 112 (by decide))
    have hb_0 : wq_Snd p l e ({ frames := 2, cells := 0, slots := 0, locals := 47 } : Room) s m args below meth c 14 cs D kz_cl A (wq_G0 ad w) (wq_Q cs D kz_cl A (wq_G0 ad w) rt xt below s 0 0) 0 (kt_A_spread_0 rt xt K) := by
      refine wq_aload_n_ok h0 kd_A_spread_0 rfl ?_
      refine wq_get_ok (wq_getOK h0 hts ki_A hown hK (ci := 6) rfl 3 (Nat.le_of_ble_eq_true rfl) kw_275 rfl) kd_A_spread_1 ?_
      refine wq_get_ok (wq_getOK h0 hts ki_D hown hK (ci := 5) rfl 3 (Nat.le_of_ble_eq_true rfl) kw_201 rfl) kd_A_spread_4 ?_
      refine wq_iload_n_ok h0 kd_A_spread_7 rfl ?_
      refine wq_iald_ok h0 hK kd_A_spread_8 ?_
      refine wq_istore_ok h0 kd_A_spread_9 (Nat.le_of_ble_eq_true rfl) ?_
      refine wq_aload_n_ok h0 kd_A_spread_11 rfl ?_
      refine wq_get_ok (wq_getOK h0 hts ki_A hown hK (ci := 6) rfl 3 (Nat.le_of_ble_eq_true rfl) kw_275 rfl) kd_A_spread_12 ?_
      refine wq_get_ok (wq_getOK h0 hts ki_D hown hK (ci := 5) rfl 4 (Nat.le_of_ble_eq_true rfl) kw_204 rfl) kd_A_spread_15 ?_
      refine wq_iload_n_ok h0 kd_A_spread_18 rfl ?_
      refine wq_aald_ok h0 hK kd_A_spread_19 ?_
      refine wq_iload_n_ok h0 kd_A_spread_20 rfl ?_
      refine wq_iald_ok h0 hK kd_A_spread_21 ?_
      refine wq_i2l_ok h0 kd_A_spread_22 ?_
      refine wq_lstore_ok h0 kd_A_spread_23 (Nat.le_of_ble_eq_true rfl) ?_
      refine wq_aload_n_ok h0 kd_A_spread_25 rfl ?_
      refine wq_iload_n_ok h0 kd_A_spread_26 rfl ?_
      refine wq_aload_n_ok h0 kd_A_spread_27 rfl ?_
      refine wq_call_ok hA (wq_runV (ci := 6) ⟨h0.1, h0.2, hml, hown, hts⟩ (kv_A_findWeights hl) ⟨(wq_cB hts kw_G kw_761 kw_7 kw_758 ⟨by decide +kernel, by decide +kernel, by decide +kernel⟩ rfl rfl ⟨Nat.le_of_ble_eq_true rfl, Nat.le_of_ble_eq_true rfl⟩), hts _ kw_760, hts _ kw_s16⟩ rfl rfl hK hZ hN hA kd_A_spread_28) (wq_xout_ok hnt hlk) ?_
      refine wq_lstore_ok h0 kd_A_spread_31 (Nat.le_of_ble_eq_true rfl) ?_
      refine wq_lload_ok h0 kd_A_spread_33 ?_
      refine wq_lstore_ok h0 kd_A_spread_35 (Nat.le_of_ble_eq_true rfl) ?_
      refine wq_iconst_ok h0 kd_A_spread_37 (by decide +kernel) ?_
      refine wq_istore_ok h0 kd_A_spread_38 (Nat.le_of_ble_eq_true rfl) ?_
      exact wq_can_ok (hKc 40 (by decide))
    refine ⟨?_, hb_0⟩
    exact List.forall_mem_cons.mpr ⟨hb_40, List.forall_mem_cons.mpr ⟨hb_112, fun _ h => absurd h List.not_mem_nil⟩⟩
  have hun : ∀ (n pc : Nat), pc ∈ [40, 112] → wq_Snd p l e ({ frames := 2, cells := 0, slots := 0, locals := 47 } : Room) s m args below meth c 14 cs D kz_cl A (wq_G0 ad w) (wq_Q cs D kz_cl A (wq_G0 ad w) rt xt below s 0 0) pc (ku_A_spread rt xt n pc) := by
    intro n
    induction n with
    | zero => intro pc _ L S w9 n1 n2 h; exact h.elim
    | succ n ih => intro pc hpc; exact (hall (ku_A_spread rt xt n) ih).1 pc hpc
  exact (hall (ku_A_spread rt xt 1000000000000) (hun 1000000000000)).2 _ _ _ _ _ (wq_sp_t hsp)
set_option maxRecDepth 100000 in
set_option maxHeartbeats 4000000 in
theorem kv_A_findValues {l : Launch} (hl : l.stackTraces = false) : wq_Vld l kz_cl ky_A_findValues kw_T ({ frames := 3, cells := 0, slots := 0, locals := 80 }) wq_G0 ks_A_findValues 0 0 := by
  refine wq_method (cc := kc_A_findValues) (maxL := 3) (ret := none) (by decide) kw_752 (fun _ _ => rfl) wq_sp_sz ?_
  intro p e s m args below meth c cs D ad as w rt xt hF hnt hsp
  obtain ⟨h0, hr, hts, hown, hlk, hnm, hml, hK, hZ, hN, hA⟩ := hF
  have hown : s.vm.findClass "BorderDesk$Assessor" = some m.cls := hown
  obtain ⟨A, hAe⟩ : ∃ A, A = wq_A ad w s.heap.size := ⟨_, rfl⟩
  rw [← hAe] at hZ hA ⊢
  have hall : ∀ K : Nat → wq_T, (∀ pc, pc ∈ [2] → wq_Snd p l e ({ frames := 3, cells := 0, slots := 0, locals := 80 } : Room) s m args below meth c 3 cs D kz_cl A (wq_G0 ad w) (wq_Q cs D kz_cl A (wq_G0 ad w) rt xt below s 0 0) pc (K pc)) → (∀ pc, pc ∈ [2] → wq_Snd p l e ({ frames := 3, cells := 0, slots := 0, locals := 80 } : Room) s m args below meth c 3 cs D kz_cl A (wq_G0 ad w) (wq_Q cs D kz_cl A (wq_G0 ad w) rt xt below s 0 0) pc (cond (Nat.beq pc 2) (kh_A_findValues_2 rt xt K) (fun _ _ _ _ _ => False))) ∧ wq_Snd p l e ({ frames := 3, cells := 0, slots := 0, locals := 80 } : Room) s m args below meth c 3 cs D kz_cl A (wq_G0 ad w) (wq_Q cs D kz_cl A (wq_G0 ad w) rt xt below s 0 0) 0 (kt_A_findValues_0 rt xt K) := by
    intro K hKc
    have hb_41 : wq_Snd p l e ({ frames := 3, cells := 0, slots := 0, locals := 80 } : Room) s m args below meth c 3 cs D kz_cl A (wq_G0 ad w) (wq_Q cs D kz_cl A (wq_G0 ad w) rt xt below s 0 0) 41 (kt_A_findValues_41 rt xt K) := by
      refine wq_aload_n_ok h0 kd_A_findValues_41 rfl ?_
      refine wq_iload_n_ok h0 kd_A_findValues_42 rfl ?_
      refine wq_iconst_ok h0 kd_A_findValues_43 (by decide +kernel) ?_
      refine wq_aload_n_ok h0 kd_A_findValues_44 rfl ?_
      refine wq_get_ok (wq_getOK h0 hts ki_A hown hK (ci := 6) rfl 3 (Nat.le_of_ble_eq_true rfl) kw_275 rfl) kd_A_findValues_45 ?_
      refine wq_get_ok (wq_getOK h0 hts ki_D hown hK (ci := 5) rfl 10 (Nat.le_of_ble_eq_true rfl) kw_219 rfl) kd_A_findValues_48 ?_
      refine wq_call_ok hA (wq_runV (ci := 6) ⟨h0.1, h0.2, hml, hown, hts⟩ (kv_A_spread hl) ⟨(wq_cB hts kw_G kw_757 kw_7 kw_754 ⟨by decide +kernel, by decide +kernel, by decide +kernel⟩ rfl rfl ⟨Nat.le_of_ble_eq_true rfl, Nat.le_of_ble_eq_true rfl⟩), hts _ kw_756, hts _ kw_s15⟩ rfl rfl hK hZ hN hA kd_A_findValues_51) (wq_xout_ok hnt hlk) ?_
      refine wq_aload_n_ok h0 kd_A_findValues_54 rfl ?_
      refine wq_iload_n_ok h0 kd_A_findValues_55 rfl ?_
      refine wq_iconst_ok h0 kd_A_findValues_56 (by decide +kernel) ?_
      refine wq_aload_n_ok h0 kd_A_findValues_57 rfl ?_
      refine wq_get_ok (wq_getOK h0 hts ki_A hown hK (ci := 6) rfl 3 (Nat.le_of_ble_eq_true rfl) kw_275 rfl) kd_A_findValues_58 ?_
      refine wq_get_ok (wq_getOK h0 hts ki_D hown hK (ci := 5) rfl 11 (Nat.le_of_ble_eq_true rfl) kw_221 rfl) kd_A_findValues_61 ?_
      refine wq_call_ok hA (wq_runV (ci := 6) ⟨h0.1, h0.2, hml, hown, hts⟩ (kv_A_spread hl) ⟨(wq_cB hts kw_G kw_757 kw_7 kw_754 ⟨by decide +kernel, by decide +kernel, by decide +kernel⟩ rfl rfl ⟨Nat.le_of_ble_eq_true rfl, Nat.le_of_ble_eq_true rfl⟩), hts _ kw_756, hts _ kw_s15⟩ rfl rfl hK hZ hN hA kd_A_findValues_64) (wq_xout_ok hnt hlk) ?_
      exact wq_vreturn_ok h0 hr hlk kd_A_findValues_67
    have hb_2 : wq_Snd p l e ({ frames := 3, cells := 0, slots := 0, locals := 80 } : Room) s m args below meth c 3 cs D kz_cl A (wq_G0 ad w) (wq_Q cs D kz_cl A (wq_G0 ad w) rt xt below s 0 0) 2 (kh_A_findValues_2 rt xt K) := by
      refine wq_iload_n_ok h0 kd_A_findValues_2 rfl ?_
      refine wq_aload_n_ok h0 kd_A_findValues_3 rfl ?_
      refine wq_get_ok (wq_getOK h0 hts ki_A hown hK (ci := 6) rfl 3 (Nat.le_of_ble_eq_true rfl) kw_275 rfl) kd_A_findValues_4 ?_
      refine wq_get_ok (wq_getOK h0 hts ki_D hown hK (ci := 5) rfl 3 (Nat.le_of_ble_eq_true rfl) kw_201 rfl) kd_A_findValues_7 ?_
      refine wq_iload_n_ok h0 kd_A_findValues_10 rfl ?_
      refine wq_iald_ok h0 hK kd_A_findValues_11 ?_
      refine wq_icmp_ge_ok (tgt := 41) h0 kd_A_findValues_12 (by decide) ?_ ?_
      · exact hb_41
      refine wq_aload_n_ok h0 kd_A_findValues_15 rfl ?_
      refine wq_get_ok (wq_getOK h0 hts ki_A hown hK (ci := 6) rfl 6 (Nat.le_of_ble_eq_true rfl) kw_280 rfl) kd_A_findValues_16 ?_
      refine wq_iload_n_ok h0 kd_A_findValues_19 rfl ?_
      refine wq_aload_n_ok h0 kd_A_findValues_20 rfl ?_
      refine wq_get_ok (wq_getOK h0 hts ki_A hown hK (ci := 6) rfl 3 (Nat.le_of_ble_eq_true rfl) kw_275 rfl) kd_A_findValues_21 ?_
      refine wq_get_ok (wq_getOK h0 hts ki_D hown hK (ci := 5) rfl 11 (Nat.le_of_ble_eq_true rfl) kw_221 rfl) kd_A_findValues_24 ?_
      refine wq_iload_n_ok h0 kd_A_findValues_27 rfl ?_
      refine wq_iload_n_ok h0 kd_A_findValues_28 rfl ?_
      refine wq_call_ok hA (wq_runS ⟨h0.1, h0.2, hml, hown, hts⟩ (kv_D_rowOf hl) ⟨(wq_cB hts kw_G kw_724 kw_6 kw_753 ⟨by decide +kernel, by decide +kernel, by decide +kernel⟩ rfl rfl ⟨Nat.le_of_ble_eq_true rfl, Nat.le_of_ble_eq_true rfl⟩), hts _ kw_723⟩ hK hZ hN hA kd_A_findValues_29) (wq_xout_ok hnt hlk) ?_
      refine wq_iald_ok h0 hK kd_A_findValues_32 ?_
      refine wq_i2l_ok h0 kd_A_findValues_33 ?_
      refine wq_last_ok h0 hK kd_A_findValues_34 ?_
      refine wq_iinc_ok h0 kd_A_findValues_35 (by decide +kernel) (Nat.le_of_ble_eq_true rfl) ?_
      refine wq_goto_ok (tgt := 2) h0 kd_A_findValues_38 (by decide) ?_
      exact wq_can_ok (hKc 2 (by decide))
    have hb_0 : wq_Snd p l e ({ frames := 3, cells := 0, slots := 0, locals := 80 } : Room) s m args below meth c 3 cs D kz_cl A (wq_G0 ad w) (wq_Q cs D kz_cl A (wq_G0 ad w) rt xt below s 0 0) 0 (kt_A_findValues_0 rt xt K) := by
      refine wq_iconst_ok h0 kd_A_findValues_0 (by decide +kernel) ?_
      refine wq_istore_n_ok h0 kd_A_findValues_1 rfl (Nat.le_of_ble_eq_true rfl) ?_
      exact wq_can_ok (hKc 2 (by decide))
    refine ⟨?_, hb_0⟩
    exact List.forall_mem_cons.mpr ⟨hb_2, fun _ h => absurd h List.not_mem_nil⟩
  have hun : ∀ (n pc : Nat), pc ∈ [2] → wq_Snd p l e ({ frames := 3, cells := 0, slots := 0, locals := 80 } : Room) s m args below meth c 3 cs D kz_cl A (wq_G0 ad w) (wq_Q cs D kz_cl A (wq_G0 ad w) rt xt below s 0 0) pc (ku_A_findValues rt xt n pc) := by
    intro n
    induction n with
    | zero => intro pc _ L S w9 n1 n2 h; exact h.elim
    | succ n ih => intro pc hpc; exact (hall (ku_A_findValues rt xt n) ih).1 pc hpc
  exact (hall (ku_A_findValues rt xt 1000000000000) (hun 1000000000000)).2 _ _ _ _ _ (wq_sp_t hsp)
set_option maxRecDepth 100000 in
set_option maxHeartbeats 4000000 in
theorem kv_A_valueOf {l : Launch} (hl : l.stackTraces = false) : wq_Vld l kz_cl ky_A_valueOf kw_T ({ frames := 4, cells := 0, slots := 0, locals := 102 }) wq_G0 ks_A_valueOf 0 0 := by
  refine wq_method (cc := kc_A_valueOf) (maxL := 3) (ret := (some .long)) (by decide) kw_748 (fun _ _ => rfl) wq_sp_sz ?_
  intro p e s m args below meth c cs D ad as w rt xt hF hnt hsp
  obtain ⟨h0, hr, hts, hown, hlk, hnm, hml, hK, hZ, hN, hA⟩ := hF
  have hown : s.vm.findClass "BorderDesk$Assessor" = some m.cls := hown
  obtain ⟨A, hAe⟩ : ∃ A, A = wq_A ad w s.heap.size := ⟨_, rfl⟩
  rw [← hAe] at hZ hA ⊢
  have hb_0 : wq_Snd p l e ({ frames := 4, cells := 0, slots := 0, locals := 102 } : Room) s m args below meth c 3 cs D kz_cl A (wq_G0 ad w) (wq_Q cs D kz_cl A (wq_G0 ad w) rt xt below s 0 0) 0 (kt_A_valueOf_0 rt xt) := by
    refine wq_aload_n_ok h0 kd_A_valueOf_0 rfl ?_
    refine wq_iload_n_ok h0 kd_A_valueOf_1 rfl ?_
    refine wq_call_ok hA (wq_runV (ci := 6) ⟨h0.1, h0.2, hml, hown, hts⟩ (kv_A_findValues hl) ⟨(wq_cB hts kw_G kw_752 kw_7 kw_749 ⟨by decide +kernel, by decide +kernel, by decide +kernel⟩ rfl rfl ⟨Nat.le_of_ble_eq_true rfl, Nat.le_of_ble_eq_true rfl⟩), hts _ kw_751, hts _ kw_s14⟩ rfl rfl hK hZ hN hA kd_A_valueOf_2) (wq_xout_ok hnt hlk) ?_
    refine wq_aload_n_ok h0 kd_A_valueOf_5 rfl ?_
    refine wq_get_ok (wq_getOK h0 hts ki_A hown hK (ci := 6) rfl 6 (Nat.le_of_ble_eq_true rfl) kw_280 rfl) kd_A_valueOf_6 ?_
    refine wq_iload_n_ok h0 kd_A_valueOf_9 rfl ?_
    refine wq_lald_ok h0 hK kd_A_valueOf_10 ?_
    exact wq_lreturn_ok h0 hr hlk kd_A_valueOf_11
  exact hb_0 _ _ _ _ _ (wq_sp_t hsp)
set_option maxRecDepth 100000 in
set_option maxHeartbeats 4000000 in
theorem kv_A_roundHalvesUp {l : Launch} (hl : l.stackTraces = false) : wq_Vld l kz_cl ky_A_roundHalvesUp kw_T ({ frames := 0, cells := 0, slots := 0, locals := 0 }) wq_G0 ks_A_roundHalvesUp 0 0 := by
  refine wq_method (cc := kc_A_roundHalvesUp) (maxL := 4) (ret := (some .long)) (by decide) kw_838 (fun _ _ => rfl) wq_sp_sz ?_
  intro p e s m args below meth c cs D ad as w rt xt hF hnt hsp
  obtain ⟨h0, hr, hts, hown, hlk, hnm, hml, hK, hZ, hN, hA⟩ := hF
  have hown : s.vm.findClass "BorderDesk$Assessor" = some m.cls := hown
  obtain ⟨A, hAe⟩ : ∃ A, A = wq_A ad w s.heap.size := ⟨_, rfl⟩
  rw [← hAe] at hZ hA ⊢
  have hb_23 : wq_Snd p l e ({ frames := 0, cells := 0, slots := 0, locals := 0 } : Room) s m args below meth c 4 cs D kz_cl A (wq_G0 ad w) (wq_Q cs D kz_cl A (wq_G0 ad w) rt xt below s 0 0) 23 (kt_A_roundHalvesUp_23 rt xt) := by
    exact wq_lreturn_ok h0 hr hlk kd_A_roundHalvesUp_23
  have hb_10 : wq_Snd p l e ({ frames := 0, cells := 0, slots := 0, locals := 0 } : Room) s m args below meth c 4 cs D kz_cl A (wq_G0 ad w) (wq_Q cs D kz_cl A (wq_G0 ad w) rt xt below s 0 0) 10 (kt_A_roundHalvesUp_10 rt xt) := by
    refine wq_ldc2_ok (v := 2) h0 hown (hts _ kw_839) kd_A_roundHalvesUp_10 ?_
    refine wq_lload_n_ok h0 kd_A_roundHalvesUp_13 rfl ?_
    refine wq_lmul_ok h0 kd_A_roundHalvesUp_14 ?_
    refine wq_lload_n_ok h0 kd_A_roundHalvesUp_15 rfl ?_
    refine wq_ladd_ok h0 kd_A_roundHalvesUp_16 ?_
    refine wq_ldc2_ok (v := 2) h0 hown (hts _ kw_839) kd_A_roundHalvesUp_17 ?_
    refine wq_lload_n_ok h0 kd_A_roundHalvesUp_20 rfl ?_
    refine wq_lmul_ok h0 kd_A_roundHalvesUp_21 ?_
    refine wq_ldiv_ok h0 kd_A_roundHalvesUp_22 ?_
    exact hb_23
  have hb_0 : wq_Snd p l e ({ frames := 0, cells := 0, slots := 0, locals := 0 } : Room) s m args below meth c 4 cs D kz_cl A (wq_G0 ad w) (wq_Q cs D kz_cl A (wq_G0 ad w) rt xt below s 0 0) 0 (kt_A_roundHalvesUp_0 rt xt) := by
    refine wq_lload_n_ok h0 kd_A_roundHalvesUp_0 rfl ?_
    refine wq_lconst_ok h0 kd_A_roundHalvesUp_1 (by decide +kernel) ?_
    refine wq_lcmp_gt_ok (tgt := 10) h0 kd_A_roundHalvesUp_2 kd_A_roundHalvesUp_3 (by decide) ?_ ?_
    · exact hb_10
    refine wq_lconst_ok h0 kd_A_roundHalvesUp_6 (by decide +kernel) ?_
    refine wq_goto_ok (tgt := 23) h0 kd_A_roundHalvesUp_7 (by decide) ?_
    exact hb_23
  exact hb_0 _ _ _ _ _ (wq_sp_t hsp)
set_option maxRecDepth 100000 in
set_option maxHeartbeats 4000000 in
theorem kv_A_dutyOf {l : Launch} (hl : l.stackTraces = false) : wq_Vld l kz_cl ky_A_dutyOf kw_T ({ frames := 2, cells := 0, slots := 0, locals := 52 }) wq_G0 ks_A_dutyOf 0 0 := by
  refine wq_method (cc := kc_A_dutyOf) (maxL := 12) (ret := (some .long)) (by decide) kw_826 (fun _ _ => rfl) wq_sp_sz ?_
  intro p e s m args below meth c cs D ad as w rt xt hF hnt hsp
  obtain ⟨h0, hr, hts, hown, hlk, hnm, hml, hK, hZ, hN, hA⟩ := hF
  have hown : s.vm.findClass "BorderDesk$Assessor" = some m.cls := hown
  obtain ⟨A, hAe⟩ : ∃ A, A = wq_A ad w s.heap.size := ⟨_, rfl⟩
  rw [← hAe] at hZ hA ⊢
  have hb_78 : wq_Snd p l e ({ frames := 2, cells := 0, slots := 0, locals := 52 } : Room) s m args below meth c 12 cs D kz_cl A (wq_G0 ad w) (wq_Q cs D kz_cl A (wq_G0 ad w) rt xt below s 0 0) 78 (kt_A_dutyOf_78 rt xt) := by
    refine wq_lstore_ok h0 kd_A_dutyOf_78 (Nat.le_of_ble_eq_true rfl) ?_
    refine wq_lload_n_ok h0 kd_A_dutyOf_80 rfl ?_
    refine wq_aload_n_ok h0 kd_A_dutyOf_81 rfl ?_
    refine wq_get_ok (wq_getOK h0 hts ki_A hown hK (ci := 6) rfl 4 (Nat.le_of_ble_eq_true rfl) kw_276 rfl) kd_A_dutyOf_82 ?_
    refine wq_iload_n_ok h0 kd_A_dutyOf_85 rfl ?_
    refine wq_iald_ok h0 hK kd_A_dutyOf_86 ?_
    refine wq_i2l_ok h0 kd_A_dutyOf_87 ?_
    refine wq_lsub_ok h0 kd_A_dutyOf_88 ?_
    refine wq_lload_ok h0 kd_A_dutyOf_89 ?_
    refine wq_lmul_ok h0 kd_A_dutyOf_91 ?_
    refine wq_aload_n_ok h0 kd_A_dutyOf_92 rfl ?_
    refine wq_get_ok (wq_getOK h0 hts ki_A hown hK (ci := 6) rfl 4 (Nat.le_of_ble_eq_true rfl) kw_276 rfl) kd_A_dutyOf_93 ?_
    refine wq_iload_n_ok h0 kd_A_dutyOf_96 rfl ?_
    refine wq_iald_ok h0 hK kd_A_dutyOf_97 ?_
    refine wq_i2l_ok h0 kd_A_dutyOf_98 ?_
    refine wq_lload_ok h0 kd_A_dutyOf_99 ?_
    refine wq_lmul_ok h0 kd_A_dutyOf_101 ?_
    refine wq_ladd_ok h0 kd_A_dutyOf_102 ?_
    refine wq_lstore_ok h0 kd_A_dutyOf_103 (Nat.le_of_ble_eq_true rfl) ?_
    refine wq_lload_ok h0 kd_A_dutyOf_105 ?_
    refine wq_lload_n_ok h0 kd_A_dutyOf_107 rfl ?_
    refine wq_ldc2_ok (v := 10000) h0 hown (hts _ kw_835) kd_A_dutyOf_108 ?_
    refine wq_lmul_ok h0 kd_A_dutyOf_111 ?_
    refine wq_call_ok hA (wq_runS ⟨h0.1, h0.2, hml, hown, hts⟩ (kv_A_roundHalvesUp hl) ⟨(wq_cB hts kw_G kw_838 kw_7 kw_836 ⟨by decide +kernel, by decide +kernel, by decide +kernel⟩ rfl rfl ⟨Nat.le_of_ble_eq_true rfl, Nat.le_of_ble_eq_true rfl⟩), hts _ kw_837⟩ hK hZ hN hA kd_A_dutyOf_112) (wq_xout_ok hnt hlk) ?_
    exact wq_lreturn_ok h0 hr hlk kd_A_dutyOf_115
  have hb_60 : wq_Snd p l e ({ frames := 2, cells := 0, slots := 0, locals := 52 } : Room) s m args below meth c 12 cs D kz_cl A (wq_G0 ad w) (wq_Q cs D kz_cl A (wq_G0 ad w) rt xt below s 0 0) 60 (kt_A_dutyOf_60 rt xt) := by
    refine wq_aload_n_ok h0 kd_A_dutyOf_60 rfl ?_
    refine wq_get_ok (wq_getOK h0 hts ki_A hown hK (ci := 6) rfl 2 (Nat.le_of_ble_eq_true rfl) kw_274 rfl) kd_A_dutyOf_61 ?_
    refine wq_get_ok (wq_getOK h0 hts ki_Q hown hK (ci := 3) rfl 3 (Nat.le_of_ble_eq_true rfl) kw_135 rfl) kd_A_dutyOf_64 ?_
    refine wq_iload_ok h0 kd_A_dutyOf_67 ?_
    refine wq_iald_ok h0 hK kd_A_dutyOf_69 ?_
    refine wq_i2l_ok h0 kd_A_dutyOf_70 ?_
    refine wq_aload_n_ok h0 kd_A_dutyOf_71 rfl ?_
    refine wq_get_ok (wq_getOK h0 hts ki_A hown hK (ci := 6) rfl 6 (Nat.le_of_ble_eq_true rfl) kw_280 rfl) kd_A_dutyOf_72 ?_
    refine wq_iload_n_ok h0 kd_A_dutyOf_75 rfl ?_
    refine wq_lald_ok h0 hK kd_A_dutyOf_76 ?_
    refine wq_lmul_ok h0 kd_A_dutyOf_77 ?_
    exact hb_78
  have hb_0 : wq_Snd p l e ({ frames := 2, cells := 0, slots := 0, locals := 52 } : Room) s m args below meth c 12 cs D kz_cl A (wq_G0 ad w) (wq_Q cs D kz_cl A (wq_G0 ad w) rt xt below s 0 0) 0 (kt_A_dutyOf_0 rt xt) := by
    refine wq_aload_n_ok h0 kd_A_dutyOf_0 rfl ?_
    refine wq_get_ok (wq_getOK h0 hts ki_A hown hK (ci := 6) rfl 3 (Nat.le_of_ble_eq_true rfl) kw_275 rfl) kd_A_dutyOf_1 ?_
    refine wq_get_ok (wq_getOK h0 hts ki_D hown hK (ci := 5) rfl 9 (Nat.le_of_ble_eq_true rfl) kw_216 rfl) kd_A_dutyOf_4 ?_
    refine wq_iload_n_ok h0 kd_A_dutyOf_7 rfl ?_
    refine wq_iald_ok h0 hK kd_A_dutyOf_8 ?_
    refine wq_i2l_ok h0 kd_A_dutyOf_9 ?_
    refine wq_lstore_n_ok h0 kd_A_dutyOf_10 rfl (Nat.le_of_ble_eq_true rfl) ?_
    refine wq_aload_n_ok h0 kd_A_dutyOf_11 rfl ?_
    refine wq_get_ok (wq_getOK h0 hts ki_A hown hK (ci := 6) rfl 1 (Nat.le_of_ble_eq_true rfl) kw_273 rfl) kd_A_dutyOf_12 ?_
    refine wq_aload_n_ok h0 kd_A_dutyOf_15 rfl ?_
    refine wq_get_ok (wq_getOK h0 hts ki_A hown hK (ci := 6) rfl 7 (Nat.le_of_ble_eq_true rfl) kw_281 rfl) kd_A_dutyOf_16 ?_
    refine wq_iload_n_ok h0 kd_A_dutyOf_19 rfl ?_
    refine wq_iald_ok h0 hK kd_A_dutyOf_20 ?_
    refine wq_aload_n_ok h0 kd_A_dutyOf_21 rfl ?_
    refine wq_get_ok (wq_getOK h0 hts ki_A hown hK (ci := 6) rfl 6 (Nat.le_of_ble_eq_true rfl) kw_280 rfl) kd_A_dutyOf_22 ?_
    refine wq_iload_n_ok h0 kd_A_dutyOf_25 rfl ?_
    refine wq_lald_ok h0 hK kd_A_dutyOf_26 ?_
    refine wq_aload_n_ok h0 kd_A_dutyOf_27 rfl ?_
    refine wq_get_ok (wq_getOK h0 hts ki_A hown hK (ci := 6) rfl 3 (Nat.le_of_ble_eq_true rfl) kw_275 rfl) kd_A_dutyOf_28 ?_
    refine wq_get_ok (wq_getOK h0 hts ki_D hown hK (ci := 5) rfl 10 (Nat.le_of_ble_eq_true rfl) kw_219 rfl) kd_A_dutyOf_31 ?_
    refine wq_iload_n_ok h0 kd_A_dutyOf_34 rfl ?_
    refine wq_iald_ok h0 hK kd_A_dutyOf_35 ?_
    refine wq_i2l_ok h0 kd_A_dutyOf_36 ?_
    refine wq_call_ok hA (wq_runV (ci := 2) ⟨h0.1, h0.2, hml, hown, hts⟩ (kv_R_exactDuty hl) ⟨(wq_cB hts kw_G kw_830 kw_3 kw_827 ⟨by decide +kernel, by decide +kernel, by decide +kernel⟩ rfl rfl ⟨Nat.le_of_ble_eq_true rfl, Nat.le_of_ble_eq_true rfl⟩), hts _ kw_828, hts _ kw_829⟩ rfl rfl hK hZ hN hA kd_A_dutyOf_37) (wq_xout_ok hnt hlk) ?_
    refine wq_lstore_ok h0 kd_A_dutyOf_40 (Nat.le_of_ble_eq_true rfl) ?_
    refine wq_aload_n_ok h0 kd_A_dutyOf_42 rfl ?_
    refine wq_get_ok (wq_getOK h0 hts ki_A hown hK (ci := 6) rfl 8 (Nat.le_of_ble_eq_true rfl) kw_282 rfl) kd_A_dutyOf_43 ?_
    refine wq_iload_n_ok h0 kd_A_dutyOf_46 rfl ?_
    refine wq_iald_ok h0 hK kd_A_dutyOf_47 ?_
    refine wq_istore_ok h0 kd_A_dutyOf_48 (Nat.le_of_ble_eq_true rfl) ?_
    refine wq_iload_ok h0 kd_A_dutyOf_50 ?_
    refine wq_iconst_ok h0 kd_A_dutyOf_52 (by decide +kernel) ?_
    refine wq_icmp_ne_ok (tgt := 60) h0 kd_A_dutyOf_53 (by decide) ?_ ?_
    · exact hb_60
    refine wq_lconst_ok h0 kd_A_dutyOf_56 (by decide +kernel) ?_
    refine wq_goto_ok (tgt := 78) h0 kd_A_dutyOf_57 (by decide) ?_
    exact hb_78
  exact hb_0 _ _ _ _ _ (wq_sp_t hsp)
set_option maxRecDepth 100000 in
set_option maxHeartbeats 4000000 in
theorem kv_A_findDuties {l : Launch} (hl : l.stackTraces = false) : wq_Vld l kz_cl ky_A_findDuties kw_T ({ frames := 4, cells := 0, slots := 0, locals := 102 }) wq_G0 ks_A_findDuties 0 0 := by
  refine wq_method (cc := kc_A_findDuties) (maxL := 3) (ret := none) (by decide) kw_822 (fun _ _ => rfl) wq_sp_sz ?_
  intro p e s m args below meth c cs D ad as w rt xt hF hnt hsp
  obtain ⟨h0, hr, hts, hown, hlk, hnm, hml, hK, hZ, hN, hA⟩ := hF
  have hown : s.vm.findClass "BorderDesk$Assessor" = some m.cls := hown
  obtain ⟨A, hAe⟩ : ∃ A, A = wq_A ad w s.heap.size := ⟨_, rfl⟩
  rw [← hAe] at hZ hA ⊢
  have hall : ∀ K : Nat → wq_T, (∀ pc, pc ∈ [7] → wq_Snd p l e ({ frames := 4, cells := 0, slots := 0, locals := 102 } : Room) s m args below meth c 3 cs D kz_cl A (wq_G0 ad w) (wq_Q cs D kz_cl A (wq_G0 ad w) rt xt below s 0 0) pc (K pc)) → (∀ pc, pc ∈ [7] → wq_Snd p l e ({ frames := 4, cells := 0, slots := 0, locals := 102 } : Room) s m args below meth c 3 cs D kz_cl A (wq_G0 ad w) (wq_Q cs D kz_cl A (wq_G0 ad w) rt xt below s 0 0) pc (cond (Nat.beq pc 7) (kh_A_findDuties_7 rt xt K) (fun _ _ _ _ _ => False))) ∧ wq_Snd p l e ({ frames := 4, cells := 0, slots := 0, locals := 102 } : Room) s m args below meth c 3 cs D kz_cl A (wq_G0 ad w) (wq_Q cs D kz_cl A (wq_G0 ad w) rt xt below s 0 0) 0 (kt_A_findDuties_0 rt xt K) := by
    intro K hKc
    have hb_42 : wq_Snd p l e ({ frames := 4, cells := 0, slots := 0, locals := 102 } : Room) s m args below meth c 3 cs D kz_cl A (wq_G0 ad w) (wq_Q cs D kz_cl A (wq_G0 ad w) rt xt below s 0 0) 42 (kt_A_findDuties_42 rt xt K) := by
      exact wq_vreturn_ok h0 hr hlk kd_A_findDuties_42
    have hb_7 : wq_Snd p l e ({ frames := 4, cells := 0, slots := 0, locals := 102 } : Room) s m args below meth c 3 cs D kz_cl A (wq_G0 ad w) (wq_Q cs D kz_cl A (wq_G0 ad w) rt xt below s 0 0) 7 (kh_A_findDuties_7 rt xt K) := by
      refine wq_iload_n_ok h0 kd_A_findDuties_7 rfl ?_
      refine wq_aload_n_ok h0 kd_A_findDuties_8 rfl ?_
      refine wq_get_ok (wq_getOK h0 hts ki_A hown hK (ci := 6) rfl 3 (Nat.le_of_ble_eq_true rfl) kw_275 rfl) kd_A_findDuties_9 ?_
      refine wq_get_ok (wq_getOK h0 hts ki_D hown hK (ci := 5) rfl 3 (Nat.le_of_ble_eq_true rfl) kw_201 rfl) kd_A_findDuties_12 ?_
      refine wq_iload_n_ok h0 kd_A_findDuties_15 rfl ?_
      refine wq_iald_ok h0 hK kd_A_findDuties_16 ?_
      refine wq_icmp_ge_ok (tgt := 42) h0 kd_A_findDuties_17 (by decide) ?_ ?_
      · exact hb_42
      refine wq_aload_n_ok h0 kd_A_findDuties_20 rfl ?_
      refine wq_get_ok (wq_getOK h0 hts ki_A hown hK (ci := 6) rfl 5 (Nat.le_of_ble_eq_true rfl) kw_278 rfl) kd_A_findDuties_21 ?_
      refine wq_iload_n_ok h0 kd_A_findDuties_24 rfl ?_
      refine wq_aload_n_ok h0 kd_A_findDuties_25 rfl ?_
      refine wq_iload_n_ok h0 kd_A_findDuties_26 rfl ?_
      refine wq_iload_n_ok h0 kd_A_findDuties_27 rfl ?_
      refine wq_iload_n_ok h0 kd_A_findDuties_28 rfl ?_
      refine wq_call_ok hA (wq_runS ⟨h0.1, h0.2, hml, hown, hts⟩ (kv_D_rowOf hl) ⟨(wq_cB hts kw_G kw_724 kw_6 kw_753 ⟨by decide +kernel, by decide +kernel, by decide +kernel⟩ rfl rfl ⟨Nat.le_of_ble_eq_true rfl, Nat.le_of_ble_eq_true rfl⟩), hts _ kw_723⟩ hK hZ hN hA kd_A_findDuties_29) (wq_xout_ok hnt hlk) ?_
      refine wq_call_ok hA (wq_runV (ci := 6) ⟨h0.1, h0.2, hml, hown, hts⟩ (kv_A_dutyOf hl) ⟨(wq_cB hts kw_G kw_826 kw_7 kw_823 ⟨by decide +kernel, by decide +kernel, by decide +kernel⟩ rfl rfl ⟨Nat.le_of_ble_eq_true rfl, Nat.le_of_ble_eq_true rfl⟩), hts _ kw_825, hts _ kw_s21⟩ rfl rfl hK hZ hN hA kd_A_findDuties_32) (wq_xout_ok hnt hlk) ?_
      refine wq_last_ok h0 hK kd_A_findDuties_35 ?_
      refine wq_iinc_ok h0 kd_A_findDuties_36 (by decide +kernel) (Nat.le_of_ble_eq_true rfl) ?_
      refine wq_goto_ok (tgt := 7) h0 kd_A_findDuties_39 (by decide) ?_
      exact wq_can_ok (hKc 7 (by decide))
    have hb_0 : wq_Snd p l e ({ frames := 4, cells := 0, slots := 0, locals := 102 } : Room) s m args below meth c 3 cs D kz_cl A (wq_G0 ad w) (wq_Q cs D kz_cl A (wq_G0 ad w) rt xt below s 0 0) 0 (kt_A_findDuties_0 rt xt K) := by
      refine wq_aload_n_ok h0 kd_A_findDuties_0 rfl ?_
      refine wq_iload_n_ok h0 kd_A_findDuties_1 rfl ?_
      refine wq_call_ok hA (wq_runV (ci := 6) ⟨h0.1, h0.2, hml, hown, hts⟩ (kv_A_findValues hl) ⟨(wq_cB hts kw_G kw_752 kw_7 kw_749 ⟨by decide +kernel, by decide +kernel, by decide +kernel⟩ rfl rfl ⟨Nat.le_of_ble_eq_true rfl, Nat.le_of_ble_eq_true rfl⟩), hts _ kw_751, hts _ kw_s14⟩ rfl rfl hK hZ hN hA kd_A_findDuties_2) (wq_xout_ok hnt hlk) ?_
      refine wq_iconst_ok h0 kd_A_findDuties_5 (by decide +kernel) ?_
      refine wq_istore_n_ok h0 kd_A_findDuties_6 rfl (Nat.le_of_ble_eq_true rfl) ?_
      exact wq_can_ok (hKc 7 (by decide))
    refine ⟨?_, hb_0⟩
    exact List.forall_mem_cons.mpr ⟨hb_7, fun _ h => absurd h List.not_mem_nil⟩
  have hun : ∀ (n pc : Nat), pc ∈ [7] → wq_Snd p l e ({ frames := 4, cells := 0, slots := 0, locals := 102 } : Room) s m args below meth c 3 cs D kz_cl A (wq_G0 ad w) (wq_Q cs D kz_cl A (wq_G0 ad w) rt xt below s 0 0) pc (ku_A_findDuties rt xt n pc) := by
    intro n
    induction n with
    | zero => intro pc _ L S w9 n1 n2 h; exact h.elim
    | succ n ih => intro pc hpc; exact (hall (ku_A_findDuties rt xt n) ih).1 pc hpc
  exact (hall (ku_A_findDuties rt xt 1000000000000) (hun 1000000000000)).2 _ _ _ _ _ (wq_sp_t hsp)
set_option maxRecDepth 100000 in
set_option maxHeartbeats 4000000 in
theorem kv_A_copyQuotasLeft {l : Launch} (hl : l.stackTraces = false) : wq_Vld l kz_cl ky_A_copyQuotasLeft kw_T ({ frames := 1, cells := 0, slots := 0, locals := 26 }) wq_G0 ks_A_copyQuotasLeft 0 0 := by
  refine wq_method (cc := kc_A_copyQuotasLeft) (maxL := 1) (ret := none) (by decide) kw_808 (fun _ _ => rfl) wq_sp_sz ?_
  intro p e s m args below meth c cs D ad as w rt xt hF hnt hsp
  obtain ⟨h0, hr, hts, hown, hlk, hnm, hml, hK, hZ, hN, hA⟩ := hF
  have hown : s.vm.findClass "BorderDesk$Assessor" = some m.cls := hown
  obtain ⟨A, hAe⟩ : ∃ A, A = wq_A ad w s.heap.size := ⟨_, rfl⟩
  rw [← hAe] at hZ hA ⊢
  have hb_0 : wq_Snd p l e ({ frames := 1, cells := 0, slots := 0, locals := 26 } : Room) s m args below meth c 1 cs D kz_cl A (wq_G0 ad w) (wq_Q cs D kz_cl A (wq_G0 ad w) rt xt below s 0 0) 0 (kt_A_copyQuotasLeft_0 rt xt) := by
    refine wq_aload_n_ok h0 kd_A_copyQuotasLeft_0 rfl ?_
    refine wq_get_ok (wq_getOK h0 hts ki_A hown hK (ci := 6) rfl 2 (Nat.le_of_ble_eq_true rfl) kw_274 rfl) kd_A_copyQuotasLeft_1 ?_
    refine wq_get_ok (wq_getOK h0 hts ki_Q hown hK (ci := 3) rfl 2 (Nat.le_of_ble_eq_true rfl) kw_132 rfl) kd_A_copyQuotasLeft_4 ?_
    refine wq_iconst_ok h0 kd_A_copyQuotasLeft_7 (by decide +kernel) ?_
    refine wq_aload_n_ok h0 kd_A_copyQuotasLeft_8 rfl ?_
    refine wq_get_ok (wq_getOK h0 hts ki_A hown hK (ci := 6) rfl 9 (Nat.le_of_ble_eq_true rfl) kw_283 rfl) kd_A_copyQuotasLeft_9 ?_
    refine wq_iconst_ok h0 kd_A_copyQuotasLeft_12 (by decide +kernel) ?_
    refine wq_bipush_ok h0 kd_A_copyQuotasLeft_13 (by decide +kernel) ?_
    refine wq_cpy_ok h0 hml hown (hts _ kw_809) (hts _ kw_811) (hts _ kw_810) (hts _ kw_19) hK (Nat.le_of_ble_eq_true rfl) (Nat.le_of_ble_eq_true rfl) kd_A_copyQuotasLeft_15 ?_
    exact wq_vreturn_ok h0 hr hlk kd_A_copyQuotasLeft_18
  exact hb_0 _ _ _ _ _ (wq_sp_t hsp)
set_option maxRecDepth 100000 in
set_option maxHeartbeats 4000000 in
theorem kv_A_takeMore {l : Launch} (hl : l.stackTraces = false) : wq_Vld l kz_cl ky_A_takeMore kw_T ({ frames := 1, cells := 0, slots := 0, locals := 23 }) wq_G0 ks_A_takeMore 0 0 := by
  refine wq_method (cc := kc_A_takeMore) (maxL := 5) (ret := none) (by decide) kw_815 (fun _ _ => rfl) wq_sp_sz ?_
  intro p e s m args below meth c cs D ad as w rt xt hF hnt hsp
  obtain ⟨h0, hr, hts, hown, hlk, hnm, hml, hK, hZ, hN, hA⟩ := hF
  have hown : s.vm.findClass "BorderDesk$Assessor" = some m.cls := hown
  obtain ⟨A, hAe⟩ : ∃ A, A = wq_A ad w s.heap.size := ⟨_, rfl⟩
  rw [← hAe] at hZ hA ⊢
  have hb_53 : wq_Snd p l e ({ frames := 1, cells := 0, slots := 0, locals := 23 } : Room) s m args below meth c 5 cs D kz_cl A (wq_G0 ad w) (wq_Q cs D kz_cl A (wq_G0 ad w) rt xt below s 0 0) 53 (kt_A_takeMore_53 rt xt) := by
    exact wq_vreturn_ok h0 hr hlk kd_A_takeMore_53
  have hb_0 : wq_Snd p l e ({ frames := 1, cells := 0, slots := 0, locals := 23 } : Room) s m args below meth c 5 cs D kz_cl A (wq_G0 ad w) (wq_Q cs D kz_cl A (wq_G0 ad w) rt xt below s 0 0) 0 (kt_A_takeMore_0 rt xt) := by
    refine wq_aload_n_ok h0 kd_A_takeMore_0 rfl ?_
    refine wq_get_ok (wq_getOK h0 hts ki_A hown hK (ci := 6) rfl 8 (Nat.le_of_ble_eq_true rfl) kw_282 rfl) kd_A_takeMore_1 ?_
    refine wq_iload_n_ok h0 kd_A_takeMore_4 rfl ?_
    refine wq_iald_ok h0 hK kd_A_takeMore_5 ?_
    refine wq_istore_n_ok h0 kd_A_takeMore_6 rfl (Nat.le_of_ble_eq_true rfl) ?_
    refine wq_iload_n_ok h0 kd_A_takeMore_7 rfl ?_
    refine wq_iconst_ok h0 kd_A_takeMore_8 (by decide +kernel) ?_
    refine wq_icmp_eq_ok (tgt := 53) h0 kd_A_takeMore_9 (by decide) ?_ ?_
    · exact hb_53
    refine wq_iload_n_ok h0 kd_A_takeMore_12 rfl ?_
    refine wq_aload_n_ok h0 kd_A_takeMore_13 rfl ?_
    refine wq_get_ok (wq_getOK h0 hts ki_A hown hK (ci := 6) rfl 4 (Nat.le_of_ble_eq_true rfl) kw_276 rfl) kd_A_takeMore_14 ?_
    refine wq_iload_n_ok h0 kd_A_takeMore_17 rfl ?_
    refine wq_iald_ok h0 hK kd_A_takeMore_18 ?_
    refine wq_isub_ok h0 kd_A_takeMore_19 ?_
    refine wq_aload_n_ok h0 kd_A_takeMore_20 rfl ?_
    refine wq_get_ok (wq_getOK h0 hts ki_A hown hK (ci := 6) rfl 9 (Nat.le_of_ble_eq_true rfl) kw_283 rfl) kd_A_takeMore_21 ?_
    refine wq_iload_n_ok h0 kd_A_takeMore_24 rfl ?_
    refine wq_iald_ok h0 hK kd_A_takeMore_25 ?_
    refine wq_m2_ok (fun H locs n1 n2 ls rest x y hsz hrs hc hs hw => va_mmin h0.1 h0.2 (hml.trans hsz.symm) hown (hts _ kw_816) (hts _ kw_817) (hts _ kw_16) (hts _ kw_818) (Nat.le_of_ble_eq_true rfl) (Nat.le_trans (Nat.add_le_add_right hrs 13) (Nat.le_of_ble_eq_true rfl)) hc hs kd_A_takeMore_26 hw) ?_
    refine wq_istore_ok h0 kd_A_takeMore_29 (Nat.le_of_ble_eq_true rfl) ?_
    refine wq_aload_n_ok h0 kd_A_takeMore_31 rfl ?_
    refine wq_get_ok (wq_getOK h0 hts ki_A hown hK (ci := 6) rfl 4 (Nat.le_of_ble_eq_true rfl) kw_276 rfl) kd_A_takeMore_32 ?_
    refine wq_iload_n_ok h0 kd_A_takeMore_35 rfl ?_
    refine wq_dup2_ok h0 kd_A_takeMore_36 ?_
    refine wq_iald_ok h0 hK kd_A_takeMore_37 ?_
    refine wq_iload_ok h0 kd_A_takeMore_38 ?_
    refine wq_iadd_ok h0 kd_A_takeMore_40 ?_
    refine wq_iast_ok h0 hK kd_A_takeMore_41 ?_
    refine wq_aload_n_ok h0 kd_A_takeMore_42 rfl ?_
    refine wq_get_ok (wq_getOK h0 hts ki_A hown hK (ci := 6) rfl 9 (Nat.le_of_ble_eq_true rfl) kw_283 rfl) kd_A_takeMore_43 ?_
    refine wq_iload_n_ok h0 kd_A_takeMore_46 rfl ?_
    refine wq_dup2_ok h0 kd_A_takeMore_47 ?_
    refine wq_iald_ok h0 hK kd_A_takeMore_48 ?_
    refine wq_iload_ok h0 kd_A_takeMore_49 ?_
    refine wq_isub_ok h0 kd_A_takeMore_51 ?_
    refine wq_iast_ok h0 hK kd_A_takeMore_52 ?_
    exact hb_53
  exact hb_0 _ _ _ _ _ (wq_sp_t hsp)
set_option maxRecDepth 100000 in
set_option maxHeartbeats 4000000 in
theorem kv_A_giveBack {l : Launch} (hl : l.stackTraces = false) : wq_Vld l kz_cl ky_A_giveBack kw_T ({ frames := 0, cells := 0, slots := 0, locals := 0 }) wq_G0 ks_A_giveBack 0 0 := by
  refine wq_method (cc := kc_A_giveBack) (maxL := 4) (ret := none) (by decide) kw_912 (fun _ _ => rfl) wq_sp_sz ?_
  intro p e s m args below meth c cs D ad as w rt xt hF hnt hsp
  obtain ⟨h0, hr, hts, hown, hlk, hnm, hml, hK, hZ, hN, hA⟩ := hF
  have hown : s.vm.findClass "BorderDesk$Assessor" = some m.cls := hown
  obtain ⟨A, hAe⟩ : ∃ A, A = wq_A ad w s.heap.size := ⟨_, rfl⟩
  rw [← hAe] at hZ hA ⊢
  have hb_29 : wq_Snd p l e ({ frames := 0, cells := 0, slots := 0, locals := 0 } : Room) s m args below meth c 4 cs D kz_cl A (wq_G0 ad w) (wq_Q cs D kz_cl A (wq_G0 ad w) rt xt below s 0 0) 29 (kt_A_giveBack_29 rt xt) := by
    exact wq_vreturn_ok h0 hr hlk kd_A_giveBack_29
  have hb_0 : wq_Snd p l e ({ frames := 0, cells := 0, slots := 0, locals := 0 } : Room) s m args below meth c 4 cs D kz_cl A (wq_G0 ad w) (wq_Q cs D kz_cl A (wq_G0 ad w) rt xt below s 0 0) 0 (kt_A_giveBack_0 rt xt) := by
    refine wq_iload_n_ok h0 kd_A_giveBack_0 rfl ?_
    refine wq_iconst_ok h0 kd_A_giveBack_1 (by decide +kernel) ?_
    refine wq_icmp_eq_ok (tgt := 29) h0 kd_A_giveBack_2 (by decide) ?_ ?_
    · exact hb_29
    refine wq_iload_n_ok h0 kd_A_giveBack_5 rfl ?_
    refine wq_if_le_ok (tgt := 29) h0 kd_A_giveBack_6 (by decide) ?_ ?_
    · exact hb_29
    refine wq_aload_n_ok h0 kd_A_giveBack_9 rfl ?_
    refine wq_get_ok (wq_getOK h0 hts ki_A hown hK (ci := 6) rfl 4 (Nat.le_of_ble_eq_true rfl) kw_276 rfl) kd_A_giveBack_10 ?_
    refine wq_iload_n_ok h0 kd_A_giveBack_13 rfl ?_
    refine wq_dup2_ok h0 kd_A_giveBack_14 ?_
    refine wq_iald_ok h0 hK kd_A_giveBack_15 ?_
    refine wq_iload_n_ok h0 kd_A_giveBack_16 rfl ?_
    refine wq_isub_ok h0 kd_A_giveBack_17 ?_
    refine wq_iast_ok h0 hK kd_A_giveBack_18 ?_
    refine wq_aload_n_ok h0 kd_A_giveBack_19 rfl ?_
    refine wq_get_ok (wq_getOK h0 hts ki_A hown hK (ci := 6) rfl 9 (Nat.le_of_ble_eq_true rfl) kw_283 rfl) kd_A_giveBack_20 ?_
    refine wq_iload_n_ok h0 kd_A_giveBack_23 rfl ?_
    refine wq_dup2_ok h0 kd_A_giveBack_24 ?_
    refine wq_iald_ok h0 hK kd_A_giveBack_25 ?_
    refine wq_iload_n_ok h0 kd_A_giveBack_26 rfl ?_
    refine wq_iadd_ok h0 kd_A_giveBack_27 ?_
    refine wq_iast_ok h0 hK kd_A_giveBack_28 ?_
    exact hb_29
  exact hb_0 _ _ _ _ _ (wq_sp_t hsp)
set_option maxRecDepth 100000 in
set_option maxHeartbeats 4000000 in
theorem kv_A_assess {l : Launch} (hl : l.stackTraces = false) : wq_Vld l kz_cl ky_A_assess kw_T ({ frames := 5, cells := 0, slots := 0, locals := 124 }) wq_G0 ks_A_assess 0 0 := by
  refine wq_method (cc := kc_A_assess) (maxL := 3) (ret := none) (by decide) kw_804 (fun _ _ => rfl) wq_sp_sz ?_
  intro p e s m args below meth c cs D ad as w rt xt hF hnt hsp
  obtain ⟨h0, hr, hts, hown, hlk, hnm, hml, hK, hZ, hN, hA⟩ := hF
  have hown : s.vm.findClass "BorderDesk$Assessor" = some m.cls := hown
  obtain ⟨A, hAe⟩ : ∃ A, A = wq_A ad w s.heap.size := ⟨_, rfl⟩
  rw [← hAe] at hZ hA ⊢
  have hall : ∀ K : Nat → wq_T, (∀ pc, pc ∈ [6] → wq_Snd p l e ({ frames := 5, cells := 0, slots := 0, locals := 124 } : Room) s m args below meth c 3 cs D kz_cl A (wq_G0 ad w) (wq_Q cs D kz_cl A (wq_G0 ad w) rt xt below s 0 0) pc (K pc)) → (∀ pc, pc ∈ [6] → wq_Snd p l e ({ frames := 5, cells := 0, slots := 0, locals := 124 } : Room) s m args below meth c 3 cs D kz_cl A (wq_G0 ad w) (wq_Q cs D kz_cl A (wq_G0 ad w) rt xt below s 0 0) pc (cond (Nat.beq pc 6) (kh_A_assess_6 rt xt K) (fun _ _ _ _ _ => False))) ∧ wq_Snd p l e ({ frames := 5, cells := 0, slots := 0, locals := 124 } : Room) s m args below meth c 3 cs D kz_cl A (wq_G0 ad w) (wq_Q cs D kz_cl A (wq_G0 ad w) rt xt below s 0 0) 0 (kt_A_assess_0 rt xt K) := by
    intro K hKc
    have hb_50 : wq_Snd p l e ({ frames := 5, cells := 0, slots := 0, locals := 124 } : Room) s m args below meth c 3 cs D kz_cl A (wq_G0 ad w) (wq_Q cs D kz_cl A (wq_G0 ad w) rt xt below s 0 0) 50 (kt_A_assess_50 rt xt K) := by
      refine wq_aload_n_ok h0 kd_A_assess_50 rfl ?_
      refine wq_iload_n_ok h0 kd_A_assess_51 rfl ?_
      refine wq_call_ok hA (wq_runV (ci := 6) ⟨h0.1, h0.2, hml, hown, hts⟩ (kv_A_findDuties hl) ⟨(wq_cB hts kw_G kw_822 kw_7 kw_819 ⟨by decide +kernel, by decide +kernel, by decide +kernel⟩ rfl rfl ⟨Nat.le_of_ble_eq_true rfl, Nat.le_of_ble_eq_true rfl⟩), hts _ kw_821, hts _ kw_s20⟩ rfl rfl hK hZ hN hA kd_A_assess_52) (wq_xout_ok hnt hlk) ?_
      exact wq_vreturn_ok h0 hr hlk kd_A_assess_55
    have hb_6 : wq_Snd p l e ({ frames := 5, cells := 0, slots := 0, locals := 124 } : Room) s m args below meth c 3 cs D kz_cl A (wq_G0 ad w) (wq_Q cs D kz_cl A (wq_G0 ad w) rt xt below s 0 0) 6 (kh_A_assess_6 rt xt K) := by
      refine wq_iload_n_ok h0 kd_A_assess_6 rfl ?_
      refine wq_aload_n_ok h0 kd_A_assess_7 rfl ?_
      refine wq_get_ok (wq_getOK h0 hts ki_A hown hK (ci := 6) rfl 3 (Nat.le_of_ble_eq_true rfl) kw_275 rfl) kd_A_assess_8 ?_
      refine wq_get_ok (wq_getOK h0 hts ki_D hown hK (ci := 5) rfl 3 (Nat.le_of_ble_eq_true rfl) kw_201 rfl) kd_A_assess_11 ?_
      refine wq_iload_n_ok h0 kd_A_assess_14 rfl ?_
      refine wq_iald_ok h0 hK kd_A_assess_15 ?_
      refine wq_icmp_ge_ok (tgt := 50) h0 kd_A_assess_16 (by decide) ?_ ?_
      · exact hb_50
      refine wq_aload_n_ok h0 kd_A_assess_19 rfl ?_
      refine wq_get_ok (wq_getOK h0 hts ki_A hown hK (ci := 6) rfl 4 (Nat.le_of_ble_eq_true rfl) kw_276 rfl) kd_A_assess_20 ?_
      refine wq_iload_n_ok h0 kd_A_assess_23 rfl ?_
      refine wq_iconst_ok h0 kd_A_assess_24 (by decide +kernel) ?_
      refine wq_iast_ok h0 hK kd_A_assess_25 ?_
      refine wq_aload_n_ok h0 kd_A_assess_26 rfl ?_
      refine wq_iload_n_ok h0 kd_A_assess_27 rfl ?_
      refine wq_aload_n_ok h0 kd_A_assess_28 rfl ?_
      refine wq_get_ok (wq_getOK h0 hts ki_A hown hK (ci := 6) rfl 3 (Nat.le_of_ble_eq_true rfl) kw_275 rfl) kd_A_assess_29 ?_
      refine wq_get_ok (wq_getOK h0 hts ki_D hown hK (ci := 5) rfl 9 (Nat.le_of_ble_eq_true rfl) kw_216 rfl) kd_A_assess_32 ?_
      refine wq_iload_n_ok h0 kd_A_assess_35 rfl ?_
      refine wq_iload_n_ok h0 kd_A_assess_36 rfl ?_
      refine wq_call_ok hA (wq_runS ⟨h0.1, h0.2, hml, hown, hts⟩ (kv_D_rowOf hl) ⟨(wq_cB hts kw_G kw_724 kw_6 kw_753 ⟨by decide +kernel, by decide +kernel, by decide +kernel⟩ rfl rfl ⟨Nat.le_of_ble_eq_true rfl, Nat.le_of_ble_eq_true rfl⟩), hts _ kw_723⟩ hK hZ hN hA kd_A_assess_37) (wq_xout_ok hnt hlk) ?_
      refine wq_iald_ok h0 hK kd_A_assess_40 ?_
      refine wq_call_ok hA (wq_runV (ci := 6) ⟨h0.1, h0.2, hml, hown, hts⟩ (kv_A_takeMore hl) ⟨(wq_cB hts kw_G kw_815 kw_7 kw_812 ⟨by decide +kernel, by decide +kernel, by decide +kernel⟩ rfl rfl ⟨Nat.le_of_ble_eq_true rfl, Nat.le_of_ble_eq_true rfl⟩), hts _ kw_814, hts _ kw_s19⟩ rfl rfl hK hZ hN hA kd_A_assess_41) (wq_xout_ok hnt hlk) ?_
      refine wq_iinc_ok h0 kd_A_assess_44 (by decide +kernel) (Nat.le_of_ble_eq_true rfl) ?_
      refine wq_goto_ok (tgt := 6) h0 kd_A_assess_47 (by decide) ?_
      exact wq_can_ok (hKc 6 (by decide))
    have hb_0 : wq_Snd p l e ({ frames := 5, cells := 0, slots := 0, locals := 124 } : Room) s m args below meth c 3 cs D kz_cl A (wq_G0 ad w) (wq_Q cs D kz_cl A (wq_G0 ad w) rt xt below s 0 0) 0 (kt_A_assess_0 rt xt K) := by
      refine wq_aload_n_ok h0 kd_A_assess_0 rfl ?_
      refine wq_call_ok hA (wq_runV (ci := 6) ⟨h0.1, h0.2, hml, hown, hts⟩ (kv_A_copyQuotasLeft hl) ⟨(wq_cB hts kw_G kw_808 kw_7 kw_805 ⟨by decide +kernel, by decide +kernel, by decide +kernel⟩ rfl rfl ⟨Nat.le_of_ble_eq_true rfl, Nat.le_of_ble_eq_true rfl⟩), hts _ kw_807, hts _ kw_s18⟩ rfl rfl hK hZ hN hA kd_A_assess_1) (wq_xout_ok hnt hlk) ?_
      refine wq_iconst_ok h0 kd_A_assess_4 (by decide +kernel) ?_
      refine wq_istore_n_ok h0 kd_A_assess_5 rfl (Nat.le_of_ble_eq_true rfl) ?_
      exact wq_can_ok (hKc 6 (by decide))
    refine ⟨?_, hb_0⟩
    exact List.forall_mem_cons.mpr ⟨hb_6, fun _ h => absurd h List.not_mem_nil⟩
  have hun : ∀ (n pc : Nat), pc ∈ [6] → wq_Snd p l e ({ frames := 5, cells := 0, slots := 0, locals := 124 } : Room) s m args below meth c 3 cs D kz_cl A (wq_G0 ad w) (wq_Q cs D kz_cl A (wq_G0 ad w) rt xt below s 0 0) pc (ku_A_assess rt xt n pc) := by
    intro n
    induction n with
    | zero => intro pc _ L S w9 n1 n2 h; exact h.elim
    | succ n ih => intro pc hpc; exact (hall (ku_A_assess rt xt n) ih).1 pc hpc
  exact (hall (ku_A_assess rt xt 1000000000000) (hun 1000000000000)).2 _ _ _ _ _ (wq_sp_t hsp)
set_option maxRecDepth 100000 in
set_option maxHeartbeats 4000000 in
theorem kv_A_assessAnew {l : Launch} (hl : l.stackTraces = false) : wq_Vld l kz_cl ky_A_assessAnew kw_T ({ frames := 5, cells := 0, slots := 0, locals := 124 }) wq_G0 ks_A_assessAnew 0 0 := by
  refine wq_method (cc := kc_A_assessAnew) (maxL := 4) (ret := none) (by decide) kw_908 (fun _ _ => rfl) wq_sp_sz ?_
  intro p e s m args below meth c cs D ad as w rt xt hF hnt hsp
  obtain ⟨h0, hr, hts, hown, hlk, hnm, hml, hK, hZ, hN, hA⟩ := hF
  have hown : s.vm.findClass "BorderDesk$Assessor" = some m.cls := hown
  obtain ⟨A, hAe⟩ : ∃ A, A = wq_A ad w s.heap.size := ⟨_, rfl⟩
  rw [← hAe] at hZ hA ⊢
  have hall : ∀ K : Nat → wq_T, (∀ pc, pc ∈ [6, 78] → wq_Snd p l e ({ frames := 5, cells := 0, slots := 0, locals := 124 } : Room) s m args below meth c 4 cs D kz_cl A (wq_G0 ad w) (wq_Q cs D kz_cl A (wq_G0 ad w) rt xt below s 0 0) pc (K pc)) → (∀ pc, pc ∈ [6, 78] → wq_Snd p l e ({ frames := 5, cells := 0, slots := 0, locals := 124 } : Room) s m args below meth c 4 cs D kz_cl A (wq_G0 ad w) (wq_Q cs D kz_cl A (wq_G0 ad w) rt xt below s 0 0) pc (cond (Nat.beq pc 6) (kh_A_assessAnew_6 rt xt K) (cond (Nat.beq pc 78) (kh_A_assessAnew_78 rt xt K) (fun _ _ _ _ _ => False)))) ∧ wq_Snd p l e ({ frames := 5, cells := 0, slots := 0, locals := 124 } : Room) s m args below meth c 4 cs D kz_cl A (wq_G0 ad w) (wq_Q cs D kz_cl A (wq_G0 ad w) rt xt below s 0 0) 0 (kt_A_assessAnew_0 rt xt K) := by
    intro K hKc
    have hb_76 : wq_Snd p l e ({ frames := 5, cells := 0, slots := 0, locals := 124 } : Room) s m args below meth c 4 cs D kz_cl A (wq_G0 ad w) (wq_Q cs D kz_cl A (wq_G0 ad w) rt xt below s 0 0) 76 (kt_A_assessAnew_76 rt xt K) := by
      refine wq_iconst_ok h0 kd_A_assessAnew_76 (by decide +kernel) ?_
      refine wq_istore_n_ok h0 kd_A_assessAnew_77 rfl (Nat.le_of_ble_eq_true rfl) ?_
      exact wq_can_ok (hKc 78 (by decide))
    have hb_6 : wq_Snd p l e ({ frames := 5, cells := 0, slots := 0, locals := 124 } : Room) s m args below meth c 4 cs D kz_cl A (wq_G0 ad w) (wq_Q cs D kz_cl A (wq_G0 ad w) rt xt below s 0 0) 6 (kh_A_assessAnew_6 rt xt K) := by
      refine wq_iload_n_ok h0 kd_A_assessAnew_6 rfl ?_
      refine wq_aload_n_ok h0 kd_A_assessAnew_7 rfl ?_
      refine wq_get_ok (wq_getOK h0 hts ki_A hown hK (ci := 6) rfl 3 (Nat.le_of_ble_eq_true rfl) kw_275 rfl) kd_A_assessAnew_8 ?_
      refine wq_get_ok (wq_getOK h0 hts ki_D hown hK (ci := 5) rfl 3 (Nat.le_of_ble_eq_true rfl) kw_201 rfl) kd_A_assessAnew_11 ?_
      refine wq_iload_n_ok h0 kd_A_assessAnew_14 rfl ?_
      refine wq_iald_ok h0 hK kd_A_assessAnew_15 ?_
      refine wq_icmp_ge_ok (tgt := 76) h0 kd_A_assessAnew_16 (by decide) ?_ ?_
      · exact hb_76
      refine wq_iload_n_ok h0 kd_A_assessAnew_19 rfl ?_
      refine wq_iload_n_ok h0 kd_A_assessAnew_20 rfl ?_
      refine wq_call_ok hA (wq_runS ⟨h0.1, h0.2, hml, hown, hts⟩ (kv_D_rowOf hl) ⟨(wq_cB hts kw_G kw_724 kw_6 kw_753 ⟨by decide +kernel, by decide +kernel, by decide +kernel⟩ rfl rfl ⟨Nat.le_of_ble_eq_true rfl, Nat.le_of_ble_eq_true rfl⟩), hts _ kw_723⟩ hK hZ hN hA kd_A_assessAnew_21) (wq_xout_ok hnt hlk) ?_
      refine wq_istore_n_ok h0 kd_A_assessAnew_24 rfl (Nat.le_of_ble_eq_true rfl) ?_
      refine wq_aload_n_ok h0 kd_A_assessAnew_25 rfl ?_
      refine wq_get_ok (wq_getOK h0 hts ki_A hown hK (ci := 6) rfl 4 (Nat.le_of_ble_eq_true rfl) kw_276 rfl) kd_A_assessAnew_26 ?_
      refine wq_iload_n_ok h0 kd_A_assessAnew_29 rfl ?_
      refine wq_aload_n_ok h0 kd_A_assessAnew_30 rfl ?_
      refine wq_get_ok (wq_getOK h0 hts ki_A hown hK (ci := 6) rfl 3 (Nat.le_of_ble_eq_true rfl) kw_275 rfl) kd_A_assessAnew_31 ?_
      refine wq_get_ok (wq_getOK h0 hts ki_D hown hK (ci := 5) rfl 14 (Nat.le_of_ble_eq_true rfl) kw_227 rfl) kd_A_assessAnew_34 ?_
      refine wq_iload_n_ok h0 kd_A_assessAnew_37 rfl ?_
      refine wq_iald_ok h0 hK kd_A_assessAnew_38 ?_
      refine wq_iast_ok h0 hK kd_A_assessAnew_39 ?_
      refine wq_aload_n_ok h0 kd_A_assessAnew_40 rfl ?_
      refine wq_iload_n_ok h0 kd_A_assessAnew_41 rfl ?_
      refine wq_aload_n_ok h0 kd_A_assessAnew_42 rfl ?_
      refine wq_get_ok (wq_getOK h0 hts ki_A hown hK (ci := 6) rfl 3 (Nat.le_of_ble_eq_true rfl) kw_275 rfl) kd_A_assessAnew_43 ?_
      refine wq_get_ok (wq_getOK h0 hts ki_D hown hK (ci := 5) rfl 13 (Nat.le_of_ble_eq_true rfl) kw_225 rfl) kd_A_assessAnew_46 ?_
      refine wq_iload_n_ok h0 kd_A_assessAnew_49 rfl ?_
      refine wq_iald_ok h0 hK kd_A_assessAnew_50 ?_
      refine wq_aload_n_ok h0 kd_A_assessAnew_51 rfl ?_
      refine wq_get_ok (wq_getOK h0 hts ki_A hown hK (ci := 6) rfl 4 (Nat.le_of_ble_eq_true rfl) kw_276 rfl) kd_A_assessAnew_52 ?_
      refine wq_iload_n_ok h0 kd_A_assessAnew_55 rfl ?_
      refine wq_iald_ok h0 hK kd_A_assessAnew_56 ?_
      refine wq_aload_n_ok h0 kd_A_assessAnew_57 rfl ?_
      refine wq_get_ok (wq_getOK h0 hts ki_A hown hK (ci := 6) rfl 3 (Nat.le_of_ble_eq_true rfl) kw_275 rfl) kd_A_assessAnew_58 ?_
      refine wq_get_ok (wq_getOK h0 hts ki_D hown hK (ci := 5) rfl 9 (Nat.le_of_ble_eq_true rfl) kw_216 rfl) kd_A_assessAnew_61 ?_
      refine wq_iload_n_ok h0 kd_A_assessAnew_64 rfl ?_
      refine wq_iald_ok h0 hK kd_A_assessAnew_65 ?_
      refine wq_isub_ok h0 kd_A_assessAnew_66 ?_
      refine wq_call_ok hA (wq_runV (ci := 6) ⟨h0.1, h0.2, hml, hown, hts⟩ (kv_A_giveBack hl) ⟨(wq_cB hts kw_G kw_912 kw_7 kw_909 ⟨by decide +kernel, by decide +kernel, by decide +kernel⟩ rfl rfl ⟨Nat.le_of_ble_eq_true rfl, Nat.le_of_ble_eq_true rfl⟩), hts _ kw_911, hts _ kw_s25⟩ rfl rfl hK hZ hN hA kd_A_assessAnew_67) (wq_xout_ok hnt hlk) ?_
      refine wq_iinc_ok h0 kd_A_assessAnew_70 (by decide +kernel) (Nat.le_of_ble_eq_true rfl) ?_
      refine wq_goto_ok (tgt := 6) h0 kd_A_assessAnew_73 (by decide) ?_
      exact wq_can_ok (hKc 6 (by decide))
    have hb_155 : wq_Snd p l e ({ frames := 5, cells := 0, slots := 0, locals := 124 } : Room) s m args below meth c 4 cs D kz_cl A (wq_G0 ad w) (wq_Q cs D kz_cl A (wq_G0 ad w) rt xt below s 0 0) 155 (kt_A_assessAnew_155 rt xt K) := by
      refine wq_aload_n_ok h0 kd_A_assessAnew_155 rfl ?_
      refine wq_iload_n_ok h0 kd_A_assessAnew_156 rfl ?_
      refine wq_call_ok hA (wq_runV (ci := 6) ⟨h0.1, h0.2, hml, hown, hts⟩ (kv_A_findDuties hl) ⟨(wq_cB hts kw_G kw_822 kw_7 kw_819 ⟨by decide +kernel, by decide +kernel, by decide +kernel⟩ rfl rfl ⟨Nat.le_of_ble_eq_true rfl, Nat.le_of_ble_eq_true rfl⟩), hts _ kw_821, hts _ kw_s20⟩ rfl rfl hK hZ hN hA kd_A_assessAnew_157) (wq_xout_ok hnt hlk) ?_
      exact wq_vreturn_ok h0 hr hlk kd_A_assessAnew_160
    have hb_135 : wq_Snd p l e ({ frames := 5, cells := 0, slots := 0, locals := 124 } : Room) s m args below meth c 4 cs D kz_cl A (wq_G0 ad w) (wq_Q cs D kz_cl A (wq_G0 ad w) rt xt below s 0 0) 135 (kt_A_assessAnew_135 rt xt K) := by
      refine wq_aload_n_ok h0 kd_A_assessAnew_135 rfl ?_
      refine wq_iload_n_ok h0 kd_A_assessAnew_136 rfl ?_
      refine wq_aload_n_ok h0 kd_A_assessAnew_137 rfl ?_
      refine wq_get_ok (wq_getOK h0 hts ki_A hown hK (ci := 6) rfl 3 (Nat.le_of_ble_eq_true rfl) kw_275 rfl) kd_A_assessAnew_138 ?_
      refine wq_get_ok (wq_getOK h0 hts ki_D hown hK (ci := 5) rfl 9 (Nat.le_of_ble_eq_true rfl) kw_216 rfl) kd_A_assessAnew_141 ?_
      refine wq_iload_n_ok h0 kd_A_assessAnew_144 rfl ?_
      refine wq_iald_ok h0 hK kd_A_assessAnew_145 ?_
      refine wq_call_ok hA (wq_runV (ci := 6) ⟨h0.1, h0.2, hml, hown, hts⟩ (kv_A_takeMore hl) ⟨(wq_cB hts kw_G kw_815 kw_7 kw_812 ⟨by decide +kernel, by decide +kernel, by decide +kernel⟩ rfl rfl ⟨Nat.le_of_ble_eq_true rfl, Nat.le_of_ble_eq_true rfl⟩), hts _ kw_814, hts _ kw_s19⟩ rfl rfl hK hZ hN hA kd_A_assessAnew_146) (wq_xout_ok hnt hlk) ?_
      refine wq_iinc_ok h0 kd_A_assessAnew_149 (by decide +kernel) (Nat.le_of_ble_eq_true rfl) ?_
      refine wq_goto_ok (tgt := 78) h0 kd_A_assessAnew_152 (by decide) ?_
      exact wq_can_ok (hKc 78 (by decide))
    have hb_78 : wq_Snd p l e ({ frames := 5, cells := 0, slots := 0, locals := 124 } : Room) s m args below meth c 4 cs D kz_cl A (wq_G0 ad w) (wq_Q cs D kz_cl A (wq_G0 ad w) rt xt below s 0 0) 78 (kh_A_assessAnew_78 rt xt K) := by
      refine wq_iload_n_ok h0 kd_A_assessAnew_78 rfl ?_
      refine wq_aload_n_ok h0 kd_A_assessAnew_79 rfl ?_
      refine wq_get_ok (wq_getOK h0 hts ki_A hown hK (ci := 6) rfl 3 (Nat.le_of_ble_eq_true rfl) kw_275 rfl) kd_A_assessAnew_80 ?_
      refine wq_get_ok (wq_getOK h0 hts ki_D hown hK (ci := 5) rfl 3 (Nat.le_of_ble_eq_true rfl) kw_201 rfl) kd_A_assessAnew_83 ?_
      refine wq_iload_n_ok h0 kd_A_assessAnew_86 rfl ?_
      refine wq_iald_ok h0 hK kd_A_assessAnew_87 ?_
      refine wq_icmp_ge_ok (tgt := 155) h0 kd_A_assessAnew_88 (by decide) ?_ ?_
      · exact hb_155
      refine wq_iload_n_ok h0 kd_A_assessAnew_91 rfl ?_
      refine wq_iload_n_ok h0 kd_A_assessAnew_92 rfl ?_
      refine wq_call_ok hA (wq_runS ⟨h0.1, h0.2, hml, hown, hts⟩ (kv_D_rowOf hl) ⟨(wq_cB hts kw_G kw_724 kw_6 kw_753 ⟨by decide +kernel, by decide +kernel, by decide +kernel⟩ rfl rfl ⟨Nat.le_of_ble_eq_true rfl, Nat.le_of_ble_eq_true rfl⟩), hts _ kw_723⟩ hK hZ hN hA kd_A_assessAnew_93) (wq_xout_ok hnt hlk) ?_
      refine wq_istore_n_ok h0 kd_A_assessAnew_96 rfl (Nat.le_of_ble_eq_true rfl) ?_
      refine wq_aload_n_ok h0 kd_A_assessAnew_97 rfl ?_
      refine wq_get_ok (wq_getOK h0 hts ki_A hown hK (ci := 6) rfl 8 (Nat.le_of_ble_eq_true rfl) kw_282 rfl) kd_A_assessAnew_98 ?_
      refine wq_iload_n_ok h0 kd_A_assessAnew_101 rfl ?_
      refine wq_iald_ok h0 hK kd_A_assessAnew_102 ?_
      refine wq_aload_n_ok h0 kd_A_assessAnew_103 rfl ?_
      refine wq_get_ok (wq_getOK h0 hts ki_A hown hK (ci := 6) rfl 3 (Nat.le_of_ble_eq_true rfl) kw_275 rfl) kd_A_assessAnew_104 ?_
      refine wq_get_ok (wq_getOK h0 hts ki_D hown hK (ci := 5) rfl 13 (Nat.le_of_ble_eq_true rfl) kw_225 rfl) kd_A_assessAnew_107 ?_
      refine wq_iload_n_ok h0 kd_A_assessAnew_110 rfl ?_
      refine wq_iald_ok h0 hK kd_A_assessAnew_111 ?_
      refine wq_icmp_eq_ok (tgt := 135) h0 kd_A_assessAnew_112 (by decide) ?_ ?_
      · exact hb_135
      refine wq_aload_n_ok h0 kd_A_assessAnew_115 rfl ?_
      refine wq_iload_n_ok h0 kd_A_assessAnew_116 rfl ?_
      refine wq_aload_n_ok h0 kd_A_assessAnew_117 rfl ?_
      refine wq_get_ok (wq_getOK h0 hts ki_A hown hK (ci := 6) rfl 3 (Nat.le_of_ble_eq_true rfl) kw_275 rfl) kd_A_assessAnew_118 ?_
      refine wq_get_ok (wq_getOK h0 hts ki_D hown hK (ci := 5) rfl 13 (Nat.le_of_ble_eq_true rfl) kw_225 rfl) kd_A_assessAnew_121 ?_
      refine wq_iload_n_ok h0 kd_A_assessAnew_124 rfl ?_
      refine wq_iald_ok h0 hK kd_A_assessAnew_125 ?_
      refine wq_aload_n_ok h0 kd_A_assessAnew_126 rfl ?_
      refine wq_get_ok (wq_getOK h0 hts ki_A hown hK (ci := 6) rfl 4 (Nat.le_of_ble_eq_true rfl) kw_276 rfl) kd_A_assessAnew_127 ?_
      refine wq_iload_n_ok h0 kd_A_assessAnew_130 rfl ?_
      refine wq_iald_ok h0 hK kd_A_assessAnew_131 ?_
      refine wq_call_ok hA (wq_runV (ci := 6) ⟨h0.1, h0.2, hml, hown, hts⟩ (kv_A_giveBack hl) ⟨(wq_cB hts kw_G kw_912 kw_7 kw_909 ⟨by decide +kernel, by decide +kernel, by decide +kernel⟩ rfl rfl ⟨Nat.le_of_ble_eq_true rfl, Nat.le_of_ble_eq_true rfl⟩), hts _ kw_911, hts _ kw_s25⟩ rfl rfl hK hZ hN hA kd_A_assessAnew_132) (wq_xout_ok hnt hlk) ?_
      exact hb_135
    have hb_0 : wq_Snd p l e ({ frames := 5, cells := 0, slots := 0, locals := 124 } : Room) s m args below meth c 4 cs D kz_cl A (wq_G0 ad w) (wq_Q cs D kz_cl A (wq_G0 ad w) rt xt below s 0 0) 0 (kt_A_assessAnew_0 rt xt K) := by
      refine wq_aload_n_ok h0 kd_A_assessAnew_0 rfl ?_
      refine wq_call_ok hA (wq_runV (ci := 6) ⟨h0.1, h0.2, hml, hown, hts⟩ (kv_A_copyQuotasLeft hl) ⟨(wq_cB hts kw_G kw_808 kw_7 kw_805 ⟨by decide +kernel, by decide +kernel, by decide +kernel⟩ rfl rfl ⟨Nat.le_of_ble_eq_true rfl, Nat.le_of_ble_eq_true rfl⟩), hts _ kw_807, hts _ kw_s18⟩ rfl rfl hK hZ hN hA kd_A_assessAnew_1) (wq_xout_ok hnt hlk) ?_
      refine wq_iconst_ok h0 kd_A_assessAnew_4 (by decide +kernel) ?_
      refine wq_istore_n_ok h0 kd_A_assessAnew_5 rfl (Nat.le_of_ble_eq_true rfl) ?_
      exact wq_can_ok (hKc 6 (by decide))
    refine ⟨?_, hb_0⟩
    exact List.forall_mem_cons.mpr ⟨hb_6, List.forall_mem_cons.mpr ⟨hb_78, fun _ h => absurd h List.not_mem_nil⟩⟩
  have hun : ∀ (n pc : Nat), pc ∈ [6, 78] → wq_Snd p l e ({ frames := 5, cells := 0, slots := 0, locals := 124 } : Room) s m args below meth c 4 cs D kz_cl A (wq_G0 ad w) (wq_Q cs D kz_cl A (wq_G0 ad w) rt xt below s 0 0) pc (ku_A_assessAnew rt xt n pc) := by
    intro n
    induction n with
    | zero => intro pc _ L S w9 n1 n2 h; exact h.elim
    | succ n ih => intro pc hpc; exact (hall (ku_A_assessAnew rt xt n) ih).1 pc hpc
  exact (hall (ku_A_assessAnew rt xt 1000000000000) (hun 1000000000000)).2 _ _ _ _ _ (wq_sp_t hsp)
set_option maxRecDepth 100000 in
set_option maxHeartbeats 4000000 in
theorem kv_A_book {l : Launch} (hl : l.stackTraces = false) : wq_Vld l kz_cl ky_A_book kw_T ({ frames := 1, cells := 0, slots := 0, locals := 26 }) wq_G0 ks_A_book 0 0 := by
  refine wq_method (cc := kc_A_book) (maxL := 4) (ret := none) (by decide) kw_877 (fun _ _ => rfl) wq_sp_sz ?_
  intro p e s m args below meth c cs D ad as w rt xt hF hnt hsp
  obtain ⟨h0, hr, hts, hown, hlk, hnm, hml, hK, hZ, hN, hA⟩ := hF
  have hown : s.vm.findClass "BorderDesk$Assessor" = some m.cls := hown
  obtain ⟨A, hAe⟩ : ∃ A, A = wq_A ad w s.heap.size := ⟨_, rfl⟩
  rw [← hAe] at hZ hA ⊢
  have hall : ∀ K : Nat → wq_T, (∀ pc, pc ∈ [2] → wq_Snd p l e ({ frames := 1, cells := 0, slots := 0, locals := 26 } : Room) s m args below meth c 4 cs D kz_cl A (wq_G0 ad w) (wq_Q cs D kz_cl A (wq_G0 ad w) rt xt below s 0 0) pc (K pc)) → (∀ pc, pc ∈ [2] → wq_Snd p l e ({ frames := 1, cells := 0, slots := 0, locals := 26 } : Room) s m args below meth c 4 cs D kz_cl A (wq_G0 ad w) (wq_Q cs D kz_cl A (wq_G0 ad w) rt xt below s 0 0) pc (cond (Nat.beq pc 2) (kh_A_book_2 rt xt K) (fun _ _ _ _ _ => False))) ∧ wq_Snd p l e ({ frames := 1, cells := 0, slots := 0, locals := 26 } : Room) s m args below meth c 4 cs D kz_cl A (wq_G0 ad w) (wq_Q cs D kz_cl A (wq_G0 ad w) rt xt below s 0 0) 0 (kt_A_book_0 rt xt K) := by
    intro K hKc
    have hb_72 : wq_Snd p l e ({ frames := 1, cells := 0, slots := 0, locals := 26 } : Room) s m args below meth c 4 cs D kz_cl A (wq_G0 ad w) (wq_Q cs D kz_cl A (wq_G0 ad w) rt xt below s 0 0) 72 (kt_A_book_72 rt xt K) := by
      refine wq_aload_n_ok h0 kd_A_book_72 rfl ?_
      refine wq_get_ok (wq_getOK h0 hts ki_A hown hK (ci := 6) rfl 9 (Nat.le_of_ble_eq_true rfl) kw_283 rfl) kd_A_book_73 ?_
      refine wq_iconst_ok h0 kd_A_book_76 (by decide +kernel) ?_
      refine wq_aload_n_ok h0 kd_A_book_77 rfl ?_
      refine wq_get_ok (wq_getOK h0 hts ki_A hown hK (ci := 6) rfl 2 (Nat.le_of_ble_eq_true rfl) kw_274 rfl) kd_A_book_78 ?_
      refine wq_get_ok (wq_getOK h0 hts ki_Q hown hK (ci := 3) rfl 2 (Nat.le_of_ble_eq_true rfl) kw_132 rfl) kd_A_book_81 ?_
      refine wq_iconst_ok h0 kd_A_book_84 (by decide +kernel) ?_
      refine wq_bipush_ok h0 kd_A_book_85 (by decide +kernel) ?_
      refine wq_cpy_ok h0 hml hown (hts _ kw_809) (hts _ kw_811) (hts _ kw_810) (hts _ kw_19) hK (Nat.le_of_ble_eq_true rfl) (Nat.le_of_ble_eq_true rfl) kd_A_book_87 ?_
      exact wq_vreturn_ok h0 hr hlk kd_A_book_90
    have hb_2 : wq_Snd p l e ({ frames := 1, cells := 0, slots := 0, locals := 26 } : Room) s m args below meth c 4 cs D kz_cl A (wq_G0 ad w) (wq_Q cs D kz_cl A (wq_G0 ad w) rt xt below s 0 0) 2 (kh_A_book_2 rt xt K) := by
      refine wq_iload_n_ok h0 kd_A_book_2 rfl ?_
      refine wq_aload_n_ok h0 kd_A_book_3 rfl ?_
      refine wq_get_ok (wq_getOK h0 hts ki_A hown hK (ci := 6) rfl 3 (Nat.le_of_ble_eq_true rfl) kw_275 rfl) kd_A_book_4 ?_
      refine wq_get_ok (wq_getOK h0 hts ki_D hown hK (ci := 5) rfl 3 (Nat.le_of_ble_eq_true rfl) kw_201 rfl) kd_A_book_7 ?_
      refine wq_iload_n_ok h0 kd_A_book_10 rfl ?_
      refine wq_iald_ok h0 hK kd_A_book_11 ?_
      refine wq_icmp_ge_ok (tgt := 72) h0 kd_A_book_12 (by decide) ?_ ?_
      · exact hb_72
      refine wq_iload_n_ok h0 kd_A_book_15 rfl ?_
      refine wq_iload_n_ok h0 kd_A_book_16 rfl ?_
      refine wq_call_ok hA (wq_runS ⟨h0.1, h0.2, hml, hown, hts⟩ (kv_D_rowOf hl) ⟨(wq_cB hts kw_G kw_724 kw_6 kw_753 ⟨by decide +kernel, by decide +kernel, by decide +kernel⟩ rfl rfl ⟨Nat.le_of_ble_eq_true rfl, Nat.le_of_ble_eq_true rfl⟩), hts _ kw_723⟩ hK hZ hN hA kd_A_book_17) (wq_xout_ok hnt hlk) ?_
      refine wq_istore_n_ok h0 kd_A_book_20 rfl (Nat.le_of_ble_eq_true rfl) ?_
      refine wq_aload_n_ok h0 kd_A_book_21 rfl ?_
      refine wq_get_ok (wq_getOK h0 hts ki_A hown hK (ci := 6) rfl 3 (Nat.le_of_ble_eq_true rfl) kw_275 rfl) kd_A_book_22 ?_
      refine wq_get_ok (wq_getOK h0 hts ki_D hown hK (ci := 5) rfl 13 (Nat.le_of_ble_eq_true rfl) kw_225 rfl) kd_A_book_25 ?_
      refine wq_iload_n_ok h0 kd_A_book_28 rfl ?_
      refine wq_aload_n_ok h0 kd_A_book_29 rfl ?_
      refine wq_get_ok (wq_getOK h0 hts ki_A hown hK (ci := 6) rfl 8 (Nat.le_of_ble_eq_true rfl) kw_282 rfl) kd_A_book_30 ?_
      refine wq_iload_n_ok h0 kd_A_book_33 rfl ?_
      refine wq_iald_ok h0 hK kd_A_book_34 ?_
      refine wq_iast_ok h0 hK kd_A_book_35 ?_
      refine wq_aload_n_ok h0 kd_A_book_36 rfl ?_
      refine wq_get_ok (wq_getOK h0 hts ki_A hown hK (ci := 6) rfl 3 (Nat.le_of_ble_eq_true rfl) kw_275 rfl) kd_A_book_37 ?_
      refine wq_get_ok (wq_getOK h0 hts ki_D hown hK (ci := 5) rfl 14 (Nat.le_of_ble_eq_true rfl) kw_227 rfl) kd_A_book_40 ?_
      refine wq_iload_n_ok h0 kd_A_book_43 rfl ?_
      refine wq_aload_n_ok h0 kd_A_book_44 rfl ?_
      refine wq_get_ok (wq_getOK h0 hts ki_A hown hK (ci := 6) rfl 4 (Nat.le_of_ble_eq_true rfl) kw_276 rfl) kd_A_book_45 ?_
      refine wq_iload_n_ok h0 kd_A_book_48 rfl ?_
      refine wq_iald_ok h0 hK kd_A_book_49 ?_
      refine wq_iast_ok h0 hK kd_A_book_50 ?_
      refine wq_aload_n_ok h0 kd_A_book_51 rfl ?_
      refine wq_get_ok (wq_getOK h0 hts ki_A hown hK (ci := 6) rfl 3 (Nat.le_of_ble_eq_true rfl) kw_275 rfl) kd_A_book_52 ?_
      refine wq_get_ok (wq_getOK h0 hts ki_D hown hK (ci := 5) rfl 15 (Nat.le_of_ble_eq_true rfl) kw_230 rfl) kd_A_book_55 ?_
      refine wq_iload_n_ok h0 kd_A_book_58 rfl ?_
      refine wq_aload_n_ok h0 kd_A_book_59 rfl ?_
      refine wq_get_ok (wq_getOK h0 hts ki_A hown hK (ci := 6) rfl 5 (Nat.le_of_ble_eq_true rfl) kw_278 rfl) kd_A_book_60 ?_
      refine wq_iload_n_ok h0 kd_A_book_63 rfl ?_
      refine wq_lald_ok h0 hK kd_A_book_64 ?_
      refine wq_last_ok h0 hK kd_A_book_65 ?_
      refine wq_iinc_ok h0 kd_A_book_66 (by decide +kernel) (Nat.le_of_ble_eq_true rfl) ?_
      refine wq_goto_ok (tgt := 2) h0 kd_A_book_69 (by decide) ?_
      exact wq_can_ok (hKc 2 (by decide))
    have hb_0 : wq_Snd p l e ({ frames := 1, cells := 0, slots := 0, locals := 26 } : Room) s m args below meth c 4 cs D kz_cl A (wq_G0 ad w) (wq_Q cs D kz_cl A (wq_G0 ad w) rt xt below s 0 0) 0 (kt_A_book_0 rt xt K) := by
      refine wq_iconst_ok h0 kd_A_book_0 (by decide +kernel) ?_
      refine wq_istore_n_ok h0 kd_A_book_1 rfl (Nat.le_of_ble_eq_true rfl) ?_
      exact wq_can_ok (hKc 2 (by decide))
    refine ⟨?_, hb_0⟩
    exact List.forall_mem_cons.mpr ⟨hb_2, fun _ h => absurd h List.not_mem_nil⟩
  have hun : ∀ (n pc : Nat), pc ∈ [2] → wq_Snd p l e ({ frames := 1, cells := 0, slots := 0, locals := 26 } : Room) s m args below meth c 4 cs D kz_cl A (wq_G0 ad w) (wq_Q cs D kz_cl A (wq_G0 ad w) rt xt below s 0 0) pc (ku_A_book rt xt n pc) := by
    intro n
    induction n with
    | zero => intro pc _ L S w9 n1 n2 h; exact h.elim
    | succ n ih => intro pc hpc; exact (hall (ku_A_book rt xt n) ih).1 pc hpc
  exact (hall (ku_A_book rt xt 1000000000000) (hun 1000000000000)).2 _ _ _ _ _ (wq_sp_t hsp)
set_option maxRecDepth 100000 in
set_option maxHeartbeats 4000000 in
theorem kv_A_canAssess {l : Launch} (hl : l.stackTraces = false) : wq_Vld l kz_cl ky_A_canAssess kw_T ({ frames := 4, cells := 0, slots := 0, locals := 94 }) wq_G0 ks_A_canAssess 0 0 := by
  refine wq_method (cc := kc_A_canAssess) (maxL := 8) (ret := (some .boolean)) (by decide) kw_771 (fun _ _ => rfl) wq_sp_sz ?_
  intro p e s m args below meth c cs D ad as w rt xt hF hnt hsp
  obtain ⟨h0, hr, hts, hown, hlk, hnm, hml, hK, hZ, hN, hA⟩ := hF
  have hown : s.vm.findClass "BorderDesk$Assessor" = some m.cls := hown
  obtain ⟨A, hAe⟩ : ∃ A, A = wq_A ad w s.heap.size := ⟨_, rfl⟩
  rw [← hAe] at hZ hA ⊢
  have hall : ∀ K : Nat → wq_T, (∀ pc, pc ∈ [23] → wq_Snd p l e ({ frames := 4, cells := 0, slots := 0, locals := 94 } : Room) s m args below meth c 8 cs D kz_cl A (wq_G0 ad w) (wq_Q cs D kz_cl A (wq_G0 ad w) rt xt below s 0 0) pc (K pc)) → (∀ pc, pc ∈ [23] → wq_Snd p l e ({ frames := 4, cells := 0, slots := 0, locals := 94 } : Room) s m args below meth c 8 cs D kz_cl A (wq_G0 ad w) (wq_Q cs D kz_cl A (wq_G0 ad w) rt xt below s 0 0) pc (cond (Nat.beq pc 23) (kh_A_canAssess_23 rt xt K) (fun _ _ _ _ _ => False))) ∧ wq_Snd p l e ({ frames := 4, cells := 0, slots := 0, locals := 94 } : Room) s m args below meth c 8 cs D kz_cl A (wq_G0 ad w) (wq_Q cs D kz_cl A (wq_G0 ad w) rt xt below s 0 0) 0 (kt_A_canAssess_0 rt xt K) := by
    intro K hKc
    have hb_144 : wq_Snd p l e ({ frames := 4, cells := 0, slots := 0, locals := 94 } : Room) s m args below meth c 8 cs D kz_cl A (wq_G0 ad w) (wq_Q cs D kz_cl A (wq_G0 ad w) rt xt below s 0 0) 144 (kt_A_canAssess_144 rt xt K) := by
      exact wq_zreturn_ok h0 hr hlk kd_A_canAssess_144
    have hb_143 : wq_Snd p l e ({ frames := 4, cells := 0, slots := 0, locals := 94 } : Room) s m args below meth c 8 cs D kz_cl A (wq_G0 ad w) (wq_Q cs D kz_cl A (wq_G0 ad w) rt xt below s 0 0) 143 (kt_A_canAssess_143 rt xt K) := by
      refine wq_iconst_ok h0 kd_A_canAssess_143 (by decide +kernel) ?_
      exact hb_144
    have hb_135 : wq_Snd p l e ({ frames := 4, cells := 0, slots := 0, locals := 94 } : Room) s m args below meth c 8 cs D kz_cl A (wq_G0 ad w) (wq_Q cs D kz_cl A (wq_G0 ad w) rt xt below s 0 0) 135 (kt_A_canAssess_135 rt xt K) := by
      refine wq_iload_n_ok h0 kd_A_canAssess_135 rfl ?_
      refine wq_if_le_ok (tgt := 143) h0 kd_A_canAssess_136 (by decide) ?_ ?_
      · exact hb_143
      refine wq_iconst_ok h0 kd_A_canAssess_139 (by decide +kernel) ?_
      refine wq_goto_ok (tgt := 144) h0 kd_A_canAssess_140 (by decide) ?_
      exact hb_144
    have hb_110 : wq_Snd p l e ({ frames := 4, cells := 0, slots := 0, locals := 94 } : Room) s m args below meth c 8 cs D kz_cl A (wq_G0 ad w) (wq_Q cs D kz_cl A (wq_G0 ad w) rt xt below s 0 0) 110 (kt_A_canAssess_110 rt xt K) := by
      refine wq_aload_n_ok h0 kd_A_canAssess_110 rfl ?_
      refine wq_get_ok (wq_getOK h0 hts ki_A hown hK (ci := 6) rfl 8 (Nat.le_of_ble_eq_true rfl) kw_282 rfl) kd_A_canAssess_111 ?_
      refine wq_iload_ok h0 kd_A_canAssess_114 ?_
      refine wq_aload_n_ok h0 kd_A_canAssess_116 rfl ?_
      refine wq_get_ok (wq_getOK h0 hts ki_A hown hK (ci := 6) rfl 2 (Nat.le_of_ble_eq_true rfl) kw_274 rfl) kd_A_canAssess_117 ?_
      refine wq_iload_ok h0 kd_A_canAssess_120 ?_
      refine wq_iload_ok h0 kd_A_canAssess_122 ?_
      refine wq_iload_n_ok h0 kd_A_canAssess_124 rfl ?_
      refine wq_call_ok hA (wq_runV (ci := 3) ⟨h0.1, h0.2, hml, hown, hts⟩ (kv_Q_find hl) ⟨(wq_cB hts kw_G kw_777 kw_4 kw_774 ⟨by decide +kernel, by decide +kernel, by decide +kernel⟩ rfl rfl ⟨Nat.le_of_ble_eq_true rfl, Nat.le_of_ble_eq_true rfl⟩), hts _ kw_775, hts _ kw_776⟩ rfl rfl hK hZ hN hA kd_A_canAssess_125) (wq_xout_ok hnt hlk) ?_
      refine wq_iast_ok h0 hK kd_A_canAssess_128 ?_
      refine wq_iinc_ok h0 kd_A_canAssess_129 (by decide +kernel) (Nat.le_of_ble_eq_true rfl) ?_
      refine wq_goto_ok (tgt := 23) h0 kd_A_canAssess_132 (by decide) ?_
      exact wq_can_ok (hKc 23 (by decide))
    have hb_96 : wq_Snd p l e ({ frames := 4, cells := 0, slots := 0, locals := 94 } : Room) s m args below meth c 8 cs D kz_cl A (wq_G0 ad w) (wq_Q cs D kz_cl A (wq_G0 ad w) rt xt below s 0 0) 96 (kt_A_canAssess_96 rt xt K) := by
      refine wq_iast_ok h0 hK kd_A_canAssess_96 ?_
      refine wq_aload_n_ok h0 kd_A_canAssess_97 rfl ?_
      refine wq_get_ok (wq_getOK h0 hts ki_A hown hK (ci := 6) rfl 7 (Nat.le_of_ble_eq_true rfl) kw_281 rfl) kd_A_canAssess_98 ?_
      refine wq_iload_ok h0 kd_A_canAssess_101 ?_
      refine wq_iald_ok h0 hK kd_A_canAssess_103 ?_
      refine wq_iconst_ok h0 kd_A_canAssess_104 (by decide +kernel) ?_
      refine wq_icmp_ne_ok (tgt := 110) h0 kd_A_canAssess_105 (by decide) ?_ ?_
      · exact hb_110
      refine wq_iconst_ok h0 kd_A_canAssess_108 (by decide +kernel) ?_
      exact wq_zreturn_ok h0 hr hlk kd_A_canAssess_109
    have hb_84 : wq_Snd p l e ({ frames := 4, cells := 0, slots := 0, locals := 94 } : Room) s m args below meth c 8 cs D kz_cl A (wq_G0 ad w) (wq_Q cs D kz_cl A (wq_G0 ad w) rt xt below s 0 0) 84 (kt_A_canAssess_84 rt xt K) := by
      refine wq_aload_n_ok h0 kd_A_canAssess_84 rfl ?_
      refine wq_get_ok (wq_getOK h0 hts ki_A hown hK (ci := 6) rfl 1 (Nat.le_of_ble_eq_true rfl) kw_273 rfl) kd_A_canAssess_85 ?_
      refine wq_iload_ok h0 kd_A_canAssess_88 ?_
      refine wq_iload_ok h0 kd_A_canAssess_90 ?_
      refine wq_iload_n_ok h0 kd_A_canAssess_92 rfl ?_
      refine wq_call_ok hA (wq_runV (ci := 2) ⟨h0.1, h0.2, hml, hown, hts⟩ (kv_R_find hl) ⟨(wq_cB hts kw_G kw_593 kw_3 kw_773 ⟨by decide +kernel, by decide +kernel, by decide +kernel⟩ rfl rfl ⟨Nat.le_of_ble_eq_true rfl, Nat.le_of_ble_eq_true rfl⟩), hts _ kw_591, hts _ kw_592⟩ rfl rfl hK hZ hN hA kd_A_canAssess_93) (wq_xout_ok hnt hlk) ?_
      exact hb_96
    have hb_23 : wq_Snd p l e ({ frames := 4, cells := 0, slots := 0, locals := 94 } : Room) s m args below meth c 8 cs D kz_cl A (wq_G0 ad w) (wq_Q cs D kz_cl A (wq_G0 ad w) rt xt below s 0 0) 23 (kh_A_canAssess_23 rt xt K) := by
      refine wq_iload_ok h0 kd_A_canAssess_23 ?_
      refine wq_iload_n_ok h0 kd_A_canAssess_25 rfl ?_
      refine wq_icmp_ge_ok (tgt := 135) h0 kd_A_canAssess_26 (by decide) ?_ ?_
      · exact hb_135
      refine wq_iload_n_ok h0 kd_A_canAssess_29 rfl ?_
      refine wq_iload_ok h0 kd_A_canAssess_30 ?_
      refine wq_call_ok hA (wq_runS ⟨h0.1, h0.2, hml, hown, hts⟩ (kv_D_rowOf hl) ⟨(wq_cB hts kw_G kw_724 kw_6 kw_753 ⟨by decide +kernel, by decide +kernel, by decide +kernel⟩ rfl rfl ⟨Nat.le_of_ble_eq_true rfl, Nat.le_of_ble_eq_true rfl⟩), hts _ kw_723⟩ hK hZ hN hA kd_A_canAssess_32) (wq_xout_ok hnt hlk) ?_
      refine wq_istore_ok h0 kd_A_canAssess_35 (Nat.le_of_ble_eq_true rfl) ?_
      refine wq_aload_n_ok h0 kd_A_canAssess_37 rfl ?_
      refine wq_get_ok (wq_getOK h0 hts ki_A hown hK (ci := 6) rfl 3 (Nat.le_of_ble_eq_true rfl) kw_275 rfl) kd_A_canAssess_38 ?_
      refine wq_get_ok (wq_getOK h0 hts ki_D hown hK (ci := 5) rfl 8 (Nat.le_of_ble_eq_true rfl) kw_214 rfl) kd_A_canAssess_41 ?_
      refine wq_iload_ok h0 kd_A_canAssess_44 ?_
      refine wq_iald_ok h0 hK kd_A_canAssess_46 ?_
      refine wq_istore_ok h0 kd_A_canAssess_47 (Nat.le_of_ble_eq_true rfl) ?_
      refine wq_aload_n_ok h0 kd_A_canAssess_49 rfl ?_
      refine wq_get_ok (wq_getOK h0 hts ki_A hown hK (ci := 6) rfl 0 (Nat.le_of_ble_eq_true rfl) kw_272 rfl) kd_A_canAssess_50 ?_
      refine wq_aload_n_ok h0 kd_A_canAssess_53 rfl ?_
      refine wq_get_ok (wq_getOK h0 hts ki_A hown hK (ci := 6) rfl 3 (Nat.le_of_ble_eq_true rfl) kw_275 rfl) kd_A_canAssess_54 ?_
      refine wq_get_ok (wq_getOK h0 hts ki_D hown hK (ci := 5) rfl 7 (Nat.le_of_ble_eq_true rfl) kw_211 rfl) kd_A_canAssess_57 ?_
      refine wq_iload_ok h0 kd_A_canAssess_60 ?_
      refine wq_iald_ok h0 hK kd_A_canAssess_62 ?_
      refine wq_call_ok hA (wq_runV (ci := 1) ⟨h0.1, h0.2, hml, hown, hts⟩ (kv_T_classOf hl) ⟨(wq_cB hts kw_G kw_542 kw_2 kw_772 ⟨by decide +kernel, by decide +kernel, by decide +kernel⟩ rfl rfl ⟨Nat.le_of_ble_eq_true rfl, Nat.le_of_ble_eq_true rfl⟩), hts _ kw_540, hts _ kw_541⟩ rfl rfl hK hZ hN hA kd_A_canAssess_63) (wq_xout_ok hnt hlk) ?_
      refine wq_istore_ok h0 kd_A_canAssess_66 (Nat.le_of_ble_eq_true rfl) ?_
      refine wq_aload_n_ok h0 kd_A_canAssess_68 rfl ?_
      refine wq_get_ok (wq_getOK h0 hts ki_A hown hK (ci := 6) rfl 7 (Nat.le_of_ble_eq_true rfl) kw_281 rfl) kd_A_canAssess_69 ?_
      refine wq_iload_ok h0 kd_A_canAssess_72 ?_
      refine wq_iload_ok h0 kd_A_canAssess_74 ?_
      refine wq_iconst_ok h0 kd_A_canAssess_76 (by decide +kernel) ?_
      refine wq_icmp_ne_ok (tgt := 84) h0 kd_A_canAssess_77 (by decide) ?_ ?_
      · exact hb_84
      refine wq_iconst_ok h0 kd_A_canAssess_80 (by decide +kernel) ?_
      refine wq_goto_ok (tgt := 96) h0 kd_A_canAssess_81 (by decide) ?_
      exact hb_96
    have hb_0 : wq_Snd p l e ({ frames := 4, cells := 0, slots := 0, locals := 94 } : Room) s m args below meth c 8 cs D kz_cl A (wq_G0 ad w) (wq_Q cs D kz_cl A (wq_G0 ad w) rt xt below s 0 0) 0 (kt_A_canAssess_0 rt xt K) := by
      refine wq_aload_n_ok h0 kd_A_canAssess_0 rfl ?_
      refine wq_get_ok (wq_getOK h0 hts ki_A hown hK (ci := 6) rfl 3 (Nat.le_of_ble_eq_true rfl) kw_275 rfl) kd_A_canAssess_1 ?_
      refine wq_get_ok (wq_getOK h0 hts ki_D hown hK (ci := 5) rfl 3 (Nat.le_of_ble_eq_true rfl) kw_201 rfl) kd_A_canAssess_4 ?_
      refine wq_iload_n_ok h0 kd_A_canAssess_7 rfl ?_
      refine wq_iald_ok h0 hK kd_A_canAssess_8 ?_
      refine wq_istore_n_ok h0 kd_A_canAssess_9 rfl (Nat.le_of_ble_eq_true rfl) ?_
      refine wq_aload_n_ok h0 kd_A_canAssess_10 rfl ?_
      refine wq_get_ok (wq_getOK h0 hts ki_A hown hK (ci := 6) rfl 3 (Nat.le_of_ble_eq_true rfl) kw_275 rfl) kd_A_canAssess_11 ?_
      refine wq_get_ok (wq_getOK h0 hts ki_D hown hK (ci := 5) rfl 1 (Nat.le_of_ble_eq_true rfl) kw_198 rfl) kd_A_canAssess_14 ?_
      refine wq_iload_n_ok h0 kd_A_canAssess_17 rfl ?_
      refine wq_iald_ok h0 hK kd_A_canAssess_18 ?_
      refine wq_istore_n_ok h0 kd_A_canAssess_19 rfl (Nat.le_of_ble_eq_true rfl) ?_
      refine wq_iconst_ok h0 kd_A_canAssess_20 (by decide +kernel) ?_
      refine wq_istore_ok h0 kd_A_canAssess_21 (Nat.le_of_ble_eq_true rfl) ?_
      exact wq_can_ok (hKc 23 (by decide))
    refine ⟨?_, hb_0⟩
    exact List.forall_mem_cons.mpr ⟨hb_23, fun _ h => absurd h List.not_mem_nil⟩
  have hun : ∀ (n pc : Nat), pc ∈ [23] → wq_Snd p l e ({ frames := 4, cells := 0, slots := 0, locals := 94 } : Room) s m args below meth c 8 cs D kz_cl A (wq_G0 ad w) (wq_Q cs D kz_cl A (wq_G0 ad w) rt xt below s 0 0) pc (ku_A_canAssess rt xt n pc) := by
    intro n
    induction n with
    | zero => intro pc _ L S w9 n1 n2 h; exact h.elim
    | succ n ih => intro pc hpc; exact (hall (ku_A_canAssess rt xt n) ih).1 pc hpc
  exact (hall (ku_A_canAssess rt xt 1000000000000) (hun 1000000000000)).2 _ _ _ _ _ (wq_sp_t hsp)
set_option maxRecDepth 100000 in
set_option maxHeartbeats 4000000 in
theorem kv_B_makeLots {l : Launch} (hl : l.stackTraces = false) : wq_Vld l kz_cl ky_B_makeLots kw_T ({ frames := 1, cells := 0, slots := 0, locals := 27 }) wq_G0 ks_B_makeLots 0 0 := by
  refine wq_method (cc := kc_B_makeLots) (maxL := 7) (ret := none) (by decide) kw_881 (fun _ _ => rfl) wq_sp_sz ?_
  intro p e s m args below meth c cs D ad as w rt xt hF hnt hsp
  obtain ⟨h0, hr, hts, hown, hlk, hnm, hml, hK, hZ, hN, hA⟩ := hF
  have hown : s.vm.findClass "BorderDesk" = some m.cls := hown
  obtain ⟨A, hAe⟩ : ∃ A, A = wq_A ad w s.heap.size := ⟨_, rfl⟩
  rw [← hAe] at hZ hA ⊢
  have hall : ∀ K : Nat → wq_T, (∀ pc, pc ∈ [18] → wq_Snd p l e ({ frames := 1, cells := 0, slots := 0, locals := 27 } : Room) s m args below meth c 7 cs D kz_cl A (wq_G0 ad w) (wq_Q cs D kz_cl A (wq_G0 ad w) rt xt below s 0 0) pc (K pc)) → (∀ pc, pc ∈ [18] → wq_Snd p l e ({ frames := 1, cells := 0, slots := 0, locals := 27 } : Room) s m args below meth c 7 cs D kz_cl A (wq_G0 ad w) (wq_Q cs D kz_cl A (wq_G0 ad w) rt xt below s 0 0) pc (cond (Nat.beq pc 18) (kh_B_makeLots_18 rt xt K) (fun _ _ _ _ _ => False))) ∧ wq_Snd p l e ({ frames := 1, cells := 0, slots := 0, locals := 27 } : Room) s m args below meth c 7 cs D kz_cl A (wq_G0 ad w) (wq_Q cs D kz_cl A (wq_G0 ad w) rt xt below s 0 0) 0 (kt_B_makeLots_0 rt xt K) := by
    intro K hKc
    have hb_115 : wq_Snd p l e ({ frames := 1, cells := 0, slots := 0, locals := 27 } : Room) s m args below meth c 7 cs D kz_cl A (wq_G0 ad w) (wq_Q cs D kz_cl A (wq_G0 ad w) rt xt below s 0 0) 115 (kt_B_makeLots_115 rt xt K) := by
      exact wq_vreturn_ok h0 hr hlk kd_B_makeLots_115
    have hb_109 : wq_Snd p l e ({ frames := 1, cells := 0, slots := 0, locals := 27 } : Room) s m args below meth c 7 cs D kz_cl A (wq_G0 ad w) (wq_Q cs D kz_cl A (wq_G0 ad w) rt xt below s 0 0) 109 (kt_B_makeLots_109 rt xt K) := by
      refine wq_iinc_ok h0 kd_B_makeLots_109 (by decide +kernel) (Nat.le_of_ble_eq_true rfl) ?_
      refine wq_goto_ok (tgt := 18) h0 kd_B_makeLots_112 (by decide) ?_
      exact wq_can_ok (hKc 18 (by decide))
    have hb_18 : wq_Snd p l e ({ frames := 1, cells := 0, slots := 0, locals := 27 } : Room) s m args below meth c 7 cs D kz_cl A (wq_G0 ad w) (wq_Q cs D kz_cl A (wq_G0 ad w) rt xt below s 0 0) 18 (kh_B_makeLots_18 rt xt K) := by
      refine wq_iload_n_ok h0 kd_B_makeLots_18 rfl ?_
      refine wq_aload_n_ok h0 kd_B_makeLots_19 rfl ?_
      refine wq_get_ok (wq_getOK h0 hts ki_B hown hK (ci := 0) rfl 4 (Nat.le_of_ble_eq_true rfl) kw_374 rfl) kd_B_makeLots_20 ?_
      refine wq_get_ok (wq_getOK h0 hts ki_D hown hK (ci := 5) rfl 3 (Nat.le_of_ble_eq_true rfl) kw_202 rfl) kd_B_makeLots_23 ?_
      refine wq_iload_n_ok h0 kd_B_makeLots_26 rfl ?_
      refine wq_iald_ok h0 hK kd_B_makeLots_27 ?_
      refine wq_icmp_ge_ok (tgt := 115) h0 kd_B_makeLots_28 (by decide) ?_ ?_
      · exact hb_115
      refine wq_iload_n_ok h0 kd_B_makeLots_31 rfl ?_
      refine wq_iload_n_ok h0 kd_B_makeLots_32 rfl ?_
      refine wq_call_ok hA (wq_runS ⟨h0.1, h0.2, hml, hown, hts⟩ (kv_D_rowOf hl) ⟨(wq_cB hts kw_G kw_724 kw_6 kw_767 ⟨by decide +kernel, by decide +kernel, by decide +kernel⟩ rfl rfl ⟨Nat.le_of_ble_eq_true rfl, Nat.le_of_ble_eq_true rfl⟩), hts _ kw_723⟩ hK hZ hN hA kd_B_makeLots_33) (wq_xout_ok hnt hlk) ?_
      refine wq_istore_n_ok h0 kd_B_makeLots_36 rfl (Nat.le_of_ble_eq_true rfl) ?_
      refine wq_aload_n_ok h0 kd_B_makeLots_37 rfl ?_
      refine wq_get_ok (wq_getOK h0 hts ki_B hown hK (ci := 0) rfl 4 (Nat.le_of_ble_eq_true rfl) kw_374 rfl) kd_B_makeLots_38 ?_
      refine wq_get_ok (wq_getOK h0 hts ki_D hown hK (ci := 5) rfl 12 (Nat.le_of_ble_eq_true rfl) kw_223 rfl) kd_B_makeLots_41 ?_
      refine wq_iload_n_ok h0 kd_B_makeLots_44 rfl ?_
      refine wq_zald_ok h0 hK kd_B_makeLots_45 ?_
      refine wq_istore_ok h0 kd_B_makeLots_46 (Nat.le_of_ble_eq_true rfl) ?_
      refine wq_aload_n_ok h0 kd_B_makeLots_48 rfl ?_
      refine wq_get_ok (wq_getOK h0 hts ki_B hown hK (ci := 0) rfl 4 (Nat.le_of_ble_eq_true rfl) kw_374 rfl) kd_B_makeLots_49 ?_
      refine wq_get_ok (wq_getOK h0 hts ki_D hown hK (ci := 5) rfl 15 (Nat.le_of_ble_eq_true rfl) kw_231 rfl) kd_B_makeLots_52 ?_
      refine wq_iload_n_ok h0 kd_B_makeLots_55 rfl ?_
      refine wq_lald_ok h0 hK kd_B_makeLots_56 ?_
      refine wq_lstore_ok h0 kd_B_makeLots_57 (Nat.le_of_ble_eq_true rfl) ?_
      refine wq_aload_n_ok h0 kd_B_makeLots_59 rfl ?_
      refine wq_get_ok (wq_getOK h0 hts ki_B hown hK (ci := 0) rfl 6 (Nat.le_of_ble_eq_true rfl) kw_376 rfl) kd_B_makeLots_60 ?_
      refine wq_aload_n_ok h0 kd_B_makeLots_63 rfl ?_
      refine wq_get_ok (wq_getOK h0 hts ki_B hown hK (ci := 0) rfl 4 (Nat.le_of_ble_eq_true rfl) kw_374 rfl) kd_B_makeLots_64 ?_
      refine wq_get_ok (wq_getOK h0 hts ki_D hown hK (ci := 5) rfl 7 (Nat.le_of_ble_eq_true rfl) kw_212 rfl) kd_B_makeLots_67 ?_
      refine wq_iload_n_ok h0 kd_B_makeLots_70 rfl ?_
      refine wq_iald_ok h0 hK kd_B_makeLots_71 ?_
      refine wq_aload_n_ok h0 kd_B_makeLots_72 rfl ?_
      refine wq_get_ok (wq_getOK h0 hts ki_B hown hK (ci := 0) rfl 4 (Nat.le_of_ble_eq_true rfl) kw_374 rfl) kd_B_makeLots_73 ?_
      refine wq_get_ok (wq_getOK h0 hts ki_D hown hK (ci := 5) rfl 9 (Nat.le_of_ble_eq_true rfl) kw_217 rfl) kd_B_makeLots_76 ?_
      refine wq_iload_n_ok h0 kd_B_makeLots_79 rfl ?_
      refine wq_iald_ok h0 hK kd_B_makeLots_80 ?_
      refine wq_lload_ok h0 kd_B_makeLots_81 ?_
      refine wq_iload_ok h0 kd_B_makeLots_83 ?_
      refine wq_iconst_ok h0 kd_B_makeLots_85 (by decide +kernel) ?_
      refine wq_call_ok hA (wq_runV (ci := 7) ⟨h0.1, h0.2, hml, hown, hts⟩ (kv_L_add hl) ⟨(wq_cB hts kw_G kw_885 kw_8 kw_882 ⟨by decide +kernel, by decide +kernel, by decide +kernel⟩ rfl rfl ⟨Nat.le_of_ble_eq_true rfl, Nat.le_of_ble_eq_true rfl⟩), hts _ kw_883, hts _ kw_884⟩ rfl rfl hK hZ hN hA kd_B_makeLots_86) (wq_xout_ok hnt hlk) ?_
      refine wq_pop_ok h0 kd_B_makeLots_89 ?_
      refine wq_iload_ok h0 kd_B_makeLots_90 ?_
      refine wq_if_ne_ok (tgt := 109) h0 kd_B_makeLots_92 (by decide) ?_ ?_
      · exact hb_109
      refine wq_aload_n_ok h0 kd_B_makeLots_95 rfl ?_
      refine wq_get_ok (wq_getOK h0 hts ki_B hown hK (ci := 0) rfl 7 (Nat.le_of_ble_eq_true rfl) kw_377 rfl) kd_B_makeLots_96 ?_
      refine wq_dup_ok h0 kd_B_makeLots_99 ?_
      refine wq_get_ok (wq_getOK h0 hts ki_G hown hK (ci := 8) rfl 0 (Nat.le_of_ble_eq_true rfl) kw_351 rfl) kd_B_makeLots_100 ?_
      refine wq_lload_ok h0 kd_B_makeLots_103 ?_
      refine wq_ladd_ok h0 kd_B_makeLots_105 ?_
      refine wq_put_ok (wq_putOK h0 hts ki_G ka_G kb_G kn_G hown hK (ci := 8) rfl 0 (Nat.le_of_ble_eq_true rfl) kw_351 rfl (Or.inl rfl) wq_okL) kd_B_makeLots_106 ?_
      exact hb_109
    have hb_0 : wq_Snd p l e ({ frames := 1, cells := 0, slots := 0, locals := 27 } : Room) s m args below meth c 7 cs D kz_cl A (wq_G0 ad w) (wq_Q cs D kz_cl A (wq_G0 ad w) rt xt below s 0 0) 0 (kt_B_makeLots_0 rt xt K) := by
      refine wq_aload_n_ok h0 kd_B_makeLots_0 rfl ?_
      refine wq_get_ok (wq_getOK h0 hts ki_B hown hK (ci := 0) rfl 4 (Nat.le_of_ble_eq_true rfl) kw_374 rfl) kd_B_makeLots_1 ?_
      refine wq_get_ok (wq_getOK h0 hts ki_D hown hK (ci := 5) rfl 6 (Nat.le_of_ble_eq_true rfl) kw_209 rfl) kd_B_makeLots_4 ?_
      refine wq_iload_n_ok h0 kd_B_makeLots_7 rfl ?_
      refine wq_aload_n_ok h0 kd_B_makeLots_8 rfl ?_
      refine wq_get_ok (wq_getOK h0 hts ki_B hown hK (ci := 0) rfl 6 (Nat.le_of_ble_eq_true rfl) kw_376 rfl) kd_B_makeLots_9 ?_
      refine wq_get_ok (wq_getOK h0 hts ki_L hown hK (ci := 7) rfl 0 (Nat.le_of_ble_eq_true rfl) kw_318 rfl) kd_B_makeLots_12 ?_
      refine wq_iast_ok h0 hK kd_B_makeLots_15 ?_
      refine wq_iconst_ok h0 kd_B_makeLots_16 (by decide +kernel) ?_
      refine wq_istore_n_ok h0 kd_B_makeLots_17 rfl (Nat.le_of_ble_eq_true rfl) ?_
      exact wq_can_ok (hKc 18 (by decide))
    refine ⟨?_, hb_0⟩
    exact List.forall_mem_cons.mpr ⟨hb_18, fun _ h => absurd h List.not_mem_nil⟩
  have hun : ∀ (n pc : Nat), pc ∈ [18] → wq_Snd p l e ({ frames := 1, cells := 0, slots := 0, locals := 27 } : Room) s m args below meth c 7 cs D kz_cl A (wq_G0 ad w) (wq_Q cs D kz_cl A (wq_G0 ad w) rt xt below s 0 0) pc (ku_B_makeLots rt xt n pc) := by
    intro n
    induction n with
    | zero => intro pc _ L S w9 n1 n2 h; exact h.elim
    | succ n ih => intro pc hpc; exact (hall (ku_B_makeLots rt xt n) ih).1 pc hpc
  exact (hall (ku_B_makeLots rt xt 1000000000000) (hun 1000000000000)).2 _ _ _ _ _ (wq_sp_t hsp)
set_option maxRecDepth 100000 in
set_option maxHeartbeats 4000000 in
theorem kv_B_changeLots {l : Launch} (hl : l.stackTraces = false) : wq_Vld l kz_cl ky_B_changeLots kw_T ({ frames := 1, cells := 0, slots := 0, locals := 21 }) wq_G0 ks_B_changeLots 0 0 := by
  refine wq_method (cc := kc_B_changeLots) (maxL := 5) (ret := none) (by decide) kw_916 (fun _ _ => rfl) wq_sp_sz ?_
  intro p e s m args below meth c cs D ad as w rt xt hF hnt hsp
  obtain ⟨h0, hr, hts, hown, hlk, hnm, hml, hK, hZ, hN, hA⟩ := hF
  have hown : s.vm.findClass "BorderDesk" = some m.cls := hown
  obtain ⟨A, hAe⟩ : ∃ A, A = wq_A ad w s.heap.size := ⟨_, rfl⟩
  rw [← hAe] at hZ hA ⊢
  have hall : ∀ K : Nat → wq_T, (∀ pc, pc ∈ [2] → wq_Snd p l e ({ frames := 1, cells := 0, slots := 0, locals := 21 } : Room) s m args below meth c 5 cs D kz_cl A (wq_G0 ad w) (wq_Q cs D kz_cl A (wq_G0 ad w) rt xt below s 0 0) pc (K pc)) → (∀ pc, pc ∈ [2] → wq_Snd p l e ({ frames := 1, cells := 0, slots := 0, locals := 21 } : Room) s m args below meth c 5 cs D kz_cl A (wq_G0 ad w) (wq_Q cs D kz_cl A (wq_G0 ad w) rt xt below s 0 0) pc (cond (Nat.beq pc 2) (kh_B_changeLots_2 rt xt K) (fun _ _ _ _ _ => False))) ∧ wq_Snd p l e ({ frames := 1, cells := 0, slots := 0, locals := 21 } : Room) s m args below meth c 5 cs D kz_cl A (wq_G0 ad w) (wq_Q cs D kz_cl A (wq_G0 ad w) rt xt below s 0 0) 0 (kt_B_changeLots_0 rt xt K) := by
    intro K hKc
    have hb_123 : wq_Snd p l e ({ frames := 1, cells := 0, slots := 0, locals := 21 } : Room) s m args below meth c 5 cs D kz_cl A (wq_G0 ad w) (wq_Q cs D kz_cl A (wq_G0 ad w) rt xt below s 0 0) 123 (kt_B_changeLots_123 rt xt K) := by
      exact wq_vreturn_ok h0 hr hlk kd_B_changeLots_123
    have hb_79 : wq_Snd p l e ({ frames := 1, cells := 0, slots := 0, locals := 21 } : Room) s m args below meth c 5 cs D kz_cl A (wq_G0 ad w) (wq_Q cs D kz_cl A (wq_G0 ad w) rt xt below s 0 0) 79 (kt_B_changeLots_79 rt xt K) := by
      refine wq_aload_n_ok h0 kd_B_changeLots_79 rfl ?_
      refine wq_get_ok (wq_getOK h0 hts ki_B hown hK (ci := 0) rfl 6 (Nat.le_of_ble_eq_true rfl) kw_376 rfl) kd_B_changeLots_80 ?_
      refine wq_get_ok (wq_getOK h0 hts ki_L hown hK (ci := 7) rfl 2 (Nat.le_of_ble_eq_true rfl) kw_322 rfl) kd_B_changeLots_83 ?_
      refine wq_iload_ok h0 kd_B_changeLots_86 ?_
      refine wq_aload_n_ok h0 kd_B_changeLots_88 rfl ?_
      refine wq_get_ok (wq_getOK h0 hts ki_B hown hK (ci := 0) rfl 4 (Nat.le_of_ble_eq_true rfl) kw_374 rfl) kd_B_changeLots_89 ?_
      refine wq_get_ok (wq_getOK h0 hts ki_D hown hK (ci := 5) rfl 9 (Nat.le_of_ble_eq_true rfl) kw_217 rfl) kd_B_changeLots_92 ?_
      refine wq_iload_n_ok h0 kd_B_changeLots_95 rfl ?_
      refine wq_iald_ok h0 hK kd_B_changeLots_96 ?_
      refine wq_iast_ok h0 hK kd_B_changeLots_97 ?_
      refine wq_aload_n_ok h0 kd_B_changeLots_98 rfl ?_
      refine wq_get_ok (wq_getOK h0 hts ki_B hown hK (ci := 0) rfl 6 (Nat.le_of_ble_eq_true rfl) kw_376 rfl) kd_B_changeLots_99 ?_
      refine wq_get_ok (wq_getOK h0 hts ki_L hown hK (ci := 7) rfl 4 (Nat.le_of_ble_eq_true rfl) kw_326 rfl) kd_B_changeLots_102 ?_
      refine wq_iload_ok h0 kd_B_changeLots_105 ?_
      refine wq_aload_n_ok h0 kd_B_changeLots_107 rfl ?_
      refine wq_get_ok (wq_getOK h0 hts ki_B hown hK (ci := 0) rfl 4 (Nat.le_of_ble_eq_true rfl) kw_374 rfl) kd_B_changeLots_108 ?_
      refine wq_get_ok (wq_getOK h0 hts ki_D hown hK (ci := 5) rfl 15 (Nat.le_of_ble_eq_true rfl) kw_231 rfl) kd_B_changeLots_111 ?_
      refine wq_iload_n_ok h0 kd_B_changeLots_114 rfl ?_
      refine wq_lald_ok h0 hK kd_B_changeLots_115 ?_
      refine wq_last_ok h0 hK kd_B_changeLots_116 ?_
      refine wq_iinc_ok h0 kd_B_changeLots_117 (by decide +kernel) (Nat.le_of_ble_eq_true rfl) ?_
      refine wq_goto_ok (tgt := 2) h0 kd_B_changeLots_120 (by decide) ?_
      exact wq_can_ok (hKc 2 (by decide))
    have hb_2 : wq_Snd p l e ({ frames := 1, cells := 0, slots := 0, locals := 21 } : Room) s m args below meth c 5 cs D kz_cl A (wq_G0 ad w) (wq_Q cs D kz_cl A (wq_G0 ad w) rt xt below s 0 0) 2 (kh_B_changeLots_2 rt xt K) := by
      refine wq_iload_n_ok h0 kd_B_changeLots_2 rfl ?_
      refine wq_aload_n_ok h0 kd_B_changeLots_3 rfl ?_
      refine wq_get_ok (wq_getOK h0 hts ki_B hown hK (ci := 0) rfl 4 (Nat.le_of_ble_eq_true rfl) kw_374 rfl) kd_B_changeLots_4 ?_
      refine wq_get_ok (wq_getOK h0 hts ki_D hown hK (ci := 5) rfl 3 (Nat.le_of_ble_eq_true rfl) kw_202 rfl) kd_B_changeLots_7 ?_
      refine wq_iload_n_ok h0 kd_B_changeLots_10 rfl ?_
      refine wq_iald_ok h0 hK kd_B_changeLots_11 ?_
      refine wq_icmp_ge_ok (tgt := 123) h0 kd_B_changeLots_12 (by decide) ?_ ?_
      · exact hb_123
      refine wq_iload_n_ok h0 kd_B_changeLots_15 rfl ?_
      refine wq_iload_n_ok h0 kd_B_changeLots_16 rfl ?_
      refine wq_call_ok hA (wq_runS ⟨h0.1, h0.2, hml, hown, hts⟩ (kv_D_rowOf hl) ⟨(wq_cB hts kw_G kw_724 kw_6 kw_767 ⟨by decide +kernel, by decide +kernel, by decide +kernel⟩ rfl rfl ⟨Nat.le_of_ble_eq_true rfl, Nat.le_of_ble_eq_true rfl⟩), hts _ kw_723⟩ hK hZ hN hA kd_B_changeLots_17) (wq_xout_ok hnt hlk) ?_
      refine wq_istore_n_ok h0 kd_B_changeLots_20 rfl (Nat.le_of_ble_eq_true rfl) ?_
      refine wq_aload_n_ok h0 kd_B_changeLots_21 rfl ?_
      refine wq_get_ok (wq_getOK h0 hts ki_B hown hK (ci := 0) rfl 4 (Nat.le_of_ble_eq_true rfl) kw_374 rfl) kd_B_changeLots_22 ?_
      refine wq_get_ok (wq_getOK h0 hts ki_D hown hK (ci := 5) rfl 6 (Nat.le_of_ble_eq_true rfl) kw_209 rfl) kd_B_changeLots_25 ?_
      refine wq_iload_n_ok h0 kd_B_changeLots_28 rfl ?_
      refine wq_iald_ok h0 hK kd_B_changeLots_29 ?_
      refine wq_iload_n_ok h0 kd_B_changeLots_30 rfl ?_
      refine wq_iadd_ok h0 kd_B_changeLots_31 ?_
      refine wq_istore_ok h0 kd_B_changeLots_32 (Nat.le_of_ble_eq_true rfl) ?_
      refine wq_aload_n_ok h0 kd_B_changeLots_34 rfl ?_
      refine wq_get_ok (wq_getOK h0 hts ki_B hown hK (ci := 0) rfl 6 (Nat.le_of_ble_eq_true rfl) kw_376 rfl) kd_B_changeLots_35 ?_
      refine wq_get_ok (wq_getOK h0 hts ki_L hown hK (ci := 7) rfl 5 (Nat.le_of_ble_eq_true rfl) kw_328 rfl) kd_B_changeLots_38 ?_
      refine wq_iload_ok h0 kd_B_changeLots_41 ?_
      refine wq_zald_ok h0 hK kd_B_changeLots_43 ?_
      refine wq_if_ne_ok (tgt := 79) h0 kd_B_changeLots_44 (by decide) ?_ ?_
      · exact hb_79
      refine wq_aload_n_ok h0 kd_B_changeLots_47 rfl ?_
      refine wq_get_ok (wq_getOK h0 hts ki_B hown hK (ci := 0) rfl 7 (Nat.le_of_ble_eq_true rfl) kw_377 rfl) kd_B_changeLots_48 ?_
      refine wq_dup_ok h0 kd_B_changeLots_51 ?_
      refine wq_get_ok (wq_getOK h0 hts ki_G hown hK (ci := 8) rfl 0 (Nat.le_of_ble_eq_true rfl) kw_351 rfl) kd_B_changeLots_52 ?_
      refine wq_aload_n_ok h0 kd_B_changeLots_55 rfl ?_
      refine wq_get_ok (wq_getOK h0 hts ki_B hown hK (ci := 0) rfl 4 (Nat.le_of_ble_eq_true rfl) kw_374 rfl) kd_B_changeLots_56 ?_
      refine wq_get_ok (wq_getOK h0 hts ki_D hown hK (ci := 5) rfl 15 (Nat.le_of_ble_eq_true rfl) kw_231 rfl) kd_B_changeLots_59 ?_
      refine wq_iload_n_ok h0 kd_B_changeLots_62 rfl ?_
      refine wq_lald_ok h0 hK kd_B_changeLots_63 ?_
      refine wq_aload_n_ok h0 kd_B_changeLots_64 rfl ?_
      refine wq_get_ok (wq_getOK h0 hts ki_B hown hK (ci := 0) rfl 6 (Nat.le_of_ble_eq_true rfl) kw_376 rfl) kd_B_changeLots_65 ?_
      refine wq_get_ok (wq_getOK h0 hts ki_L hown hK (ci := 7) rfl 4 (Nat.le_of_ble_eq_true rfl) kw_326 rfl) kd_B_changeLots_68 ?_
      refine wq_iload_ok h0 kd_B_changeLots_71 ?_
      refine wq_lald_ok h0 hK kd_B_changeLots_73 ?_
      refine wq_lsub_ok h0 kd_B_changeLots_74 ?_
      refine wq_ladd_ok h0 kd_B_changeLots_75 ?_
      refine wq_put_ok (wq_putOK h0 hts ki_G ka_G kb_G kn_G hown hK (ci := 8) rfl 0 (Nat.le_of_ble_eq_true rfl) kw_351 rfl (Or.inl rfl) wq_okL) kd_B_changeLots_76 ?_
      exact hb_79
    have hb_0 : wq_Snd p l e ({ frames := 1, cells := 0, slots := 0, locals := 21 } : Room) s m args below meth c 5 cs D kz_cl A (wq_G0 ad w) (wq_Q cs D kz_cl A (wq_G0 ad w) rt xt below s 0 0) 0 (kt_B_changeLots_0 rt xt K) := by
      refine wq_iconst_ok h0 kd_B_changeLots_0 (by decide +kernel) ?_
      refine wq_istore_n_ok h0 kd_B_changeLots_1 rfl (Nat.le_of_ble_eq_true rfl) ?_
      exact wq_can_ok (hKc 2 (by decide))
    refine ⟨?_, hb_0⟩
    exact List.forall_mem_cons.mpr ⟨hb_2, fun _ h => absurd h List.not_mem_nil⟩
  have hun : ∀ (n pc : Nat), pc ∈ [2] → wq_Snd p l e ({ frames := 1, cells := 0, slots := 0, locals := 21 } : Room) s m args below meth c 5 cs D kz_cl A (wq_G0 ad w) (wq_Q cs D kz_cl A (wq_G0 ad w) rt xt below s 0 0) pc (ku_B_changeLots rt xt n pc) := by
    intro n
    induction n with
    | zero => intro pc _ L S w9 n1 n2 h; exact h.elim
    | succ n ih => intro pc hpc; exact (hall (ku_B_changeLots rt xt n) ih).1 pc hpc
  exact (hall (ku_B_changeLots rt xt 1000000000000) (hun 1000000000000)).2 _ _ _ _ _ (wq_sp_t hsp)
set_option maxRecDepth 100000 in
set_option maxHeartbeats 4000000 in
theorem kv_B_hasGoneUnits {l : Launch} (hl : l.stackTraces = false) : wq_Vld l kz_cl ky_B_hasGoneUnits kw_T ({ frames := 0, cells := 0, slots := 0, locals := 0 }) wq_G0 ks_B_hasGoneUnits 0 0 := by
  refine wq_method (cc := kc_B_hasGoneUnits) (maxL := 3) (ret := (some .boolean)) (by decide) kw_900 (fun _ _ => rfl) wq_sp_sz ?_
  intro p e s m args below meth c cs D ad as w rt xt hF hnt hsp
  obtain ⟨h0, hr, hts, hown, hlk, hnm, hml, hK, hZ, hN, hA⟩ := hF
  have hown : s.vm.findClass "BorderDesk" = some m.cls := hown
  obtain ⟨A, hAe⟩ : ∃ A, A = wq_A ad w s.heap.size := ⟨_, rfl⟩
  rw [← hAe] at hZ hA ⊢
  have hall : ∀ K : Nat → wq_T, (∀ pc, pc ∈ [2] → wq_Snd p l e ({ frames := 0, cells := 0, slots := 0, locals := 0 } : Room) s m args below meth c 3 cs D kz_cl A (wq_G0 ad w) (wq_Q cs D kz_cl A (wq_G0 ad w) rt xt below s 0 0) pc (K pc)) → (∀ pc, pc ∈ [2] → wq_Snd p l e ({ frames := 0, cells := 0, slots := 0, locals := 0 } : Room) s m args below meth c 3 cs D kz_cl A (wq_G0 ad w) (wq_Q cs D kz_cl A (wq_G0 ad w) rt xt below s 0 0) pc (cond (Nat.beq pc 2) (kh_B_hasGoneUnits_2 rt xt K) (fun _ _ _ _ _ => False))) ∧ wq_Snd p l e ({ frames := 0, cells := 0, slots := 0, locals := 0 } : Room) s m args below meth c 3 cs D kz_cl A (wq_G0 ad w) (wq_Q cs D kz_cl A (wq_G0 ad w) rt xt below s 0 0) 0 (kt_B_hasGoneUnits_0 rt xt K) := by
    intro K hKc
    have hb_45 : wq_Snd p l e ({ frames := 0, cells := 0, slots := 0, locals := 0 } : Room) s m args below meth c 3 cs D kz_cl A (wq_G0 ad w) (wq_Q cs D kz_cl A (wq_G0 ad w) rt xt below s 0 0) 45 (kt_B_hasGoneUnits_45 rt xt K) := by
      refine wq_iconst_ok h0 kd_B_hasGoneUnits_45 (by decide +kernel) ?_
      exact wq_zreturn_ok h0 hr hlk kd_B_hasGoneUnits_46
    have hb_39 : wq_Snd p l e ({ frames := 0, cells := 0, slots := 0, locals := 0 } : Room) s m args below meth c 3 cs D kz_cl A (wq_G0 ad w) (wq_Q cs D kz_cl A (wq_G0 ad w) rt xt below s 0 0) 39 (kt_B_hasGoneUnits_39 rt xt K) := by
      refine wq_iinc_ok h0 kd_B_hasGoneUnits_39 (by decide +kernel) (Nat.le_of_ble_eq_true rfl) ?_
      refine wq_goto_ok (tgt := 2) h0 kd_B_hasGoneUnits_42 (by decide) ?_
      exact wq_can_ok (hKc 2 (by decide))
    have hb_2 : wq_Snd p l e ({ frames := 0, cells := 0, slots := 0, locals := 0 } : Room) s m args below meth c 3 cs D kz_cl A (wq_G0 ad w) (wq_Q cs D kz_cl A (wq_G0 ad w) rt xt below s 0 0) 2 (kh_B_hasGoneUnits_2 rt xt K) := by
      refine wq_iload_n_ok h0 kd_B_hasGoneUnits_2 rfl ?_
      refine wq_aload_n_ok h0 kd_B_hasGoneUnits_3 rfl ?_
      refine wq_get_ok (wq_getOK h0 hts ki_B hown hK (ci := 0) rfl 4 (Nat.le_of_ble_eq_true rfl) kw_374 rfl) kd_B_hasGoneUnits_4 ?_
      refine wq_get_ok (wq_getOK h0 hts ki_D hown hK (ci := 5) rfl 3 (Nat.le_of_ble_eq_true rfl) kw_202 rfl) kd_B_hasGoneUnits_7 ?_
      refine wq_iload_n_ok h0 kd_B_hasGoneUnits_10 rfl ?_
      refine wq_iald_ok h0 hK kd_B_hasGoneUnits_11 ?_
      refine wq_icmp_ge_ok (tgt := 45) h0 kd_B_hasGoneUnits_12 (by decide) ?_ ?_
      · exact hb_45
      refine wq_aload_n_ok h0 kd_B_hasGoneUnits_15 rfl ?_
      refine wq_get_ok (wq_getOK h0 hts ki_B hown hK (ci := 0) rfl 6 (Nat.le_of_ble_eq_true rfl) kw_376 rfl) kd_B_hasGoneUnits_16 ?_
      refine wq_get_ok (wq_getOK h0 hts ki_L hown hK (ci := 7) rfl 3 (Nat.le_of_ble_eq_true rfl) kw_324 rfl) kd_B_hasGoneUnits_19 ?_
      refine wq_aload_n_ok h0 kd_B_hasGoneUnits_22 rfl ?_
      refine wq_get_ok (wq_getOK h0 hts ki_B hown hK (ci := 0) rfl 4 (Nat.le_of_ble_eq_true rfl) kw_374 rfl) kd_B_hasGoneUnits_23 ?_
      refine wq_get_ok (wq_getOK h0 hts ki_D hown hK (ci := 5) rfl 6 (Nat.le_of_ble_eq_true rfl) kw_209 rfl) kd_B_hasGoneUnits_26 ?_
      refine wq_iload_n_ok h0 kd_B_hasGoneUnits_29 rfl ?_
      refine wq_iald_ok h0 hK kd_B_hasGoneUnits_30 ?_
      refine wq_iload_n_ok h0 kd_B_hasGoneUnits_31 rfl ?_
      refine wq_iadd_ok h0 kd_B_hasGoneUnits_32 ?_
      refine wq_iald_ok h0 hK kd_B_hasGoneUnits_33 ?_
      refine wq_if_le_ok (tgt := 39) h0 kd_B_hasGoneUnits_34 (by decide) ?_ ?_
      · exact hb_39
      refine wq_iconst_ok h0 kd_B_hasGoneUnits_37 (by decide +kernel) ?_
      exact wq_zreturn_ok h0 hr hlk kd_B_hasGoneUnits_38
    have hb_0 : wq_Snd p l e ({ frames := 0, cells := 0, slots := 0, locals := 0 } : Room) s m args below meth c 3 cs D kz_cl A (wq_G0 ad w) (wq_Q cs D kz_cl A (wq_G0 ad w) rt xt below s 0 0) 0 (kt_B_hasGoneUnits_0 rt xt K) := by
      refine wq_iconst_ok h0 kd_B_hasGoneUnits_0 (by decide +kernel) ?_
      refine wq_istore_n_ok h0 kd_B_hasGoneUnits_1 rfl (Nat.le_of_ble_eq_true rfl) ?_
      exact wq_can_ok (hKc 2 (by decide))
    refine ⟨?_, hb_0⟩
    exact List.forall_mem_cons.mpr ⟨hb_2, fun _ h => absurd h List.not_mem_nil⟩
  have hun : ∀ (n pc : Nat), pc ∈ [2] → wq_Snd p l e ({ frames := 0, cells := 0, slots := 0, locals := 0 } : Room) s m args below meth c 3 cs D kz_cl A (wq_G0 ad w) (wq_Q cs D kz_cl A (wq_G0 ad w) rt xt below s 0 0) pc (ku_B_hasGoneUnits rt xt n pc) := by
    intro n
    induction n with
    | zero => intro pc _ L S w9 n1 n2 h; exact h.elim
    | succ n ih => intro pc hpc; exact (hall (ku_B_hasGoneUnits rt xt n) ih).1 pc hpc
  exact (hall (ku_B_hasGoneUnits rt xt 1000000000000) (hun 1000000000000)).2 _ _ _ _ _ (wq_sp_t hsp)
