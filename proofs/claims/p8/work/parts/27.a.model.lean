set_option maxRecDepth 100000 in
set_option maxHeartbeats 4000000 in
theorem kv_M_thrown {l : Launch} (hl : l.stackTraces = false) : wq_Vld l kz_cl ky_M_thrown kw_T ({ frames := 0, cells := 0, slots := 0, locals := 0 }) wq_G0 ks_M_thrown 0 0 := by
  refine wq_method (cc := kc_M_thrown) (maxL := 1) (ret := (some .int)) (by decide) kw_1190 (fun _ _ => rfl) wq_sp_sz ?_
  intro p e s m args below meth c cs D ad as w rt xt hF hnt hsp
  obtain ⟨h0, hr, hts, hown, hlk, hnm, hml, hK, hZ, hN, hA⟩ := hF
  have hown : s.vm.findClass "BorderDeskModel" = some m.cls := hown
  obtain ⟨A, hAe⟩ : ∃ A, A = wq_A ad w s.heap.size := ⟨_, rfl⟩
  rw [← hAe] at hZ hA ⊢
  have hb_0 : wq_Snd p l e ({ frames := 0, cells := 0, slots := 0, locals := 0 } : Room) s m args below meth c 1 cs D kz_cl A (wq_G0 ad w) (wq_Q cs D kz_cl A (wq_G0 ad w) rt xt below s 0 0) 0 (kt_M_thrown_0 rt xt) := by
    refine wq_aload_n_ok h0 kd_M_thrown_0 rfl ?_
    refine wq_get_ok (wq_getOK h0 hts ki_M hown hK (ci := 9) rfl 0 (Nat.le_of_ble_eq_true rfl) kw_982 rfl) kd_M_thrown_1 ?_
    exact wq_ireturn_ok h0 hr hlk kd_M_thrown_4
  exact hb_0 _ _ _ _ _ (wq_sp_t hsp)
set_option maxRecDepth 100000 in
set_option maxHeartbeats 4000000 in
theorem kv_M_within {l : Launch} (hl : l.stackTraces = false) : wq_Vld l kz_cl ky_M_within kw_T ({ frames := 0, cells := 0, slots := 0, locals := 0 }) wq_G0 ks_M_within 0 0 := by
  refine wq_method (cc := kc_M_within) (maxL := 3) (ret := (some .boolean)) (by decide) kw_1209 (fun _ _ => rfl) wq_sp_sz ?_
  intro p e s m args below meth c cs D ad as w rt xt hF hnt hsp
  obtain ⟨h0, hr, hts, hown, hlk, hnm, hml, hK, hZ, hN, hA⟩ := hF
  have hown : s.vm.findClass "BorderDeskModel" = some m.cls := hown
  obtain ⟨A, hAe⟩ : ∃ A, A = wq_A ad w s.heap.size := ⟨_, rfl⟩
  rw [← hAe] at hZ hA ⊢
  have hb_15 : wq_Snd p l e ({ frames := 0, cells := 0, slots := 0, locals := 0 } : Room) s m args below meth c 3 cs D kz_cl A (wq_G0 ad w) (wq_Q cs D kz_cl A (wq_G0 ad w) rt xt below s 0 0) 15 (kt_M_within_15 rt xt) := by
    exact wq_zreturn_ok h0 hr hlk kd_M_within_15
  have hb_14 : wq_Snd p l e ({ frames := 0, cells := 0, slots := 0, locals := 0 } : Room) s m args below meth c 3 cs D kz_cl A (wq_G0 ad w) (wq_Q cs D kz_cl A (wq_G0 ad w) rt xt below s 0 0) 14 (kt_M_within_14 rt xt) := by
    refine wq_iconst_ok h0 kd_M_within_14 (by decide +kernel) ?_
    exact hb_15
  have hb_0 : wq_Snd p l e ({ frames := 0, cells := 0, slots := 0, locals := 0 } : Room) s m args below meth c 3 cs D kz_cl A (wq_G0 ad w) (wq_Q cs D kz_cl A (wq_G0 ad w) rt xt below s 0 0) 0 (kt_M_within_0 rt xt) := by
    refine wq_iload_n_ok h0 kd_M_within_0 rfl ?_
    refine wq_iload_n_ok h0 kd_M_within_1 rfl ?_
    refine wq_icmp_lt_ok (tgt := 14) h0 kd_M_within_2 (by decide) ?_ ?_
    · exact hb_14
    refine wq_iload_n_ok h0 kd_M_within_5 rfl ?_
    refine wq_iload_n_ok h0 kd_M_within_6 rfl ?_
    refine wq_icmp_gt_ok (tgt := 14) h0 kd_M_within_7 (by decide) ?_ ?_
    · exact hb_14
    refine wq_iconst_ok h0 kd_M_within_10 (by decide +kernel) ?_
    refine wq_goto_ok (tgt := 15) h0 kd_M_within_11 (by decide) ?_
    exact hb_15
  exact hb_0 _ _ _ _ _ (wq_sp_t hsp)
set_option maxRecDepth 100000 in
set_option maxHeartbeats 4000000 in
theorem kv_M_isHeading {l : Launch} (hl : l.stackTraces = false) : wq_Vld l kz_cl ky_M_isHeading kw_T ({ frames := 0, cells := 0, slots := 0, locals := 0 }) wq_G0 ks_M_isHeading 0 0 := by
  refine wq_method (cc := kc_M_isHeading) (maxL := 2) (ret := (some .boolean)) (by decide) kw_1198 (fun _ _ => rfl) wq_sp_sz ?_
  intro p e s m args below meth c cs D ad as w rt xt hF hnt hsp
  obtain ⟨h0, hr, hts, hown, hlk, hnm, hml, hK, hZ, hN, hA⟩ := hF
  have hown : s.vm.findClass "BorderDeskModel" = some m.cls := hown
  obtain ⟨A, hAe⟩ : ∃ A, A = wq_A ad w s.heap.size := ⟨_, rfl⟩
  rw [← hAe] at hZ hA ⊢
  have hb_17 : wq_Snd p l e ({ frames := 0, cells := 0, slots := 0, locals := 0 } : Room) s m args below meth c 2 cs D kz_cl A (wq_G0 ad w) (wq_Q cs D kz_cl A (wq_G0 ad w) rt xt below s 0 0) 17 (kt_M_isHeading_17 rt xt) := by
    exact wq_zreturn_ok h0 hr hlk kd_M_isHeading_17
  have hb_16 : wq_Snd p l e ({ frames := 0, cells := 0, slots := 0, locals := 0 } : Room) s m args below meth c 2 cs D kz_cl A (wq_G0 ad w) (wq_Q cs D kz_cl A (wq_G0 ad w) rt xt below s 0 0) 16 (kt_M_isHeading_16 rt xt) := by
    refine wq_iconst_ok h0 kd_M_isHeading_16 (by decide +kernel) ?_
    exact hb_17
  have hb_0 : wq_Snd p l e ({ frames := 0, cells := 0, slots := 0, locals := 0 } : Room) s m args below meth c 2 cs D kz_cl A (wq_G0 ad w) (wq_Q cs D kz_cl A (wq_G0 ad w) rt xt below s 0 0) 0 (kt_M_isHeading_0 rt xt) := by
    refine wq_iload_n_ok h0 kd_M_isHeading_0 rfl ?_
    refine wq_if_lt_ok (tgt := 16) h0 kd_M_isHeading_1 (by decide) ?_ ?_
    · exact hb_16
    refine wq_iload_n_ok h0 kd_M_isHeading_4 rfl ?_
    refine wq_aload_n_ok h0 kd_M_isHeading_5 rfl ?_
    refine wq_get_ok (wq_getOK h0 hts ki_M hown hK (ci := 9) rfl 1 (Nat.le_of_ble_eq_true rfl) kw_983 rfl) kd_M_isHeading_6 ?_
    refine wq_icmp_ge_ok (tgt := 16) h0 kd_M_isHeading_9 (by decide) ?_ ?_
    · exact hb_16
    refine wq_iconst_ok h0 kd_M_isHeading_12 (by decide +kernel) ?_
    refine wq_goto_ok (tgt := 17) h0 kd_M_isHeading_13 (by decide) ?_
    exact hb_17
  exact hb_0 _ _ _ _ _ (wq_sp_t hsp)
set_option maxRecDepth 100000 in
set_option maxHeartbeats 4000000 in
theorem kv_M_depthOf {l : Launch} (hl : l.stackTraces = false) : wq_Vld l kz_cl ky_M_depthOf kw_T ({ frames := 0, cells := 0, slots := 0, locals := 0 }) wq_G0 ks_M_depthOf 0 0 := by
  refine wq_method (cc := kc_M_depthOf) (maxL := 4) (ret := (some .int)) (by decide) kw_1202 (fun _ _ => rfl) wq_sp_sz ?_
  intro p e s m args below meth c cs D ad as w rt xt hF hnt hsp
  obtain ⟨h0, hr, hts, hown, hlk, hnm, hml, hK, hZ, hN, hA⟩ := hF
  have hown : s.vm.findClass "BorderDeskModel" = some m.cls := hown
  obtain ⟨A, hAe⟩ : ∃ A, A = wq_A ad w s.heap.size := ⟨_, rfl⟩
  rw [← hAe] at hZ hA ⊢
  have hall : ∀ K : Nat → wq_T, (∀ pc, pc ∈ [9] → wq_Snd p l e ({ frames := 0, cells := 0, slots := 0, locals := 0 } : Room) s m args below meth c 4 cs D kz_cl A (wq_G0 ad w) (wq_Q cs D kz_cl A (wq_G0 ad w) rt xt below s 0 0) pc (K pc)) → (∀ pc, pc ∈ [9] → wq_Snd p l e ({ frames := 0, cells := 0, slots := 0, locals := 0 } : Room) s m args below meth c 4 cs D kz_cl A (wq_G0 ad w) (wq_Q cs D kz_cl A (wq_G0 ad w) rt xt below s 0 0) pc (cond (Nat.beq pc 9) (kh_M_depthOf_9 rt xt K) (fun _ _ _ _ _ => False))) ∧ wq_Snd p l e ({ frames := 0, cells := 0, slots := 0, locals := 0 } : Room) s m args below meth c 4 cs D kz_cl A (wq_G0 ad w) (wq_Q cs D kz_cl A (wq_G0 ad w) rt xt below s 0 0) 0 (kt_M_depthOf_0 rt xt K) := by
    intro K hKc
    have hb_26 : wq_Snd p l e ({ frames := 0, cells := 0, slots := 0, locals := 0 } : Room) s m args below meth c 4 cs D kz_cl A (wq_G0 ad w) (wq_Q cs D kz_cl A (wq_G0 ad w) rt xt below s 0 0) 26 (kt_M_depthOf_26 rt xt K) := by
      refine wq_iload_n_ok h0 kd_M_depthOf_26 rfl ?_
      exact wq_ireturn_ok h0 hr hlk kd_M_depthOf_27
    have hb_9 : wq_Snd p l e ({ frames := 0, cells := 0, slots := 0, locals := 0 } : Room) s m args below meth c 4 cs D kz_cl A (wq_G0 ad w) (wq_Q cs D kz_cl A (wq_G0 ad w) rt xt below s 0 0) 9 (kh_M_depthOf_9 rt xt K) := by
      refine wq_iload_n_ok h0 kd_M_depthOf_9 rfl ?_
      refine wq_if_lt_ok (tgt := 26) h0 kd_M_depthOf_10 (by decide) ?_ ?_
      · exact hb_26
      refine wq_iinc_ok h0 kd_M_depthOf_13 (by decide +kernel) (Nat.le_of_ble_eq_true rfl) ?_
      refine wq_aload_n_ok h0 kd_M_depthOf_16 rfl ?_
      refine wq_get_ok (wq_getOK h0 hts ki_M hown hK (ci := 9) rfl 2 (Nat.le_of_ble_eq_true rfl) kw_984 rfl) kd_M_depthOf_17 ?_
      refine wq_iload_n_ok h0 kd_M_depthOf_20 rfl ?_
      refine wq_iald_ok h0 hK kd_M_depthOf_21 ?_
      refine wq_istore_n_ok h0 kd_M_depthOf_22 rfl (Nat.le_of_ble_eq_true rfl) ?_
      refine wq_goto_ok (tgt := 9) h0 kd_M_depthOf_23 (by decide) ?_
      exact wq_can_ok (hKc 9 (by decide))
    have hb_0 : wq_Snd p l e ({ frames := 0, cells := 0, slots := 0, locals := 0 } : Room) s m args below meth c 4 cs D kz_cl A (wq_G0 ad w) (wq_Q cs D kz_cl A (wq_G0 ad w) rt xt below s 0 0) 0 (kt_M_depthOf_0 rt xt K) := by
      refine wq_iconst_ok h0 kd_M_depthOf_0 (by decide +kernel) ?_
      refine wq_istore_n_ok h0 kd_M_depthOf_1 rfl (Nat.le_of_ble_eq_true rfl) ?_
      refine wq_aload_n_ok h0 kd_M_depthOf_2 rfl ?_
      refine wq_get_ok (wq_getOK h0 hts ki_M hown hK (ci := 9) rfl 2 (Nat.le_of_ble_eq_true rfl) kw_984 rfl) kd_M_depthOf_3 ?_
      refine wq_iload_n_ok h0 kd_M_depthOf_6 rfl ?_
      refine wq_iald_ok h0 hK kd_M_depthOf_7 ?_
      refine wq_istore_n_ok h0 kd_M_depthOf_8 rfl (Nat.le_of_ble_eq_true rfl) ?_
      exact wq_can_ok (hKc 9 (by decide))
    refine ⟨?_, hb_0⟩
    exact List.forall_mem_cons.mpr ⟨hb_9, fun _ h => absurd h List.not_mem_nil⟩
  have hun : ∀ (n pc : Nat), pc ∈ [9] → wq_Snd p l e ({ frames := 0, cells := 0, slots := 0, locals := 0 } : Room) s m args below meth c 4 cs D kz_cl A (wq_G0 ad w) (wq_Q cs D kz_cl A (wq_G0 ad w) rt xt below s 0 0) pc (ku_M_depthOf rt xt n pc) := by
    intro n
    induction n with
    | zero => intro pc _ L S w9 n1 n2 h; exact h.elim
    | succ n ih => intro pc hpc; exact (hall (ku_M_depthOf rt xt n) ih).1 pc hpc
  exact (hall (ku_M_depthOf rt xt 1000000000000) (hun 1000000000000)).2 _ _ _ _ _ (wq_sp_t hsp)
set_option maxRecDepth 100000 in
set_option maxHeartbeats 4000000 in
theorem kv_M_isUnder {l : Launch} (hl : l.stackTraces = false) : wq_Vld l kz_cl ky_M_isUnder kw_T ({ frames := 0, cells := 0, slots := 0, locals := 0 }) wq_G0 ks_M_isUnder 0 0 := by
  refine wq_method (cc := kc_M_isUnder) (maxL := 4) (ret := (some .boolean)) (by decide) kw_1229 (fun _ _ => rfl) wq_sp_sz ?_
  intro p e s m args below meth c cs D ad as w rt xt hF hnt hsp
  obtain ⟨h0, hr, hts, hown, hlk, hnm, hml, hK, hZ, hN, hA⟩ := hF
  have hown : s.vm.findClass "BorderDeskModel" = some m.cls := hown
  obtain ⟨A, hAe⟩ : ∃ A, A = wq_A ad w s.heap.size := ⟨_, rfl⟩
  rw [← hAe] at hZ hA ⊢
  have hall : ∀ K : Nat → wq_T, (∀ pc, pc ∈ [2] → wq_Snd p l e ({ frames := 0, cells := 0, slots := 0, locals := 0 } : Room) s m args below meth c 4 cs D kz_cl A (wq_G0 ad w) (wq_Q cs D kz_cl A (wq_G0 ad w) rt xt below s 0 0) pc (K pc)) → (∀ pc, pc ∈ [2] → wq_Snd p l e ({ frames := 0, cells := 0, slots := 0, locals := 0 } : Room) s m args below meth c 4 cs D kz_cl A (wq_G0 ad w) (wq_Q cs D kz_cl A (wq_G0 ad w) rt xt below s 0 0) pc (cond (Nat.beq pc 2) (kh_M_isUnder_2 rt xt K) (fun _ _ _ _ _ => False))) ∧ wq_Snd p l e ({ frames := 0, cells := 0, slots := 0, locals := 0 } : Room) s m args below meth c 4 cs D kz_cl A (wq_G0 ad w) (wq_Q cs D kz_cl A (wq_G0 ad w) rt xt below s 0 0) 0 (kt_M_isUnder_0 rt xt K) := by
    intro K hKc
    have hb_30 : wq_Snd p l e ({ frames := 0, cells := 0, slots := 0, locals := 0 } : Room) s m args below meth c 4 cs D kz_cl A (wq_G0 ad w) (wq_Q cs D kz_cl A (wq_G0 ad w) rt xt below s 0 0) 30 (kt_M_isUnder_30 rt xt K) := by
      exact wq_zreturn_ok h0 hr hlk kd_M_isUnder_30
    have hb_29 : wq_Snd p l e ({ frames := 0, cells := 0, slots := 0, locals := 0 } : Room) s m args below meth c 4 cs D kz_cl A (wq_G0 ad w) (wq_Q cs D kz_cl A (wq_G0 ad w) rt xt below s 0 0) 29 (kt_M_isUnder_29 rt xt K) := by
      refine wq_iconst_ok h0 kd_M_isUnder_29 (by decide +kernel) ?_
      exact hb_30
    have hb_21 : wq_Snd p l e ({ frames := 0, cells := 0, slots := 0, locals := 0 } : Room) s m args below meth c 4 cs D kz_cl A (wq_G0 ad w) (wq_Q cs D kz_cl A (wq_G0 ad w) rt xt below s 0 0) 21 (kt_M_isUnder_21 rt xt K) := by
      refine wq_iload_n_ok h0 kd_M_isUnder_21 rfl ?_
      refine wq_if_lt_ok (tgt := 29) h0 kd_M_isUnder_22 (by decide) ?_ ?_
      · exact hb_29
      refine wq_iconst_ok h0 kd_M_isUnder_25 (by decide +kernel) ?_
      refine wq_goto_ok (tgt := 30) h0 kd_M_isUnder_26 (by decide) ?_
      exact hb_30
    have hb_2 : wq_Snd p l e ({ frames := 0, cells := 0, slots := 0, locals := 0 } : Room) s m args below meth c 4 cs D kz_cl A (wq_G0 ad w) (wq_Q cs D kz_cl A (wq_G0 ad w) rt xt below s 0 0) 2 (kh_M_isUnder_2 rt xt K) := by
      refine wq_iload_n_ok h0 kd_M_isUnder_2 rfl ?_
      refine wq_if_lt_ok (tgt := 21) h0 kd_M_isUnder_3 (by decide) ?_ ?_
      · exact hb_21
      refine wq_iload_n_ok h0 kd_M_isUnder_6 rfl ?_
      refine wq_iload_n_ok h0 kd_M_isUnder_7 rfl ?_
      refine wq_icmp_eq_ok (tgt := 21) h0 kd_M_isUnder_8 (by decide) ?_ ?_
      · exact hb_21
      refine wq_aload_n_ok h0 kd_M_isUnder_11 rfl ?_
      refine wq_get_ok (wq_getOK h0 hts ki_M hown hK (ci := 9) rfl 2 (Nat.le_of_ble_eq_true rfl) kw_984 rfl) kd_M_isUnder_12 ?_
      refine wq_iload_n_ok h0 kd_M_isUnder_15 rfl ?_
      refine wq_iald_ok h0 hK kd_M_isUnder_16 ?_
      refine wq_istore_n_ok h0 kd_M_isUnder_17 rfl (Nat.le_of_ble_eq_true rfl) ?_
      refine wq_goto_ok (tgt := 2) h0 kd_M_isUnder_18 (by decide) ?_
      exact wq_can_ok (hKc 2 (by decide))
    have hb_0 : wq_Snd p l e ({ frames := 0, cells := 0, slots := 0, locals := 0 } : Room) s m args below meth c 4 cs D kz_cl A (wq_G0 ad w) (wq_Q cs D kz_cl A (wq_G0 ad w) rt xt below s 0 0) 0 (kt_M_isUnder_0 rt xt K) := by
      refine wq_iload_n_ok h0 kd_M_isUnder_0 rfl ?_
      refine wq_istore_n_ok h0 kd_M_isUnder_1 rfl (Nat.le_of_ble_eq_true rfl) ?_
      exact wq_can_ok (hKc 2 (by decide))
    refine ⟨?_, hb_0⟩
    exact List.forall_mem_cons.mpr ⟨hb_2, fun _ h => absurd h List.not_mem_nil⟩
  have hun : ∀ (n pc : Nat), pc ∈ [2] → wq_Snd p l e ({ frames := 0, cells := 0, slots := 0, locals := 0 } : Room) s m args below meth c 4 cs D kz_cl A (wq_G0 ad w) (wq_Q cs D kz_cl A (wq_G0 ad w) rt xt below s 0 0) pc (ku_M_isUnder rt xt n pc) := by
    intro n
    induction n with
    | zero => intro pc _ L S w9 n1 n2 h; exact h.elim
    | succ n ih => intro pc hpc; exact (hall (ku_M_isUnder rt xt n) ih).1 pc hpc
  exact (hall (ku_M_isUnder rt xt 1000000000000) (hun 1000000000000)).2 _ _ _ _ _ (wq_sp_t hsp)
set_option maxRecDepth 100000 in
set_option maxHeartbeats 4000000 in
theorem kv_M_holds {l : Launch} (hl : l.stackTraces = false) : wq_Vld l kz_cl ky_M_holds kw_T ({ frames := 0, cells := 0, slots := 0, locals := 0 }) wq_G0 ks_M_holds 0 0 := by
  refine wq_method (cc := kc_M_holds) (maxL := 6) (ret := (some .boolean)) (by decide) kw_1233 (fun _ _ => rfl) wq_sp_sz ?_
  intro p e s m args below meth c cs D ad as w rt xt hF hnt hsp
  obtain ⟨h0, hr, hts, hown, hlk, hnm, hml, hK, hZ, hN, hA⟩ := hF
  have hown : s.vm.findClass "BorderDeskModel" = some m.cls := hown
  obtain ⟨A, hAe⟩ : ∃ A, A = wq_A ad w s.heap.size := ⟨_, rfl⟩
  rw [← hAe] at hZ hA ⊢
  have hall : ∀ K : Nat → wq_T, (∀ pc, pc ∈ [63] → wq_Snd p l e ({ frames := 0, cells := 0, slots := 0, locals := 0 } : Room) s m args below meth c 6 cs D kz_cl A (wq_G0 ad w) (wq_Q cs D kz_cl A (wq_G0 ad w) rt xt below s 0 0) pc (K pc)) → (∀ pc, pc ∈ [63] → wq_Snd p l e ({ frames := 0, cells := 0, slots := 0, locals := 0 } : Room) s m args below meth c 6 cs D kz_cl A (wq_G0 ad w) (wq_Q cs D kz_cl A (wq_G0 ad w) rt xt below s 0 0) pc (cond (Nat.beq pc 63) (kh_M_holds_63 rt xt K) (fun _ _ _ _ _ => False))) ∧ wq_Snd p l e ({ frames := 0, cells := 0, slots := 0, locals := 0 } : Room) s m args below meth c 6 cs D kz_cl A (wq_G0 ad w) (wq_Q cs D kz_cl A (wq_G0 ad w) rt xt below s 0 0) 0 (kt_M_holds_0 rt xt K) := by
    intro K hKc
    have hb_113 : wq_Snd p l e ({ frames := 0, cells := 0, slots := 0, locals := 0 } : Room) s m args below meth c 6 cs D kz_cl A (wq_G0 ad w) (wq_Q cs D kz_cl A (wq_G0 ad w) rt xt below s 0 0) 113 (kt_M_holds_113 rt xt K) := by
      refine wq_iload_ok h0 kd_M_holds_113 ?_
      exact wq_zreturn_ok h0 hr hlk kd_M_holds_115
    have hb_105 : wq_Snd p l e ({ frames := 0, cells := 0, slots := 0, locals := 0 } : Room) s m args below meth c 6 cs D kz_cl A (wq_G0 ad w) (wq_Q cs D kz_cl A (wq_G0 ad w) rt xt below s 0 0) 105 (kt_M_holds_105 rt xt K) := by
      refine wq_istore_ok h0 kd_M_holds_105 (Nat.le_of_ble_eq_true rfl) ?_
      refine wq_iinc_ok h0 kd_M_holds_107 (by decide +kernel) (Nat.le_of_ble_eq_true rfl) ?_
      refine wq_goto_ok (tgt := 63) h0 kd_M_holds_110 (by decide) ?_
      exact wq_can_ok (hKc 63 (by decide))
    have hb_104 : wq_Snd p l e ({ frames := 0, cells := 0, slots := 0, locals := 0 } : Room) s m args below meth c 6 cs D kz_cl A (wq_G0 ad w) (wq_Q cs D kz_cl A (wq_G0 ad w) rt xt below s 0 0) 104 (kt_M_holds_104 rt xt K) := by
      refine wq_iconst_ok h0 kd_M_holds_104 (by decide +kernel) ?_
      exact hb_105
    have hb_63 : wq_Snd p l e ({ frames := 0, cells := 0, slots := 0, locals := 0 } : Room) s m args below meth c 6 cs D kz_cl A (wq_G0 ad w) (wq_Q cs D kz_cl A (wq_G0 ad w) rt xt below s 0 0) 63 (kh_M_holds_63 rt xt K) := by
      refine wq_iload_ok h0 kd_M_holds_63 ?_
      refine wq_iconst_ok h0 kd_M_holds_65 (by decide +kernel) ?_
      refine wq_icmp_ge_ok (tgt := 113) h0 kd_M_holds_66 (by decide) ?_ ?_
      · exact hb_113
      refine wq_aload_n_ok h0 kd_M_holds_69 rfl ?_
      refine wq_get_ok (wq_getOK h0 hts ki_M hown hK (ci := 9) rfl 7 (Nat.le_of_ble_eq_true rfl) kw_989 rfl) kd_M_holds_70 ?_
      refine wq_iload_n_ok h0 kd_M_holds_73 rfl ?_
      refine wq_iald_ok h0 hK kd_M_holds_74 ?_
      refine wq_iconst_ok h0 kd_M_holds_75 (by decide +kernel) ?_
      refine wq_icmp_ne_ok (tgt := 113) h0 kd_M_holds_76 (by decide) ?_ ?_
      · exact hb_113
      refine wq_iload_ok h0 kd_M_holds_79 ?_
      refine wq_if_eq_ok (tgt := 104) h0 kd_M_holds_81 (by decide) ?_ ?_
      · exact hb_104
      refine wq_aload_n_ok h0 kd_M_holds_84 rfl ?_
      refine wq_get_ok (wq_getOK h0 hts ki_M hown hK (ci := 9) rfl 26 (Nat.le_of_ble_eq_true rfl) kw_1008 rfl) kd_M_holds_85 ?_
      refine wq_bipush_ok h0 kd_M_holds_88 (by decide +kernel) ?_
      refine wq_iload_n_ok h0 kd_M_holds_90 rfl ?_
      refine wq_imul_ok h0 kd_M_holds_91 ?_
      refine wq_iload_ok h0 kd_M_holds_92 ?_
      refine wq_iadd_ok h0 kd_M_holds_94 ?_
      refine wq_iald_ok h0 hK kd_M_holds_95 ?_
      refine wq_iload_n_ok h0 kd_M_holds_96 rfl ?_
      refine wq_icmp_gt_ok (tgt := 104) h0 kd_M_holds_97 (by decide) ?_ ?_
      · exact hb_104
      refine wq_iconst_ok h0 kd_M_holds_100 (by decide +kernel) ?_
      refine wq_goto_ok (tgt := 105) h0 kd_M_holds_101 (by decide) ?_
      exact hb_105
    have hb_58 : wq_Snd p l e ({ frames := 0, cells := 0, slots := 0, locals := 0 } : Room) s m args below meth c 6 cs D kz_cl A (wq_G0 ad w) (wq_Q cs D kz_cl A (wq_G0 ad w) rt xt below s 0 0) 58 (kt_M_holds_58 rt xt K) := by
      refine wq_istore_ok h0 kd_M_holds_58 (Nat.le_of_ble_eq_true rfl) ?_
      refine wq_iconst_ok h0 kd_M_holds_60 (by decide +kernel) ?_
      refine wq_istore_ok h0 kd_M_holds_61 (Nat.le_of_ble_eq_true rfl) ?_
      exact wq_can_ok (hKc 63 (by decide))
    have hb_57 : wq_Snd p l e ({ frames := 0, cells := 0, slots := 0, locals := 0 } : Room) s m args below meth c 6 cs D kz_cl A (wq_G0 ad w) (wq_Q cs D kz_cl A (wq_G0 ad w) rt xt below s 0 0) 57 (kt_M_holds_57 rt xt K) := by
      refine wq_iconst_ok h0 kd_M_holds_57 (by decide +kernel) ?_
      exact hb_58
    have hb_43 : wq_Snd p l e ({ frames := 0, cells := 0, slots := 0, locals := 0 } : Room) s m args below meth c 6 cs D kz_cl A (wq_G0 ad w) (wq_Q cs D kz_cl A (wq_G0 ad w) rt xt below s 0 0) 43 (kt_M_holds_43 rt xt K) := by
      refine wq_iload_n_ok h0 kd_M_holds_43 rfl ?_
      refine wq_aload_n_ok h0 kd_M_holds_44 rfl ?_
      refine wq_get_ok (wq_getOK h0 hts ki_M hown hK (ci := 9) rfl 9 (Nat.le_of_ble_eq_true rfl) kw_991 rfl) kd_M_holds_45 ?_
      refine wq_iload_n_ok h0 kd_M_holds_48 rfl ?_
      refine wq_iald_ok h0 hK kd_M_holds_49 ?_
      refine wq_icmp_lt_ok (tgt := 57) h0 kd_M_holds_50 (by decide) ?_ ?_
      · exact hb_57
      refine wq_iconst_ok h0 kd_M_holds_53 (by decide +kernel) ?_
      refine wq_goto_ok (tgt := 58) h0 kd_M_holds_54 (by decide) ?_
      exact hb_58
    have hb_42 : wq_Snd p l e ({ frames := 0, cells := 0, slots := 0, locals := 0 } : Room) s m args below meth c 6 cs D kz_cl A (wq_G0 ad w) (wq_Q cs D kz_cl A (wq_G0 ad w) rt xt below s 0 0) 42 (kt_M_holds_42 rt xt K) := by
      exact wq_zreturn_ok h0 hr hlk kd_M_holds_42
    have hb_41 : wq_Snd p l e ({ frames := 0, cells := 0, slots := 0, locals := 0 } : Room) s m args below meth c 6 cs D kz_cl A (wq_G0 ad w) (wq_Q cs D kz_cl A (wq_G0 ad w) rt xt below s 0 0) 41 (kt_M_holds_41 rt xt K) := by
      refine wq_iconst_ok h0 kd_M_holds_41 (by decide +kernel) ?_
      exact hb_42
    have hb_0 : wq_Snd p l e ({ frames := 0, cells := 0, slots := 0, locals := 0 } : Room) s m args below meth c 6 cs D kz_cl A (wq_G0 ad w) (wq_Q cs D kz_cl A (wq_G0 ad w) rt xt below s 0 0) 0 (kt_M_holds_0 rt xt K) := by
      refine wq_aload_n_ok h0 kd_M_holds_0 rfl ?_
      refine wq_get_ok (wq_getOK h0 hts ki_M hown hK (ci := 9) rfl 26 (Nat.le_of_ble_eq_true rfl) kw_1008 rfl) kd_M_holds_1 ?_
      refine wq_bipush_ok h0 kd_M_holds_4 (by decide +kernel) ?_
      refine wq_iload_n_ok h0 kd_M_holds_6 rfl ?_
      refine wq_imul_ok h0 kd_M_holds_7 ?_
      refine wq_aload_n_ok h0 kd_M_holds_8 rfl ?_
      refine wq_get_ok (wq_getOK h0 hts ki_M hown hK (ci := 9) rfl 8 (Nat.le_of_ble_eq_true rfl) kw_990 rfl) kd_M_holds_9 ?_
      refine wq_iload_n_ok h0 kd_M_holds_12 rfl ?_
      refine wq_iald_ok h0 hK kd_M_holds_13 ?_
      refine wq_iadd_ok h0 kd_M_holds_14 ?_
      refine wq_iald_ok h0 hK kd_M_holds_15 ?_
      refine wq_istore_n_ok h0 kd_M_holds_16 rfl (Nat.le_of_ble_eq_true rfl) ?_
      refine wq_aload_n_ok h0 kd_M_holds_17 rfl ?_
      refine wq_get_ok (wq_getOK h0 hts ki_M hown hK (ci := 9) rfl 7 (Nat.le_of_ble_eq_true rfl) kw_989 rfl) kd_M_holds_18 ?_
      refine wq_iload_n_ok h0 kd_M_holds_21 rfl ?_
      refine wq_iald_ok h0 hK kd_M_holds_22 ?_
      refine wq_iconst_ok h0 kd_M_holds_23 (by decide +kernel) ?_
      refine wq_icmp_ne_ok (tgt := 43) h0 kd_M_holds_24 (by decide) ?_ ?_
      · exact hb_43
      refine wq_iload_n_ok h0 kd_M_holds_27 rfl ?_
      refine wq_aload_n_ok h0 kd_M_holds_28 rfl ?_
      refine wq_get_ok (wq_getOK h0 hts ki_M hown hK (ci := 9) rfl 9 (Nat.le_of_ble_eq_true rfl) kw_991 rfl) kd_M_holds_29 ?_
      refine wq_iload_n_ok h0 kd_M_holds_32 rfl ?_
      refine wq_iald_ok h0 hK kd_M_holds_33 ?_
      refine wq_icmp_ge_ok (tgt := 41) h0 kd_M_holds_34 (by decide) ?_ ?_
      · exact hb_41
      refine wq_iconst_ok h0 kd_M_holds_37 (by decide +kernel) ?_
      refine wq_goto_ok (tgt := 42) h0 kd_M_holds_38 (by decide) ?_
      exact hb_42
    refine ⟨?_, hb_0⟩
    exact List.forall_mem_cons.mpr ⟨hb_63, fun _ h => absurd h List.not_mem_nil⟩
  have hun : ∀ (n pc : Nat), pc ∈ [63] → wq_Snd p l e ({ frames := 0, cells := 0, slots := 0, locals := 0 } : Room) s m args below meth c 6 cs D kz_cl A (wq_G0 ad w) (wq_Q cs D kz_cl A (wq_G0 ad w) rt xt below s 0 0) pc (ku_M_holds rt xt n pc) := by
    intro n
    induction n with
    | zero => intro pc _ L S w9 n1 n2 h; exact h.elim
    | succ n ih => intro pc hpc; exact (hall (ku_M_holds rt xt n) ih).1 pc hpc
  exact (hall (ku_M_holds rt xt 1000000000000) (hun 1000000000000)).2 _ _ _ _ _ (wq_sp_t hsp)
set_option maxRecDepth 100000 in
set_option maxHeartbeats 4000000 in
theorem kv_M_fits {l : Launch} (hl : l.stackTraces = false) : wq_Vld l kz_cl ky_M_fits kw_T ({ frames := 1, cells := 0, slots := 0, locals := 25 }) wq_G0 ks_M_fits 0 0 := by
  refine wq_method (cc := kc_M_fits) (maxL := 5) (ret := (some .boolean)) (by decide) kw_1225 (fun _ _ => rfl) wq_sp_sz ?_
  intro p e s m args below meth c cs D ad as w rt xt hF hnt hsp
  obtain ⟨h0, hr, hts, hown, hlk, hnm, hml, hK, hZ, hN, hA⟩ := hF
  have hown : s.vm.findClass "BorderDeskModel" = some m.cls := hown
  obtain ⟨A, hAe⟩ : ∃ A, A = wq_A ad w s.heap.size := ⟨_, rfl⟩
  rw [← hAe] at hZ hA ⊢
  have hall : ∀ K : Nat → wq_T, (∀ pc, pc ∈ [5] → wq_Snd p l e ({ frames := 1, cells := 0, slots := 0, locals := 25 } : Room) s m args below meth c 5 cs D kz_cl A (wq_G0 ad w) (wq_Q cs D kz_cl A (wq_G0 ad w) rt xt below s 0 0) pc (K pc)) → (∀ pc, pc ∈ [5] → wq_Snd p l e ({ frames := 1, cells := 0, slots := 0, locals := 25 } : Room) s m args below meth c 5 cs D kz_cl A (wq_G0 ad w) (wq_Q cs D kz_cl A (wq_G0 ad w) rt xt below s 0 0) pc (cond (Nat.beq pc 5) (kh_M_fits_5 rt xt K) (fun _ _ _ _ _ => False))) ∧ wq_Snd p l e ({ frames := 1, cells := 0, slots := 0, locals := 25 } : Room) s m args below meth c 5 cs D kz_cl A (wq_G0 ad w) (wq_Q cs D kz_cl A (wq_G0 ad w) rt xt below s 0 0) 0 (kt_M_fits_0 rt xt K) := by
    intro K hKc
    have hb_55 : wq_Snd p l e ({ frames := 1, cells := 0, slots := 0, locals := 25 } : Room) s m args below meth c 5 cs D kz_cl A (wq_G0 ad w) (wq_Q cs D kz_cl A (wq_G0 ad w) rt xt below s 0 0) 55 (kt_M_fits_55 rt xt K) := by
      refine wq_iload_n_ok h0 kd_M_fits_55 rfl ?_
      exact wq_zreturn_ok h0 hr hlk kd_M_fits_56
    have hb_48 : wq_Snd p l e ({ frames := 1, cells := 0, slots := 0, locals := 25 } : Room) s m args below meth c 5 cs D kz_cl A (wq_G0 ad w) (wq_Q cs D kz_cl A (wq_G0 ad w) rt xt below s 0 0) 48 (kt_M_fits_48 rt xt K) := by
      refine wq_istore_n_ok h0 kd_M_fits_48 rfl (Nat.le_of_ble_eq_true rfl) ?_
      refine wq_iinc_ok h0 kd_M_fits_49 (by decide +kernel) (Nat.le_of_ble_eq_true rfl) ?_
      refine wq_goto_ok (tgt := 5) h0 kd_M_fits_52 (by decide) ?_
      exact wq_can_ok (hKc 5 (by decide))
    have hb_47 : wq_Snd p l e ({ frames := 1, cells := 0, slots := 0, locals := 25 } : Room) s m args below meth c 5 cs D kz_cl A (wq_G0 ad w) (wq_Q cs D kz_cl A (wq_G0 ad w) rt xt below s 0 0) 47 (kt_M_fits_47 rt xt K) := by
      refine wq_iconst_ok h0 kd_M_fits_47 (by decide +kernel) ?_
      exact hb_48
    have hb_43 : wq_Snd p l e ({ frames := 1, cells := 0, slots := 0, locals := 25 } : Room) s m args below meth c 5 cs D kz_cl A (wq_G0 ad w) (wq_Q cs D kz_cl A (wq_G0 ad w) rt xt below s 0 0) 43 (kt_M_fits_43 rt xt K) := by
      refine wq_iconst_ok h0 kd_M_fits_43 (by decide +kernel) ?_
      refine wq_goto_ok (tgt := 48) h0 kd_M_fits_44 (by decide) ?_
      exact hb_48
    have hb_5 : wq_Snd p l e ({ frames := 1, cells := 0, slots := 0, locals := 25 } : Room) s m args below meth c 5 cs D kz_cl A (wq_G0 ad w) (wq_Q cs D kz_cl A (wq_G0 ad w) rt xt below s 0 0) 5 (kh_M_fits_5 rt xt K) := by
      refine wq_iload_ok h0 kd_M_fits_5 ?_
      refine wq_aload_n_ok h0 kd_M_fits_7 rfl ?_
      refine wq_get_ok (wq_getOK h0 hts ki_M hown hK (ci := 9) rfl 5 (Nat.le_of_ble_eq_true rfl) kw_987 rfl) kd_M_fits_8 ?_
      refine wq_icmp_ge_ok (tgt := 55) h0 kd_M_fits_11 (by decide) ?_ ?_
      · exact hb_55
      refine wq_iload_n_ok h0 kd_M_fits_14 rfl ?_
      refine wq_if_eq_ok (tgt := 47) h0 kd_M_fits_15 (by decide) ?_ ?_
      · exact hb_47
      refine wq_aload_n_ok h0 kd_M_fits_18 rfl ?_
      refine wq_iload_n_ok h0 kd_M_fits_19 rfl ?_
      refine wq_aload_n_ok h0 kd_M_fits_20 rfl ?_
      refine wq_get_ok (wq_getOK h0 hts ki_M hown hK (ci := 9) rfl 6 (Nat.le_of_ble_eq_true rfl) kw_988 rfl) kd_M_fits_21 ?_
      refine wq_iload_ok h0 kd_M_fits_24 ?_
      refine wq_iald_ok h0 hK kd_M_fits_26 ?_
      refine wq_call_ok hA (wq_runV (ci := 9) ⟨h0.1, h0.2, hml, hown, hts⟩ (kv_M_isUnder hl) ⟨(wq_cB hts kw_G kw_1229 kw_10 kw_1226 ⟨by decide +kernel, by decide +kernel, by decide +kernel⟩ rfl rfl ⟨Nat.le_of_ble_eq_true rfl, Nat.le_of_ble_eq_true rfl⟩), hts _ kw_1228, hts _ kw_s32⟩ rfl rfl hK hZ hN hA kd_M_fits_27) (wq_xout_ok hnt hlk) ?_
      refine wq_if_eq_ok (tgt := 43) h0 kd_M_fits_30 (by decide) ?_ ?_
      · exact hb_43
      refine wq_aload_n_ok h0 kd_M_fits_33 rfl ?_
      refine wq_iload_ok h0 kd_M_fits_34 ?_
      refine wq_iload_n_ok h0 kd_M_fits_36 rfl ?_
      refine wq_call_ok hA (wq_runV (ci := 9) ⟨h0.1, h0.2, hml, hown, hts⟩ (kv_M_holds hl) ⟨(wq_cB hts kw_G kw_1233 kw_10 kw_1230 ⟨by decide +kernel, by decide +kernel, by decide +kernel⟩ rfl rfl ⟨Nat.le_of_ble_eq_true rfl, Nat.le_of_ble_eq_true rfl⟩), hts _ kw_1232, hts _ kw_s33⟩ rfl rfl hK hZ hN hA kd_M_fits_37) (wq_xout_ok hnt hlk) ?_
      refine wq_if_eq_ok (tgt := 47) h0 kd_M_fits_40 (by decide) ?_ ?_
      · exact hb_47
      exact hb_43
    have hb_0 : wq_Snd p l e ({ frames := 1, cells := 0, slots := 0, locals := 25 } : Room) s m args below meth c 5 cs D kz_cl A (wq_G0 ad w) (wq_Q cs D kz_cl A (wq_G0 ad w) rt xt below s 0 0) 0 (kt_M_fits_0 rt xt K) := by
      refine wq_iconst_ok h0 kd_M_fits_0 (by decide +kernel) ?_
      refine wq_istore_n_ok h0 kd_M_fits_1 rfl (Nat.le_of_ble_eq_true rfl) ?_
      refine wq_iconst_ok h0 kd_M_fits_2 (by decide +kernel) ?_
      refine wq_istore_ok h0 kd_M_fits_3 (Nat.le_of_ble_eq_true rfl) ?_
      exact wq_can_ok (hKc 5 (by decide))
    refine ⟨?_, hb_0⟩
    exact List.forall_mem_cons.mpr ⟨hb_5, fun _ h => absurd h List.not_mem_nil⟩
  have hun : ∀ (n pc : Nat), pc ∈ [5] → wq_Snd p l e ({ frames := 1, cells := 0, slots := 0, locals := 25 } : Room) s m args below meth c 5 cs D kz_cl A (wq_G0 ad w) (wq_Q cs D kz_cl A (wq_G0 ad w) rt xt below s 0 0) pc (ku_M_fits rt xt n pc) := by
    intro n
    induction n with
    | zero => intro pc _ L S w9 n1 n2 h; exact h.elim
    | succ n ih => intro pc hpc; exact (hall (ku_M_fits rt xt n) ih).1 pc hpc
  exact (hall (ku_M_fits rt xt 1000000000000) (hun 1000000000000)).2 _ _ _ _ _ (wq_sp_t hsp)
set_option maxRecDepth 100000 in
set_option maxHeartbeats 4000000 in
theorem kv_M_shareOf {l : Launch} (hl : l.stackTraces = false) : wq_Vld l kz_cl ky_M_shareOf kw_T ({ frames := 1, cells := 0, slots := 0, locals := 23 }) wq_G0 ks_M_shareOf 0 0 := by
  refine wq_method (cc := kc_M_shareOf) (maxL := 6) (ret := (some .int)) (by decide) kw_1237 (fun _ _ => rfl) wq_sp_sz ?_
  intro p e s m args below meth c cs D ad as w rt xt hF hnt hsp
  obtain ⟨h0, hr, hts, hown, hlk, hnm, hml, hK, hZ, hN, hA⟩ := hF
  have hown : s.vm.findClass "BorderDeskModel" = some m.cls := hown
  obtain ⟨A, hAe⟩ : ∃ A, A = wq_A ad w s.heap.size := ⟨_, rfl⟩
  rw [← hAe] at hZ hA ⊢
  have hall : ∀ K : Nat → wq_T, (∀ pc, pc ∈ [5] → wq_Snd p l e ({ frames := 1, cells := 0, slots := 0, locals := 23 } : Room) s m args below meth c 6 cs D kz_cl A (wq_G0 ad w) (wq_Q cs D kz_cl A (wq_G0 ad w) rt xt below s 0 0) pc (K pc)) → (∀ pc, pc ∈ [5] → wq_Snd p l e ({ frames := 1, cells := 0, slots := 0, locals := 23 } : Room) s m args below meth c 6 cs D kz_cl A (wq_G0 ad w) (wq_Q cs D kz_cl A (wq_G0 ad w) rt xt below s 0 0) pc (cond (Nat.beq pc 5) (kh_M_shareOf_5 rt xt K) (fun _ _ _ _ _ => False))) ∧ wq_Snd p l e ({ frames := 1, cells := 0, slots := 0, locals := 23 } : Room) s m args below meth c 6 cs D kz_cl A (wq_G0 ad w) (wq_Q cs D kz_cl A (wq_G0 ad w) rt xt below s 0 0) 0 (kt_M_shareOf_0 rt xt K) := by
    intro K hKc
    have hb_78 : wq_Snd p l e ({ frames := 1, cells := 0, slots := 0, locals := 23 } : Room) s m args below meth c 6 cs D kz_cl A (wq_G0 ad w) (wq_Q cs D kz_cl A (wq_G0 ad w) rt xt below s 0 0) 78 (kt_M_shareOf_78 rt xt K) := by
      refine wq_iload_n_ok h0 kd_M_shareOf_78 rfl ?_
      exact wq_ireturn_ok h0 hr hlk kd_M_shareOf_79
    have hb_71 : wq_Snd p l e ({ frames := 1, cells := 0, slots := 0, locals := 23 } : Room) s m args below meth c 6 cs D kz_cl A (wq_G0 ad w) (wq_Q cs D kz_cl A (wq_G0 ad w) rt xt below s 0 0) 71 (kt_M_shareOf_71 rt xt K) := by
      refine wq_istore_n_ok h0 kd_M_shareOf_71 rfl (Nat.le_of_ble_eq_true rfl) ?_
      refine wq_iinc_ok h0 kd_M_shareOf_72 (by decide +kernel) (Nat.le_of_ble_eq_true rfl) ?_
      refine wq_goto_ok (tgt := 5) h0 kd_M_shareOf_75 (by decide) ?_
      exact wq_can_ok (hKc 5 (by decide))
    have hb_70 : wq_Snd p l e ({ frames := 1, cells := 0, slots := 0, locals := 23 } : Room) s m args below meth c 6 cs D kz_cl A (wq_G0 ad w) (wq_Q cs D kz_cl A (wq_G0 ad w) rt xt below s 0 0) 70 (kt_M_shareOf_70 rt xt K) := by
      refine wq_iload_n_ok h0 kd_M_shareOf_70 rfl ?_
      exact hb_71
    have hb_5 : wq_Snd p l e ({ frames := 1, cells := 0, slots := 0, locals := 23 } : Room) s m args below meth c 6 cs D kz_cl A (wq_G0 ad w) (wq_Q cs D kz_cl A (wq_G0 ad w) rt xt below s 0 0) 5 (kh_M_shareOf_5 rt xt K) := by
      refine wq_iload_ok h0 kd_M_shareOf_5 ?_
      refine wq_aload_n_ok h0 kd_M_shareOf_7 rfl ?_
      refine wq_get_ok (wq_getOK h0 hts ki_M hown hK (ci := 9) rfl 5 (Nat.le_of_ble_eq_true rfl) kw_987 rfl) kd_M_shareOf_8 ?_
      refine wq_icmp_ge_ok (tgt := 78) h0 kd_M_shareOf_11 (by decide) ?_ ?_
      · exact hb_78
      refine wq_aload_n_ok h0 kd_M_shareOf_14 rfl ?_
      refine wq_get_ok (wq_getOK h0 hts ki_M hown hK (ci := 9) rfl 26 (Nat.le_of_ble_eq_true rfl) kw_1008 rfl) kd_M_shareOf_15 ?_
      refine wq_bipush_ok h0 kd_M_shareOf_18 (by decide +kernel) ?_
      refine wq_iload_n_ok h0 kd_M_shareOf_20 rfl ?_
      refine wq_imul_ok h0 kd_M_shareOf_21 ?_
      refine wq_aload_n_ok h0 kd_M_shareOf_22 rfl ?_
      refine wq_get_ok (wq_getOK h0 hts ki_M hown hK (ci := 9) rfl 8 (Nat.le_of_ble_eq_true rfl) kw_990 rfl) kd_M_shareOf_23 ?_
      refine wq_iload_ok h0 kd_M_shareOf_26 ?_
      refine wq_iald_ok h0 hK kd_M_shareOf_28 ?_
      refine wq_iadd_ok h0 kd_M_shareOf_29 ?_
      refine wq_iald_ok h0 hK kd_M_shareOf_30 ?_
      refine wq_istore_ok h0 kd_M_shareOf_31 (Nat.le_of_ble_eq_true rfl) ?_
      refine wq_aload_n_ok h0 kd_M_shareOf_33 rfl ?_
      refine wq_get_ok (wq_getOK h0 hts ki_M hown hK (ci := 9) rfl 7 (Nat.le_of_ble_eq_true rfl) kw_989 rfl) kd_M_shareOf_34 ?_
      refine wq_iload_ok h0 kd_M_shareOf_37 ?_
      refine wq_iald_ok h0 hK kd_M_shareOf_39 ?_
      refine wq_iconst_ok h0 kd_M_shareOf_40 (by decide +kernel) ?_
      refine wq_icmp_ne_ok (tgt := 70) h0 kd_M_shareOf_41 (by decide) ?_ ?_
      · exact hb_70
      refine wq_aload_n_ok h0 kd_M_shareOf_44 rfl ?_
      refine wq_iload_n_ok h0 kd_M_shareOf_45 rfl ?_
      refine wq_aload_n_ok h0 kd_M_shareOf_46 rfl ?_
      refine wq_get_ok (wq_getOK h0 hts ki_M hown hK (ci := 9) rfl 6 (Nat.le_of_ble_eq_true rfl) kw_988 rfl) kd_M_shareOf_47 ?_
      refine wq_iload_ok h0 kd_M_shareOf_50 ?_
      refine wq_iald_ok h0 hK kd_M_shareOf_52 ?_
      refine wq_call_ok hA (wq_runV (ci := 9) ⟨h0.1, h0.2, hml, hown, hts⟩ (kv_M_isUnder hl) ⟨(wq_cB hts kw_G kw_1229 kw_10 kw_1226 ⟨by decide +kernel, by decide +kernel, by decide +kernel⟩ rfl rfl ⟨Nat.le_of_ble_eq_true rfl, Nat.le_of_ble_eq_true rfl⟩), hts _ kw_1228, hts _ kw_s32⟩ rfl rfl hK hZ hN hA kd_M_shareOf_53) (wq_xout_ok hnt hlk) ?_
      refine wq_if_eq_ok (tgt := 70) h0 kd_M_shareOf_56 (by decide) ?_ ?_
      · exact hb_70
      refine wq_iload_ok h0 kd_M_shareOf_59 ?_
      refine wq_iload_n_ok h0 kd_M_shareOf_61 rfl ?_
      refine wq_icmp_le_ok (tgt := 70) h0 kd_M_shareOf_62 (by decide) ?_ ?_
      · exact hb_70
      refine wq_iload_ok h0 kd_M_shareOf_65 ?_
      refine wq_goto_ok (tgt := 71) h0 kd_M_shareOf_67 (by decide) ?_
      exact hb_71
    have hb_0 : wq_Snd p l e ({ frames := 1, cells := 0, slots := 0, locals := 23 } : Room) s m args below meth c 6 cs D kz_cl A (wq_G0 ad w) (wq_Q cs D kz_cl A (wq_G0 ad w) rt xt below s 0 0) 0 (kt_M_shareOf_0 rt xt K) := by
      refine wq_iconst_ok h0 kd_M_shareOf_0 (by decide +kernel) ?_
      refine wq_istore_n_ok h0 kd_M_shareOf_1 rfl (Nat.le_of_ble_eq_true rfl) ?_
      refine wq_iconst_ok h0 kd_M_shareOf_2 (by decide +kernel) ?_
      refine wq_istore_ok h0 kd_M_shareOf_3 (Nat.le_of_ble_eq_true rfl) ?_
      exact wq_can_ok (hKc 5 (by decide))
    refine ⟨?_, hb_0⟩
    exact List.forall_mem_cons.mpr ⟨hb_5, fun _ h => absurd h List.not_mem_nil⟩
  have hun : ∀ (n pc : Nat), pc ∈ [5] → wq_Snd p l e ({ frames := 1, cells := 0, slots := 0, locals := 23 } : Room) s m args below meth c 6 cs D kz_cl A (wq_G0 ad w) (wq_Q cs D kz_cl A (wq_G0 ad w) rt xt below s 0 0) pc (ku_M_shareOf rt xt n pc) := by
    intro n
    induction n with
    | zero => intro pc _ L S w9 n1 n2 h; exact h.elim
    | succ n ih => intro pc hpc; exact (hall (ku_M_shareOf rt xt n) ih).1 pc hpc
  exact (hall (ku_M_shareOf rt xt 1000000000000) (hun 1000000000000)).2 _ _ _ _ _ (wq_sp_t hsp)
set_option maxRecDepth 100000 in
set_option maxHeartbeats 4000000 in
theorem kv_M_classOf {l : Launch} (hl : l.stackTraces = false) : wq_Vld l kz_cl ky_M_classOf kw_T ({ frames := 2, cells := 0, slots := 0, locals := 49 }) wq_G0 ks_M_classOf 0 0 := by
  refine wq_method (cc := kc_M_classOf) (maxL := 5) (ret := (some .int)) (by decide) kw_1221 (fun _ _ => rfl) wq_sp_sz ?_
  intro p e s m args below meth c cs D ad as w rt xt hF hnt hsp
  obtain ⟨h0, hr, hts, hown, hlk, hnm, hml, hK, hZ, hN, hA⟩ := hF
  have hown : s.vm.findClass "BorderDeskModel" = some m.cls := hown
  obtain ⟨A, hAe⟩ : ∃ A, A = wq_A ad w s.heap.size := ⟨_, rfl⟩
  rw [← hAe] at hZ hA ⊢
  have hall : ∀ K : Nat → wq_T, (∀ pc, pc ∈ [4] → wq_Snd p l e ({ frames := 2, cells := 0, slots := 0, locals := 49 } : Room) s m args below meth c 5 cs D kz_cl A (wq_G0 ad w) (wq_Q cs D kz_cl A (wq_G0 ad w) rt xt below s 0 0) pc (K pc)) → (∀ pc, pc ∈ [4] → wq_Snd p l e ({ frames := 2, cells := 0, slots := 0, locals := 49 } : Room) s m args below meth c 5 cs D kz_cl A (wq_G0 ad w) (wq_Q cs D kz_cl A (wq_G0 ad w) rt xt below s 0 0) pc (cond (Nat.beq pc 4) (kh_M_classOf_4 rt xt K) (fun _ _ _ _ _ => False))) ∧ wq_Snd p l e ({ frames := 2, cells := 0, slots := 0, locals := 49 } : Room) s m args below meth c 5 cs D kz_cl A (wq_G0 ad w) (wq_Q cs D kz_cl A (wq_G0 ad w) rt xt below s 0 0) 0 (kt_M_classOf_0 rt xt K) := by
    intro K hKc
    have hb_79 : wq_Snd p l e ({ frames := 2, cells := 0, slots := 0, locals := 49 } : Room) s m args below meth c 5 cs D kz_cl A (wq_G0 ad w) (wq_Q cs D kz_cl A (wq_G0 ad w) rt xt below s 0 0) 79 (kt_M_classOf_79 rt xt K) := by
      refine wq_iload_n_ok h0 kd_M_classOf_79 rfl ?_
      exact wq_ireturn_ok h0 hr hlk kd_M_classOf_80
    have hb_73 : wq_Snd p l e ({ frames := 2, cells := 0, slots := 0, locals := 49 } : Room) s m args below meth c 5 cs D kz_cl A (wq_G0 ad w) (wq_Q cs D kz_cl A (wq_G0 ad w) rt xt below s 0 0) 73 (kt_M_classOf_73 rt xt K) := by
      refine wq_iinc_ok h0 kd_M_classOf_73 (by decide +kernel) (Nat.le_of_ble_eq_true rfl) ?_
      refine wq_goto_ok (tgt := 4) h0 kd_M_classOf_76 (by decide) ?_
      exact wq_can_ok (hKc 4 (by decide))
    have hb_72 : wq_Snd p l e ({ frames := 2, cells := 0, slots := 0, locals := 49 } : Room) s m args below meth c 5 cs D kz_cl A (wq_G0 ad w) (wq_Q cs D kz_cl A (wq_G0 ad w) rt xt below s 0 0) 72 (kt_M_classOf_72 rt xt K) := by
      refine wq_istore_n_ok h0 kd_M_classOf_72 rfl (Nat.le_of_ble_eq_true rfl) ?_
      exact hb_73
    have hb_67 : wq_Snd p l e ({ frames := 2, cells := 0, slots := 0, locals := 49 } : Room) s m args below meth c 5 cs D kz_cl A (wq_G0 ad w) (wq_Q cs D kz_cl A (wq_G0 ad w) rt xt below s 0 0) 67 (kt_M_classOf_67 rt xt K) := by
      refine wq_iload_n_ok h0 kd_M_classOf_67 rfl ?_
      refine wq_goto_ok (tgt := 72) h0 kd_M_classOf_68 (by decide) ?_
      exact hb_72
    have hb_71 : wq_Snd p l e ({ frames := 2, cells := 0, slots := 0, locals := 49 } : Room) s m args below meth c 5 cs D kz_cl A (wq_G0 ad w) (wq_Q cs D kz_cl A (wq_G0 ad w) rt xt below s 0 0) 71 (kt_M_classOf_71 rt xt K) := by
      refine wq_iload_n_ok h0 kd_M_classOf_71 rfl ?_
      exact hb_72
    have hb_40 : wq_Snd p l e ({ frames := 2, cells := 0, slots := 0, locals := 49 } : Room) s m args below meth c 5 cs D kz_cl A (wq_G0 ad w) (wq_Q cs D kz_cl A (wq_G0 ad w) rt xt below s 0 0) 40 (kt_M_classOf_40 rt xt K) := by
      refine wq_istore_ok h0 kd_M_classOf_40 (Nat.le_of_ble_eq_true rfl) ?_
      refine wq_iload_ok h0 kd_M_classOf_42 ?_
      refine wq_if_gt_ok (tgt := 67) h0 kd_M_classOf_44 (by decide) ?_ ?_
      · exact hb_67
      refine wq_iload_ok h0 kd_M_classOf_47 ?_
      refine wq_if_ne_ok (tgt := 71) h0 kd_M_classOf_49 (by decide) ?_ ?_
      · exact hb_71
      refine wq_aload_n_ok h0 kd_M_classOf_52 rfl ?_
      refine wq_iload_n_ok h0 kd_M_classOf_53 rfl ?_
      refine wq_iload_n_ok h0 kd_M_classOf_54 rfl ?_
      refine wq_call_ok hA (wq_runV (ci := 9) ⟨h0.1, h0.2, hml, hown, hts⟩ (kv_M_shareOf hl) ⟨(wq_cB hts kw_G kw_1237 kw_10 kw_1234 ⟨by decide +kernel, by decide +kernel, by decide +kernel⟩ rfl rfl ⟨Nat.le_of_ble_eq_true rfl, Nat.le_of_ble_eq_true rfl⟩), hts _ kw_1236, hts _ kw_s34⟩ rfl rfl hK hZ hN hA kd_M_classOf_55) (wq_xout_ok hnt hlk) ?_
      refine wq_aload_n_ok h0 kd_M_classOf_58 rfl ?_
      refine wq_iload_n_ok h0 kd_M_classOf_59 rfl ?_
      refine wq_iload_n_ok h0 kd_M_classOf_60 rfl ?_
      refine wq_call_ok hA (wq_runV (ci := 9) ⟨h0.1, h0.2, hml, hown, hts⟩ (kv_M_shareOf hl) ⟨(wq_cB hts kw_G kw_1237 kw_10 kw_1234 ⟨by decide +kernel, by decide +kernel, by decide +kernel⟩ rfl rfl ⟨Nat.le_of_ble_eq_true rfl, Nat.le_of_ble_eq_true rfl⟩), hts _ kw_1236, hts _ kw_s34⟩ rfl rfl hK hZ hN hA kd_M_classOf_61) (wq_xout_ok hnt hlk) ?_
      refine wq_icmp_lt_ok (tgt := 71) h0 kd_M_classOf_64 (by decide) ?_ ?_
      · exact hb_71
      exact hb_67
    have hb_29 : wq_Snd p l e ({ frames := 2, cells := 0, slots := 0, locals := 49 } : Room) s m args below meth c 5 cs D kz_cl A (wq_G0 ad w) (wq_Q cs D kz_cl A (wq_G0 ad w) rt xt below s 0 0) 29 (kt_M_classOf_29 rt xt K) := by
      refine wq_aload_n_ok h0 kd_M_classOf_29 rfl ?_
      refine wq_iload_n_ok h0 kd_M_classOf_30 rfl ?_
      refine wq_call_ok hA (wq_runV (ci := 9) ⟨h0.1, h0.2, hml, hown, hts⟩ (kv_M_depthOf hl) ⟨(wq_cB hts kw_G kw_1202 kw_10 kw_1199 ⟨by decide +kernel, by decide +kernel, by decide +kernel⟩ rfl rfl ⟨Nat.le_of_ble_eq_true rfl, Nat.le_of_ble_eq_true rfl⟩), hts _ kw_1201, hts _ kw_s29⟩ rfl rfl hK hZ hN hA kd_M_classOf_31) (wq_xout_ok hnt hlk) ?_
      refine wq_aload_n_ok h0 kd_M_classOf_34 rfl ?_
      refine wq_iload_n_ok h0 kd_M_classOf_35 rfl ?_
      refine wq_call_ok hA (wq_runV (ci := 9) ⟨h0.1, h0.2, hml, hown, hts⟩ (kv_M_depthOf hl) ⟨(wq_cB hts kw_G kw_1202 kw_10 kw_1199 ⟨by decide +kernel, by decide +kernel, by decide +kernel⟩ rfl rfl ⟨Nat.le_of_ble_eq_true rfl, Nat.le_of_ble_eq_true rfl⟩), hts _ kw_1201, hts _ kw_s29⟩ rfl rfl hK hZ hN hA kd_M_classOf_36) (wq_xout_ok hnt hlk) ?_
      refine wq_isub_ok h0 kd_M_classOf_39 ?_
      exact hb_40
    have hb_4 : wq_Snd p l e ({ frames := 2, cells := 0, slots := 0, locals := 49 } : Room) s m args below meth c 5 cs D kz_cl A (wq_G0 ad w) (wq_Q cs D kz_cl A (wq_G0 ad w) rt xt below s 0 0) 4 (kh_M_classOf_4 rt xt K) := by
      refine wq_iload_n_ok h0 kd_M_classOf_4 rfl ?_
      refine wq_aload_n_ok h0 kd_M_classOf_5 rfl ?_
      refine wq_get_ok (wq_getOK h0 hts ki_M hown hK (ci := 9) rfl 1 (Nat.le_of_ble_eq_true rfl) kw_983 rfl) kd_M_classOf_6 ?_
      refine wq_icmp_ge_ok (tgt := 79) h0 kd_M_classOf_9 (by decide) ?_ ?_
      · exact hb_79
      refine wq_aload_n_ok h0 kd_M_classOf_12 rfl ?_
      refine wq_iload_n_ok h0 kd_M_classOf_13 rfl ?_
      refine wq_iload_n_ok h0 kd_M_classOf_14 rfl ?_
      refine wq_call_ok hA (wq_runV (ci := 9) ⟨h0.1, h0.2, hml, hown, hts⟩ (kv_M_fits hl) ⟨(wq_cB hts kw_G kw_1225 kw_10 kw_1222 ⟨by decide +kernel, by decide +kernel, by decide +kernel⟩ rfl rfl ⟨Nat.le_of_ble_eq_true rfl, Nat.le_of_ble_eq_true rfl⟩), hts _ kw_1224, hts _ kw_s31⟩ rfl rfl hK hZ hN hA kd_M_classOf_15) (wq_xout_ok hnt hlk) ?_
      refine wq_if_eq_ok (tgt := 73) h0 kd_M_classOf_18 (by decide) ?_ ?_
      · exact hb_73
      refine wq_iload_n_ok h0 kd_M_classOf_21 rfl ?_
      refine wq_if_ge_ok (tgt := 29) h0 kd_M_classOf_22 (by decide) ?_ ?_
      · exact hb_29
      refine wq_iconst_ok h0 kd_M_classOf_25 (by decide +kernel) ?_
      refine wq_goto_ok (tgt := 40) h0 kd_M_classOf_26 (by decide) ?_
      exact hb_40
    have hb_0 : wq_Snd p l e ({ frames := 2, cells := 0, slots := 0, locals := 49 } : Room) s m args below meth c 5 cs D kz_cl A (wq_G0 ad w) (wq_Q cs D kz_cl A (wq_G0 ad w) rt xt below s 0 0) 0 (kt_M_classOf_0 rt xt K) := by
      refine wq_iconst_ok h0 kd_M_classOf_0 (by decide +kernel) ?_
      refine wq_istore_n_ok h0 kd_M_classOf_1 rfl (Nat.le_of_ble_eq_true rfl) ?_
      refine wq_iconst_ok h0 kd_M_classOf_2 (by decide +kernel) ?_
      refine wq_istore_n_ok h0 kd_M_classOf_3 rfl (Nat.le_of_ble_eq_true rfl) ?_
      exact wq_can_ok (hKc 4 (by decide))
    refine ⟨?_, hb_0⟩
    exact List.forall_mem_cons.mpr ⟨hb_4, fun _ h => absurd h List.not_mem_nil⟩
  have hun : ∀ (n pc : Nat), pc ∈ [4] → wq_Snd p l e ({ frames := 2, cells := 0, slots := 0, locals := 49 } : Room) s m args below meth c 5 cs D kz_cl A (wq_G0 ad w) (wq_Q cs D kz_cl A (wq_G0 ad w) rt xt below s 0 0) pc (ku_M_classOf rt xt n pc) := by
    intro n
    induction n with
    | zero => intro pc _ L S w9 n1 n2 h; exact h.elim
    | succ n ih => intro pc hpc; exact (hall (ku_M_classOf rt xt n) ih).1 pc hpc
  exact (hall (ku_M_classOf rt xt 1000000000000) (hun 1000000000000)).2 _ _ _ _ _ (wq_sp_t hsp)
set_option maxRecDepth 100000 in
set_option maxHeartbeats 4000000 in
theorem kv_M_heading {l : Launch} (hl : l.stackTraces = false) : wq_Vld l kz_cl ky_M_heading kw_T ({ frames := 1, cells := 0, slots := 0, locals := 23 }) wq_G0 ks_M_heading 0 0 := by
  refine wq_method (cc := kc_M_heading) (maxL := 2) (ret := (some .int)) (by decide) kw_1194 (fun _ _ => rfl) wq_sp_sz ?_
  intro p e s m args below meth c cs D ad as w rt xt hF hnt hsp
  obtain ⟨h0, hr, hts, hown, hlk, hnm, hml, hK, hZ, hN, hA⟩ := hF
  have hown : s.vm.findClass "BorderDeskModel" = some m.cls := hown
  obtain ⟨A, hAe⟩ : ∃ A, A = wq_A ad w s.heap.size := ⟨_, rfl⟩
  rw [← hAe] at hZ hA ⊢
  have hb_57 : wq_Snd p l e ({ frames := 1, cells := 0, slots := 0, locals := 23 } : Room) s m args below meth c 2 cs D kz_cl A (wq_G0 ad w) (wq_Q cs D kz_cl A (wq_G0 ad w) rt xt below s 0 0) 57 (kt_M_heading_57 rt xt) := by
    refine wq_aload_n_ok h0 kd_M_heading_57 rfl ?_
    refine wq_get_ok (wq_getOK h0 hts ki_M hown hK (ci := 9) rfl 2 (Nat.le_of_ble_eq_true rfl) kw_984 rfl) kd_M_heading_58 ?_
    refine wq_aload_n_ok h0 kd_M_heading_61 rfl ?_
    refine wq_get_ok (wq_getOK h0 hts ki_M hown hK (ci := 9) rfl 1 (Nat.le_of_ble_eq_true rfl) kw_983 rfl) kd_M_heading_62 ?_
    refine wq_iload_n_ok h0 kd_M_heading_65 rfl ?_
    refine wq_iast_ok h0 hK kd_M_heading_66 ?_
    refine wq_aload_n_ok h0 kd_M_heading_67 rfl ?_
    refine wq_get_ok (wq_getOK h0 hts ki_M hown hK (ci := 9) rfl 3 (Nat.le_of_ble_eq_true rfl) kw_985 rfl) kd_M_heading_68 ?_
    refine wq_aload_n_ok h0 kd_M_heading_71 rfl ?_
    refine wq_get_ok (wq_getOK h0 hts ki_M hown hK (ci := 9) rfl 1 (Nat.le_of_ble_eq_true rfl) kw_983 rfl) kd_M_heading_72 ?_
    refine wq_iconst_ok h0 kd_M_heading_75 (by decide +kernel) ?_
    refine wq_iast_ok h0 hK kd_M_heading_76 ?_
    refine wq_aload_n_ok h0 kd_M_heading_77 rfl ?_
    refine wq_dup_ok h0 kd_M_heading_78 ?_
    refine wq_get_ok (wq_getOK h0 hts ki_M hown hK (ci := 9) rfl 1 (Nat.le_of_ble_eq_true rfl) kw_983 rfl) kd_M_heading_79 ?_
    refine wq_iconst_ok h0 kd_M_heading_82 (by decide +kernel) ?_
    refine wq_iadd_ok h0 kd_M_heading_83 ?_
    refine wq_put_ok (wq_putOK h0 hts ki_M ka_M kb_M kn_M hown hK (ci := 9) rfl 1 (Nat.le_of_ble_eq_true rfl) kw_983 rfl (Or.inl rfl) wq_okI) kd_M_heading_84 ?_
    refine wq_aload_n_ok h0 kd_M_heading_87 rfl ?_
    refine wq_get_ok (wq_getOK h0 hts ki_M hown hK (ci := 9) rfl 1 (Nat.le_of_ble_eq_true rfl) kw_983 rfl) kd_M_heading_88 ?_
    refine wq_iconst_ok h0 kd_M_heading_91 (by decide +kernel) ?_
    refine wq_isub_ok h0 kd_M_heading_92 ?_
    exact wq_ireturn_ok h0 hr hlk kd_M_heading_93
  have hb_45 : wq_Snd p l e ({ frames := 1, cells := 0, slots := 0, locals := 23 } : Room) s m args below meth c 2 cs D kz_cl A (wq_G0 ad w) (wq_Q cs D kz_cl A (wq_G0 ad w) rt xt below s 0 0) 45 (kt_M_heading_45 rt xt) := by
    refine wq_put_ok (wq_putOK h0 hts ki_M ka_M kb_M kn_M hown hK (ci := 9) rfl 0 (Nat.le_of_ble_eq_true rfl) kw_982 rfl (Or.inl rfl) wq_okI) kd_M_heading_45 ?_
    refine wq_aload_n_ok h0 kd_M_heading_48 rfl ?_
    refine wq_get_ok (wq_getOK h0 hts ki_M hown hK (ci := 9) rfl 0 (Nat.le_of_ble_eq_true rfl) kw_982 rfl) kd_M_heading_49 ?_
    refine wq_if_le_ok (tgt := 57) h0 kd_M_heading_52 (by decide) ?_ ?_
    · exact hb_57
    refine wq_iconst_ok h0 kd_M_heading_55 (by decide +kernel) ?_
    exact wq_ireturn_ok h0 hr hlk kd_M_heading_56
  have hb_40 : wq_Snd p l e ({ frames := 1, cells := 0, slots := 0, locals := 23 } : Room) s m args below meth c 2 cs D kz_cl A (wq_G0 ad w) (wq_Q cs D kz_cl A (wq_G0 ad w) rt xt below s 0 0) 40 (kt_M_heading_40 rt xt) := by
    refine wq_iconst_ok h0 kd_M_heading_40 (by decide +kernel) ?_
    refine wq_goto_ok (tgt := 45) h0 kd_M_heading_41 (by decide) ?_
    exact hb_45
  have hb_44 : wq_Snd p l e ({ frames := 1, cells := 0, slots := 0, locals := 23 } : Room) s m args below meth c 2 cs D kz_cl A (wq_G0 ad w) (wq_Q cs D kz_cl A (wq_G0 ad w) rt xt below s 0 0) 44 (kt_M_heading_44 rt xt) := by
    refine wq_iconst_ok h0 kd_M_heading_44 (by decide +kernel) ?_
    exact hb_45
  have hb_18 : wq_Snd p l e ({ frames := 1, cells := 0, slots := 0, locals := 23 } : Room) s m args below meth c 2 cs D kz_cl A (wq_G0 ad w) (wq_Q cs D kz_cl A (wq_G0 ad w) rt xt below s 0 0) 18 (kt_M_heading_18 rt xt) := by
    refine wq_aload_n_ok h0 kd_M_heading_18 rfl ?_
    refine wq_get_ok (wq_getOK h0 hts ki_M hown hK (ci := 9) rfl 1 (Nat.le_of_ble_eq_true rfl) kw_983 rfl) kd_M_heading_19 ?_
    refine wq_bipush_ok h0 kd_M_heading_22 (by decide +kernel) ?_
    refine wq_icmp_eq_ok (tgt := 40) h0 kd_M_heading_24 (by decide) ?_ ?_
    · exact hb_40
    refine wq_iload_n_ok h0 kd_M_heading_27 rfl ?_
    refine wq_if_lt_ok (tgt := 44) h0 kd_M_heading_28 (by decide) ?_ ?_
    · exact hb_44
    refine wq_aload_n_ok h0 kd_M_heading_31 rfl ?_
    refine wq_iload_n_ok h0 kd_M_heading_32 rfl ?_
    refine wq_call_ok hA (wq_runV (ci := 9) ⟨h0.1, h0.2, hml, hown, hts⟩ (kv_M_depthOf hl) ⟨(wq_cB hts kw_G kw_1202 kw_10 kw_1199 ⟨by decide +kernel, by decide +kernel, by decide +kernel⟩ rfl rfl ⟨Nat.le_of_ble_eq_true rfl, Nat.le_of_ble_eq_true rfl⟩), hts _ kw_1201, hts _ kw_s29⟩ rfl rfl hK hZ hN hA kd_M_heading_33) (wq_xout_ok hnt hlk) ?_
    refine wq_iconst_ok h0 kd_M_heading_36 (by decide +kernel) ?_
    refine wq_icmp_ne_ok (tgt := 44) h0 kd_M_heading_37 (by decide) ?_ ?_
    · exact hb_44
    exact hb_40
  have hb_0 : wq_Snd p l e ({ frames := 1, cells := 0, slots := 0, locals := 23 } : Room) s m args below meth c 2 cs D kz_cl A (wq_G0 ad w) (wq_Q cs D kz_cl A (wq_G0 ad w) rt xt below s 0 0) 0 (kt_M_heading_0 rt xt) := by
    refine wq_aload_n_ok h0 kd_M_heading_0 rfl ?_
    refine wq_iload_n_ok h0 kd_M_heading_1 rfl ?_
    refine wq_iconst_ok h0 kd_M_heading_2 (by decide +kernel) ?_
    refine wq_icmp_eq_ok (tgt := 18) h0 kd_M_heading_3 (by decide) ?_ ?_
    · exact hb_18
    refine wq_aload_n_ok h0 kd_M_heading_6 rfl ?_
    refine wq_iload_n_ok h0 kd_M_heading_7 rfl ?_
    refine wq_call_ok hA (wq_runV (ci := 9) ⟨h0.1, h0.2, hml, hown, hts⟩ (kv_M_isHeading hl) ⟨(wq_cB hts kw_G kw_1198 kw_10 kw_1195 ⟨by decide +kernel, by decide +kernel, by decide +kernel⟩ rfl rfl ⟨Nat.le_of_ble_eq_true rfl, Nat.le_of_ble_eq_true rfl⟩), hts _ kw_1197, hts _ kw_s28⟩ rfl rfl hK hZ hN hA kd_M_heading_8) (wq_xout_ok hnt hlk) ?_
    refine wq_if_ne_ok (tgt := 18) h0 kd_M_heading_11 (by decide) ?_ ?_
    · exact hb_18
    refine wq_iconst_ok h0 kd_M_heading_14 (by decide +kernel) ?_
    refine wq_goto_ok (tgt := 45) h0 kd_M_heading_15 (by decide) ?_
    exact hb_45
  exact hb_0 _ _ _ _ _ (wq_sp_t hsp)
set_option maxRecDepth 100000 in
set_option maxHeartbeats 4000000 in
theorem kv_M_note {l : Launch} (hl : l.stackTraces = false) : wq_Vld l kz_cl ky_M_note kw_T ({ frames := 1, cells := 0, slots := 0, locals := 22 }) wq_G0 ks_M_note 0 0 := by
  refine wq_method (cc := kc_M_note) (maxL := 6) (ret := (some .int)) (by decide) kw_1206 (fun _ _ => rfl) wq_sp_sz ?_
  intro p e s m args below meth c cs D ad as w rt xt hF hnt hsp
  obtain ⟨h0, hr, hts, hown, hlk, hnm, hml, hK, hZ, hN, hA⟩ := hF
  have hown : s.vm.findClass "BorderDeskModel" = some m.cls := hown
  obtain ⟨A, hAe⟩ : ∃ A, A = wq_A ad w s.heap.size := ⟨_, rfl⟩
  rw [← hAe] at hZ hA ⊢
  have hb_91 : wq_Snd p l e ({ frames := 1, cells := 0, slots := 0, locals := 22 } : Room) s m args below meth c 6 cs D kz_cl A (wq_G0 ad w) (wq_Q cs D kz_cl A (wq_G0 ad w) rt xt below s 0 0) 91 (kt_M_note_91 rt xt) := by
    refine wq_aload_n_ok h0 kd_M_note_91 rfl ?_
    refine wq_get_ok (wq_getOK h0 hts ki_M hown hK (ci := 9) rfl 6 (Nat.le_of_ble_eq_true rfl) kw_988 rfl) kd_M_note_92 ?_
    refine wq_aload_n_ok h0 kd_M_note_95 rfl ?_
    refine wq_get_ok (wq_getOK h0 hts ki_M hown hK (ci := 9) rfl 5 (Nat.le_of_ble_eq_true rfl) kw_987 rfl) kd_M_note_96 ?_
    refine wq_iload_n_ok h0 kd_M_note_99 rfl ?_
    refine wq_iast_ok h0 hK kd_M_note_100 ?_
    refine wq_aload_n_ok h0 kd_M_note_101 rfl ?_
    refine wq_get_ok (wq_getOK h0 hts ki_M hown hK (ci := 9) rfl 7 (Nat.le_of_ble_eq_true rfl) kw_989 rfl) kd_M_note_102 ?_
    refine wq_aload_n_ok h0 kd_M_note_105 rfl ?_
    refine wq_get_ok (wq_getOK h0 hts ki_M hown hK (ci := 9) rfl 5 (Nat.le_of_ble_eq_true rfl) kw_987 rfl) kd_M_note_106 ?_
    refine wq_iload_n_ok h0 kd_M_note_109 rfl ?_
    refine wq_iast_ok h0 hK kd_M_note_110 ?_
    refine wq_aload_n_ok h0 kd_M_note_111 rfl ?_
    refine wq_get_ok (wq_getOK h0 hts ki_M hown hK (ci := 9) rfl 8 (Nat.le_of_ble_eq_true rfl) kw_990 rfl) kd_M_note_112 ?_
    refine wq_aload_n_ok h0 kd_M_note_115 rfl ?_
    refine wq_get_ok (wq_getOK h0 hts ki_M hown hK (ci := 9) rfl 5 (Nat.le_of_ble_eq_true rfl) kw_987 rfl) kd_M_note_116 ?_
    refine wq_iload_n_ok h0 kd_M_note_119 rfl ?_
    refine wq_iast_ok h0 hK kd_M_note_120 ?_
    refine wq_aload_n_ok h0 kd_M_note_121 rfl ?_
    refine wq_get_ok (wq_getOK h0 hts ki_M hown hK (ci := 9) rfl 9 (Nat.le_of_ble_eq_true rfl) kw_991 rfl) kd_M_note_122 ?_
    refine wq_aload_n_ok h0 kd_M_note_125 rfl ?_
    refine wq_get_ok (wq_getOK h0 hts ki_M hown hK (ci := 9) rfl 5 (Nat.le_of_ble_eq_true rfl) kw_987 rfl) kd_M_note_126 ?_
    refine wq_iload_ok h0 kd_M_note_129 ?_
    refine wq_iast_ok h0 hK kd_M_note_131 ?_
    refine wq_aload_n_ok h0 kd_M_note_132 rfl ?_
    refine wq_dup_ok h0 kd_M_note_133 ?_
    refine wq_get_ok (wq_getOK h0 hts ki_M hown hK (ci := 9) rfl 5 (Nat.le_of_ble_eq_true rfl) kw_987 rfl) kd_M_note_134 ?_
    refine wq_iconst_ok h0 kd_M_note_137 (by decide +kernel) ?_
    refine wq_iadd_ok h0 kd_M_note_138 ?_
    refine wq_put_ok (wq_putOK h0 hts ki_M ka_M kb_M kn_M hown hK (ci := 9) rfl 5 (Nat.le_of_ble_eq_true rfl) kw_987 rfl (Or.inl rfl) wq_okI) kd_M_note_139 ?_
    refine wq_aload_n_ok h0 kd_M_note_142 rfl ?_
    refine wq_get_ok (wq_getOK h0 hts ki_M hown hK (ci := 9) rfl 5 (Nat.le_of_ble_eq_true rfl) kw_987 rfl) kd_M_note_143 ?_
    refine wq_iconst_ok h0 kd_M_note_146 (by decide +kernel) ?_
    refine wq_isub_ok h0 kd_M_note_147 ?_
    exact wq_ireturn_ok h0 hr hlk kd_M_note_148
  have hb_79 : wq_Snd p l e ({ frames := 1, cells := 0, slots := 0, locals := 22 } : Room) s m args below meth c 6 cs D kz_cl A (wq_G0 ad w) (wq_Q cs D kz_cl A (wq_G0 ad w) rt xt below s 0 0) 79 (kt_M_note_79 rt xt) := by
    refine wq_put_ok (wq_putOK h0 hts ki_M ka_M kb_M kn_M hown hK (ci := 9) rfl 0 (Nat.le_of_ble_eq_true rfl) kw_982 rfl (Or.inl rfl) wq_okI) kd_M_note_79 ?_
    refine wq_aload_n_ok h0 kd_M_note_82 rfl ?_
    refine wq_get_ok (wq_getOK h0 hts ki_M hown hK (ci := 9) rfl 0 (Nat.le_of_ble_eq_true rfl) kw_982 rfl) kd_M_note_83 ?_
    refine wq_if_le_ok (tgt := 91) h0 kd_M_note_86 (by decide) ?_ ?_
    · exact hb_91
    refine wq_iconst_ok h0 kd_M_note_89 (by decide +kernel) ?_
    exact wq_ireturn_ok h0 hr hlk kd_M_note_90
  have hb_78 : wq_Snd p l e ({ frames := 1, cells := 0, slots := 0, locals := 22 } : Room) s m args below meth c 6 cs D kz_cl A (wq_G0 ad w) (wq_Q cs D kz_cl A (wq_G0 ad w) rt xt below s 0 0) 78 (kt_M_note_78 rt xt) := by
    refine wq_iconst_ok h0 kd_M_note_78 (by decide +kernel) ?_
    exact hb_79
  have hb_65 : wq_Snd p l e ({ frames := 1, cells := 0, slots := 0, locals := 22 } : Room) s m args below meth c 6 cs D kz_cl A (wq_G0 ad w) (wq_Q cs D kz_cl A (wq_G0 ad w) rt xt below s 0 0) 65 (kt_M_note_65 rt xt) := by
    refine wq_aload_n_ok h0 kd_M_note_65 rfl ?_
    refine wq_get_ok (wq_getOK h0 hts ki_M hown hK (ci := 9) rfl 5 (Nat.le_of_ble_eq_true rfl) kw_987 rfl) kd_M_note_66 ?_
    refine wq_bipush_ok h0 kd_M_note_69 (by decide +kernel) ?_
    refine wq_icmp_ne_ok (tgt := 78) h0 kd_M_note_71 (by decide) ?_ ?_
    · exact hb_78
    refine wq_iconst_ok h0 kd_M_note_74 (by decide +kernel) ?_
    refine wq_goto_ok (tgt := 79) h0 kd_M_note_75 (by decide) ?_
    exact hb_79
  have hb_53 : wq_Snd p l e ({ frames := 1, cells := 0, slots := 0, locals := 22 } : Room) s m args below meth c 6 cs D kz_cl A (wq_G0 ad w) (wq_Q cs D kz_cl A (wq_G0 ad w) rt xt below s 0 0) 53 (kt_M_note_53 rt xt) := by
    refine wq_istore_ok h0 kd_M_note_53 (Nat.le_of_ble_eq_true rfl) ?_
    refine wq_aload_n_ok h0 kd_M_note_55 rfl ?_
    refine wq_iload_ok h0 kd_M_note_56 ?_
    refine wq_if_ne_ok (tgt := 65) h0 kd_M_note_58 (by decide) ?_ ?_
    · exact hb_65
    refine wq_iconst_ok h0 kd_M_note_61 (by decide +kernel) ?_
    refine wq_goto_ok (tgt := 79) h0 kd_M_note_62 (by decide) ?_
    exact hb_79
  have hb_52 : wq_Snd p l e ({ frames := 1, cells := 0, slots := 0, locals := 22 } : Room) s m args below meth c 6 cs D kz_cl A (wq_G0 ad w) (wq_Q cs D kz_cl A (wq_G0 ad w) rt xt below s 0 0) 52 (kt_M_note_52 rt xt) := by
    refine wq_iconst_ok h0 kd_M_note_52 (by decide +kernel) ?_
    exact hb_53
  have hb_30 : wq_Snd p l e ({ frames := 1, cells := 0, slots := 0, locals := 22 } : Room) s m args below meth c 6 cs D kz_cl A (wq_G0 ad w) (wq_Q cs D kz_cl A (wq_G0 ad w) rt xt below s 0 0) 30 (kt_M_note_30 rt xt) := by
    refine wq_call_ok hA (wq_runS ⟨h0.1, h0.2, hml, hown, hts⟩ (kv_M_within hl) ⟨(wq_cB hts kw_G kw_1209 kw_10 kw_1207 ⟨by decide +kernel, by decide +kernel, by decide +kernel⟩ rfl rfl ⟨Nat.le_of_ble_eq_true rfl, Nat.le_of_ble_eq_true rfl⟩), hts _ kw_1208⟩ hK hZ hN hA kd_M_note_30) (wq_xout_ok hnt hlk) ?_
    refine wq_if_eq_ok (tgt := 52) h0 kd_M_note_33 (by decide) ?_ ?_
    · exact hb_52
    refine wq_iload_ok h0 kd_M_note_36 ?_
    refine wq_iconst_ok h0 kd_M_note_38 (by decide +kernel) ?_
    refine wq_sipush_ok h0 kd_M_note_39 (by decide +kernel) ?_
    refine wq_call_ok hA (wq_runS ⟨h0.1, h0.2, hml, hown, hts⟩ (kv_M_within hl) ⟨(wq_cB hts kw_G kw_1209 kw_10 kw_1207 ⟨by decide +kernel, by decide +kernel, by decide +kernel⟩ rfl rfl ⟨Nat.le_of_ble_eq_true rfl, Nat.le_of_ble_eq_true rfl⟩), hts _ kw_1208⟩ hK hZ hN hA kd_M_note_42) (wq_xout_ok hnt hlk) ?_
    refine wq_if_eq_ok (tgt := 52) h0 kd_M_note_45 (by decide) ?_ ?_
    · exact hb_52
    refine wq_iconst_ok h0 kd_M_note_48 (by decide +kernel) ?_
    refine wq_goto_ok (tgt := 53) h0 kd_M_note_49 (by decide) ?_
    exact hb_53
  have hb_28 : wq_Snd p l e ({ frames := 1, cells := 0, slots := 0, locals := 22 } : Room) s m args below meth c 6 cs D kz_cl A (wq_G0 ad w) (wq_Q cs D kz_cl A (wq_G0 ad w) rt xt below s 0 0) 28 (kt_M_note_28 rt xt) := by
    refine wq_bipush_ok h0 kd_M_note_28 (by decide +kernel) ?_
    exact hb_30
  have hb_0 : wq_Snd p l e ({ frames := 1, cells := 0, slots := 0, locals := 22 } : Room) s m args below meth c 6 cs D kz_cl A (wq_G0 ad w) (wq_Q cs D kz_cl A (wq_G0 ad w) rt xt below s 0 0) 0 (kt_M_note_0 rt xt) := by
    refine wq_aload_n_ok h0 kd_M_note_0 rfl ?_
    refine wq_iload_n_ok h0 kd_M_note_1 rfl ?_
    refine wq_call_ok hA (wq_runV (ci := 9) ⟨h0.1, h0.2, hml, hown, hts⟩ (kv_M_isHeading hl) ⟨(wq_cB hts kw_G kw_1198 kw_10 kw_1195 ⟨by decide +kernel, by decide +kernel, by decide +kernel⟩ rfl rfl ⟨Nat.le_of_ble_eq_true rfl, Nat.le_of_ble_eq_true rfl⟩), hts _ kw_1197, hts _ kw_s28⟩ rfl rfl hK hZ hN hA kd_M_note_2) (wq_xout_ok hnt hlk) ?_
    refine wq_if_eq_ok (tgt := 52) h0 kd_M_note_5 (by decide) ?_ ?_
    · exact hb_52
    refine wq_iload_n_ok h0 kd_M_note_8 rfl ?_
    refine wq_iconst_ok h0 kd_M_note_9 (by decide +kernel) ?_
    refine wq_iconst_ok h0 kd_M_note_10 (by decide +kernel) ?_
    refine wq_call_ok hA (wq_runS ⟨h0.1, h0.2, hml, hown, hts⟩ (kv_M_within hl) ⟨(wq_cB hts kw_G kw_1209 kw_10 kw_1207 ⟨by decide +kernel, by decide +kernel, by decide +kernel⟩ rfl rfl ⟨Nat.le_of_ble_eq_true rfl, Nat.le_of_ble_eq_true rfl⟩), hts _ kw_1208⟩ hK hZ hN hA kd_M_note_11) (wq_xout_ok hnt hlk) ?_
    refine wq_if_eq_ok (tgt := 52) h0 kd_M_note_14 (by decide) ?_ ?_
    · exact hb_52
    refine wq_iload_n_ok h0 kd_M_note_17 rfl ?_
    refine wq_iconst_ok h0 kd_M_note_18 (by decide +kernel) ?_
    refine wq_iload_n_ok h0 kd_M_note_19 rfl ?_
    refine wq_iconst_ok h0 kd_M_note_20 (by decide +kernel) ?_
    refine wq_icmp_ne_ok (tgt := 28) h0 kd_M_note_21 (by decide) ?_ ?_
    · exact hb_28
    refine wq_iconst_ok h0 kd_M_note_24 (by decide +kernel) ?_
    refine wq_goto_ok (tgt := 30) h0 kd_M_note_25 (by decide) ?_
    exact hb_30
  exact hb_0 _ _ _ _ _ (wq_sp_t hsp)
set_option maxRecDepth 100000 in
set_option maxHeartbeats 4000000 in
theorem kv_M_fact {l : Launch} (hl : l.stackTraces = false) : wq_Vld l kz_cl ky_M_fact kw_T ({ frames := 1, cells := 0, slots := 0, locals := 22 }) wq_G0 ks_M_fact 0 0 := by
  refine wq_method (cc := kc_M_fact) (maxL := 5) (ret := (some .int)) (by decide) kw_1213 (fun _ _ => rfl) wq_sp_sz ?_
  intro p e s m args below meth c cs D ad as w rt xt hF hnt hsp
  obtain ⟨h0, hr, hts, hown, hlk, hnm, hml, hK, hZ, hN, hA⟩ := hF
  have hown : s.vm.findClass "BorderDeskModel" = some m.cls := hown
  obtain ⟨A, hAe⟩ : ∃ A, A = wq_A ad w s.heap.size := ⟨_, rfl⟩
  rw [← hAe] at hZ hA ⊢
  have hb_49 : wq_Snd p l e ({ frames := 1, cells := 0, slots := 0, locals := 22 } : Room) s m args below meth c 5 cs D kz_cl A (wq_G0 ad w) (wq_Q cs D kz_cl A (wq_G0 ad w) rt xt below s 0 0) 49 (kt_M_fact_49 rt xt) := by
    refine wq_aload_n_ok h0 kd_M_fact_49 rfl ?_
    refine wq_get_ok (wq_getOK h0 hts ki_M hown hK (ci := 9) rfl 26 (Nat.le_of_ble_eq_true rfl) kw_1008 rfl) kd_M_fact_50 ?_
    refine wq_bipush_ok h0 kd_M_fact_53 (by decide +kernel) ?_
    refine wq_iload_n_ok h0 kd_M_fact_55 rfl ?_
    refine wq_imul_ok h0 kd_M_fact_56 ?_
    refine wq_iload_n_ok h0 kd_M_fact_57 rfl ?_
    refine wq_iadd_ok h0 kd_M_fact_58 ?_
    refine wq_iald_ok h0 hK kd_M_fact_59 ?_
    refine wq_istore_ok h0 kd_M_fact_60 (Nat.le_of_ble_eq_true rfl) ?_
    refine wq_aload_n_ok h0 kd_M_fact_62 rfl ?_
    refine wq_get_ok (wq_getOK h0 hts ki_M hown hK (ci := 9) rfl 26 (Nat.le_of_ble_eq_true rfl) kw_1008 rfl) kd_M_fact_63 ?_
    refine wq_bipush_ok h0 kd_M_fact_66 (by decide +kernel) ?_
    refine wq_iload_n_ok h0 kd_M_fact_68 rfl ?_
    refine wq_imul_ok h0 kd_M_fact_69 ?_
    refine wq_iload_n_ok h0 kd_M_fact_70 rfl ?_
    refine wq_iadd_ok h0 kd_M_fact_71 ?_
    refine wq_iload_n_ok h0 kd_M_fact_72 rfl ?_
    refine wq_iast_ok h0 hK kd_M_fact_73 ?_
    refine wq_iload_ok h0 kd_M_fact_74 ?_
    exact wq_ireturn_ok h0 hr hlk kd_M_fact_76
  have hb_37 : wq_Snd p l e ({ frames := 1, cells := 0, slots := 0, locals := 22 } : Room) s m args below meth c 5 cs D kz_cl A (wq_G0 ad w) (wq_Q cs D kz_cl A (wq_G0 ad w) rt xt below s 0 0) 37 (kt_M_fact_37 rt xt) := by
    refine wq_put_ok (wq_putOK h0 hts ki_M ka_M kb_M kn_M hown hK (ci := 9) rfl 0 (Nat.le_of_ble_eq_true rfl) kw_982 rfl (Or.inl rfl) wq_okI) kd_M_fact_37 ?_
    refine wq_aload_n_ok h0 kd_M_fact_40 rfl ?_
    refine wq_get_ok (wq_getOK h0 hts ki_M hown hK (ci := 9) rfl 0 (Nat.le_of_ble_eq_true rfl) kw_982 rfl) kd_M_fact_41 ?_
    refine wq_if_le_ok (tgt := 49) h0 kd_M_fact_44 (by decide) ?_ ?_
    · exact hb_49
    refine wq_iconst_ok h0 kd_M_fact_47 (by decide +kernel) ?_
    exact wq_ireturn_ok h0 hr hlk kd_M_fact_48
  have hb_36 : wq_Snd p l e ({ frames := 1, cells := 0, slots := 0, locals := 22 } : Room) s m args below meth c 5 cs D kz_cl A (wq_G0 ad w) (wq_Q cs D kz_cl A (wq_G0 ad w) rt xt below s 0 0) 36 (kt_M_fact_36 rt xt) := by
    refine wq_iconst_ok h0 kd_M_fact_36 (by decide +kernel) ?_
    exact hb_37
  have hb_0 : wq_Snd p l e ({ frames := 1, cells := 0, slots := 0, locals := 22 } : Room) s m args below meth c 5 cs D kz_cl A (wq_G0 ad w) (wq_Q cs D kz_cl A (wq_G0 ad w) rt xt below s 0 0) 0 (kt_M_fact_0 rt xt) := by
    refine wq_aload_n_ok h0 kd_M_fact_0 rfl ?_
    refine wq_iload_n_ok h0 kd_M_fact_1 rfl ?_
    refine wq_iconst_ok h0 kd_M_fact_2 (by decide +kernel) ?_
    refine wq_bipush_ok h0 kd_M_fact_3 (by decide +kernel) ?_
    refine wq_call_ok hA (wq_runS ⟨h0.1, h0.2, hml, hown, hts⟩ (kv_M_within hl) ⟨(wq_cB hts kw_G kw_1209 kw_10 kw_1207 ⟨by decide +kernel, by decide +kernel, by decide +kernel⟩ rfl rfl ⟨Nat.le_of_ble_eq_true rfl, Nat.le_of_ble_eq_true rfl⟩), hts _ kw_1208⟩ hK hZ hN hA kd_M_fact_5) (wq_xout_ok hnt hlk) ?_
    refine wq_if_eq_ok (tgt := 36) h0 kd_M_fact_8 (by decide) ?_ ?_
    · exact hb_36
    refine wq_iload_n_ok h0 kd_M_fact_11 rfl ?_
    refine wq_iconst_ok h0 kd_M_fact_12 (by decide +kernel) ?_
    refine wq_bipush_ok h0 kd_M_fact_13 (by decide +kernel) ?_
    refine wq_call_ok hA (wq_runS ⟨h0.1, h0.2, hml, hown, hts⟩ (kv_M_within hl) ⟨(wq_cB hts kw_G kw_1209 kw_10 kw_1207 ⟨by decide +kernel, by decide +kernel, by decide +kernel⟩ rfl rfl ⟨Nat.le_of_ble_eq_true rfl, Nat.le_of_ble_eq_true rfl⟩), hts _ kw_1208⟩ hK hZ hN hA kd_M_fact_15) (wq_xout_ok hnt hlk) ?_
    refine wq_if_eq_ok (tgt := 36) h0 kd_M_fact_18 (by decide) ?_ ?_
    · exact hb_36
    refine wq_iload_n_ok h0 kd_M_fact_21 rfl ?_
    refine wq_iconst_ok h0 kd_M_fact_22 (by decide +kernel) ?_
    refine wq_sipush_ok h0 kd_M_fact_23 (by decide +kernel) ?_
    refine wq_call_ok hA (wq_runS ⟨h0.1, h0.2, hml, hown, hts⟩ (kv_M_within hl) ⟨(wq_cB hts kw_G kw_1209 kw_10 kw_1207 ⟨by decide +kernel, by decide +kernel, by decide +kernel⟩ rfl rfl ⟨Nat.le_of_ble_eq_true rfl, Nat.le_of_ble_eq_true rfl⟩), hts _ kw_1208⟩ hK hZ hN hA kd_M_fact_26) (wq_xout_ok hnt hlk) ?_
    refine wq_if_eq_ok (tgt := 36) h0 kd_M_fact_29 (by decide) ?_ ?_
    · exact hb_36
    refine wq_iconst_ok h0 kd_M_fact_32 (by decide +kernel) ?_
    refine wq_goto_ok (tgt := 37) h0 kd_M_fact_33 (by decide) ?_
    exact hb_37
  exact hb_0 _ _ _ _ _ (wq_sp_t hsp)
set_option maxRecDepth 100000 in
set_option maxHeartbeats 4000000 in
theorem kv_M_classify {l : Launch} (hl : l.stackTraces = false) : wq_Vld l kz_cl ky_M_classify kw_T ({ frames := 3, cells := 0, slots := 0, locals := 73 }) wq_G0 ks_M_classify 0 0 := by
  refine wq_method (cc := kc_M_classify) (maxL := 2) (ret := (some .int)) (by decide) kw_1217 (fun _ _ => rfl) wq_sp_sz ?_
  intro p e s m args below meth c cs D ad as w rt xt hF hnt hsp
  obtain ⟨h0, hr, hts, hown, hlk, hnm, hml, hK, hZ, hN, hA⟩ := hF
  have hown : s.vm.findClass "BorderDeskModel" = some m.cls := hown
  obtain ⟨A, hAe⟩ : ∃ A, A = wq_A ad w s.heap.size := ⟨_, rfl⟩
  rw [← hAe] at hZ hA ⊢
  have hb_35 : wq_Snd p l e ({ frames := 3, cells := 0, slots := 0, locals := 73 } : Room) s m args below meth c 2 cs D kz_cl A (wq_G0 ad w) (wq_Q cs D kz_cl A (wq_G0 ad w) rt xt below s 0 0) 35 (kt_M_classify_35 rt xt) := by
    exact wq_ireturn_ok h0 hr hlk kd_M_classify_35
  have hb_30 : wq_Snd p l e ({ frames := 3, cells := 0, slots := 0, locals := 73 } : Room) s m args below meth c 2 cs D kz_cl A (wq_G0 ad w) (wq_Q cs D kz_cl A (wq_G0 ad w) rt xt below s 0 0) 30 (kt_M_classify_30 rt xt) := by
    refine wq_aload_n_ok h0 kd_M_classify_30 rfl ?_
    refine wq_iload_n_ok h0 kd_M_classify_31 rfl ?_
    refine wq_call_ok hA (wq_runV (ci := 9) ⟨h0.1, h0.2, hml, hown, hts⟩ (kv_M_classOf hl) ⟨(wq_cB hts kw_G kw_1221 kw_10 kw_1218 ⟨by decide +kernel, by decide +kernel, by decide +kernel⟩ rfl rfl ⟨Nat.le_of_ble_eq_true rfl, Nat.le_of_ble_eq_true rfl⟩), hts _ kw_1220, hts _ kw_s30⟩ rfl rfl hK hZ hN hA kd_M_classify_32) (wq_xout_ok hnt hlk) ?_
    exact hb_35
  have hb_16 : wq_Snd p l e ({ frames := 3, cells := 0, slots := 0, locals := 73 } : Room) s m args below meth c 2 cs D kz_cl A (wq_G0 ad w) (wq_Q cs D kz_cl A (wq_G0 ad w) rt xt below s 0 0) 16 (kt_M_classify_16 rt xt) := by
    refine wq_put_ok (wq_putOK h0 hts ki_M ka_M kb_M kn_M hown hK (ci := 9) rfl 0 (Nat.le_of_ble_eq_true rfl) kw_982 rfl (Or.inl rfl) wq_okI) kd_M_classify_16 ?_
    refine wq_aload_n_ok h0 kd_M_classify_19 rfl ?_
    refine wq_get_ok (wq_getOK h0 hts ki_M hown hK (ci := 9) rfl 0 (Nat.le_of_ble_eq_true rfl) kw_982 rfl) kd_M_classify_20 ?_
    refine wq_if_le_ok (tgt := 30) h0 kd_M_classify_23 (by decide) ?_ ?_
    · exact hb_30
    refine wq_iconst_ok h0 kd_M_classify_26 (by decide +kernel) ?_
    refine wq_goto_ok (tgt := 35) h0 kd_M_classify_27 (by decide) ?_
    exact hb_35
  have hb_15 : wq_Snd p l e ({ frames := 3, cells := 0, slots := 0, locals := 73 } : Room) s m args below meth c 2 cs D kz_cl A (wq_G0 ad w) (wq_Q cs D kz_cl A (wq_G0 ad w) rt xt below s 0 0) 15 (kt_M_classify_15 rt xt) := by
    refine wq_iconst_ok h0 kd_M_classify_15 (by decide +kernel) ?_
    exact hb_16
  have hb_0 : wq_Snd p l e ({ frames := 3, cells := 0, slots := 0, locals := 73 } : Room) s m args below meth c 2 cs D kz_cl A (wq_G0 ad w) (wq_Q cs D kz_cl A (wq_G0 ad w) rt xt below s 0 0) 0 (kt_M_classify_0 rt xt) := by
    refine wq_aload_n_ok h0 kd_M_classify_0 rfl ?_
    refine wq_iload_n_ok h0 kd_M_classify_1 rfl ?_
    refine wq_iconst_ok h0 kd_M_classify_2 (by decide +kernel) ?_
    refine wq_bipush_ok h0 kd_M_classify_3 (by decide +kernel) ?_
    refine wq_call_ok hA (wq_runS ⟨h0.1, h0.2, hml, hown, hts⟩ (kv_M_within hl) ⟨(wq_cB hts kw_G kw_1209 kw_10 kw_1207 ⟨by decide +kernel, by decide +kernel, by decide +kernel⟩ rfl rfl ⟨Nat.le_of_ble_eq_true rfl, Nat.le_of_ble_eq_true rfl⟩), hts _ kw_1208⟩ hK hZ hN hA kd_M_classify_5) (wq_xout_ok hnt hlk) ?_
    refine wq_if_eq_ok (tgt := 15) h0 kd_M_classify_8 (by decide) ?_ ?_
    · exact hb_15
    refine wq_iconst_ok h0 kd_M_classify_11 (by decide +kernel) ?_
    refine wq_goto_ok (tgt := 16) h0 kd_M_classify_12 (by decide) ?_
    exact hb_16
  exact hb_0 _ _ _ _ _ (wq_sp_t hsp)
set_option maxRecDepth 100000 in
set_option maxHeartbeats 4000000 in
theorem kv_M_rate {l : Launch} (hl : l.stackTraces = false) : wq_Vld l kz_cl ky_M_rate kw_T ({ frames := 1, cells := 0, slots := 0, locals := 22 }) wq_G0 ks_M_rate 0 0 := by
  refine wq_method (cc := kc_M_rate) (maxL := 9) (ret := (some .int)) (by decide) kw_1241 (fun _ _ => rfl) wq_sp_sz ?_
  intro p e s m args below meth c cs D ad as w rt xt hF hnt hsp
  obtain ⟨h0, hr, hts, hown, hlk, hnm, hml, hK, hZ, hN, hA⟩ := hF
  have hown : s.vm.findClass "BorderDeskModel" = some m.cls := hown
  obtain ⟨A, hAe⟩ : ∃ A, A = wq_A ad w s.heap.size := ⟨_, rfl⟩
  rw [← hAe] at hZ hA ⊢
  have hb_114 : wq_Snd p l e ({ frames := 1, cells := 0, slots := 0, locals := 22 } : Room) s m args below meth c 9 cs D kz_cl A (wq_G0 ad w) (wq_Q cs D kz_cl A (wq_G0 ad w) rt xt below s 0 0) 114 (kt_M_rate_114 rt xt) := by
    refine wq_aload_n_ok h0 kd_M_rate_114 rfl ?_
    refine wq_get_ok (wq_getOK h0 hts ki_M hown hK (ci := 9) rfl 11 (Nat.le_of_ble_eq_true rfl) kw_993 rfl) kd_M_rate_115 ?_
    refine wq_aload_n_ok h0 kd_M_rate_118 rfl ?_
    refine wq_get_ok (wq_getOK h0 hts ki_M hown hK (ci := 9) rfl 10 (Nat.le_of_ble_eq_true rfl) kw_992 rfl) kd_M_rate_119 ?_
    refine wq_iload_n_ok h0 kd_M_rate_122 rfl ?_
    refine wq_iast_ok h0 hK kd_M_rate_123 ?_
    refine wq_aload_n_ok h0 kd_M_rate_124 rfl ?_
    refine wq_get_ok (wq_getOK h0 hts ki_M hown hK (ci := 9) rfl 12 (Nat.le_of_ble_eq_true rfl) kw_994 rfl) kd_M_rate_125 ?_
    refine wq_aload_n_ok h0 kd_M_rate_128 rfl ?_
    refine wq_get_ok (wq_getOK h0 hts ki_M hown hK (ci := 9) rfl 10 (Nat.le_of_ble_eq_true rfl) kw_992 rfl) kd_M_rate_129 ?_
    refine wq_iload_n_ok h0 kd_M_rate_132 rfl ?_
    refine wq_iast_ok h0 hK kd_M_rate_133 ?_
    refine wq_aload_n_ok h0 kd_M_rate_134 rfl ?_
    refine wq_get_ok (wq_getOK h0 hts ki_M hown hK (ci := 9) rfl 13 (Nat.le_of_ble_eq_true rfl) kw_995 rfl) kd_M_rate_135 ?_
    refine wq_aload_n_ok h0 kd_M_rate_138 rfl ?_
    refine wq_get_ok (wq_getOK h0 hts ki_M hown hK (ci := 9) rfl 10 (Nat.le_of_ble_eq_true rfl) kw_992 rfl) kd_M_rate_139 ?_
    refine wq_iload_n_ok h0 kd_M_rate_142 rfl ?_
    refine wq_iast_ok h0 hK kd_M_rate_143 ?_
    refine wq_aload_n_ok h0 kd_M_rate_144 rfl ?_
    refine wq_get_ok (wq_getOK h0 hts ki_M hown hK (ci := 9) rfl 14 (Nat.le_of_ble_eq_true rfl) kw_996 rfl) kd_M_rate_145 ?_
    refine wq_aload_n_ok h0 kd_M_rate_148 rfl ?_
    refine wq_get_ok (wq_getOK h0 hts ki_M hown hK (ci := 9) rfl 10 (Nat.le_of_ble_eq_true rfl) kw_992 rfl) kd_M_rate_149 ?_
    refine wq_iload_ok h0 kd_M_rate_152 ?_
    refine wq_iast_ok h0 hK kd_M_rate_154 ?_
    refine wq_aload_n_ok h0 kd_M_rate_155 rfl ?_
    refine wq_get_ok (wq_getOK h0 hts ki_M hown hK (ci := 9) rfl 15 (Nat.le_of_ble_eq_true rfl) kw_997 rfl) kd_M_rate_156 ?_
    refine wq_aload_n_ok h0 kd_M_rate_159 rfl ?_
    refine wq_get_ok (wq_getOK h0 hts ki_M hown hK (ci := 9) rfl 10 (Nat.le_of_ble_eq_true rfl) kw_992 rfl) kd_M_rate_160 ?_
    refine wq_iload_ok h0 kd_M_rate_163 ?_
    refine wq_iast_ok h0 hK kd_M_rate_165 ?_
    refine wq_aload_n_ok h0 kd_M_rate_166 rfl ?_
    refine wq_get_ok (wq_getOK h0 hts ki_M hown hK (ci := 9) rfl 16 (Nat.le_of_ble_eq_true rfl) kw_998 rfl) kd_M_rate_167 ?_
    refine wq_aload_n_ok h0 kd_M_rate_170 rfl ?_
    refine wq_get_ok (wq_getOK h0 hts ki_M hown hK (ci := 9) rfl 10 (Nat.le_of_ble_eq_true rfl) kw_992 rfl) kd_M_rate_171 ?_
    refine wq_iload_ok h0 kd_M_rate_174 ?_
    refine wq_iast_ok h0 hK kd_M_rate_176 ?_
    refine wq_aload_n_ok h0 kd_M_rate_177 rfl ?_
    refine wq_get_ok (wq_getOK h0 hts ki_M hown hK (ci := 9) rfl 17 (Nat.le_of_ble_eq_true rfl) kw_999 rfl) kd_M_rate_178 ?_
    refine wq_aload_n_ok h0 kd_M_rate_181 rfl ?_
    refine wq_get_ok (wq_getOK h0 hts ki_M hown hK (ci := 9) rfl 10 (Nat.le_of_ble_eq_true rfl) kw_992 rfl) kd_M_rate_182 ?_
    refine wq_iload_ok h0 kd_M_rate_185 ?_
    refine wq_iast_ok h0 hK kd_M_rate_187 ?_
    refine wq_aload_n_ok h0 kd_M_rate_188 rfl ?_
    refine wq_dup_ok h0 kd_M_rate_189 ?_
    refine wq_get_ok (wq_getOK h0 hts ki_M hown hK (ci := 9) rfl 10 (Nat.le_of_ble_eq_true rfl) kw_992 rfl) kd_M_rate_190 ?_
    refine wq_iconst_ok h0 kd_M_rate_193 (by decide +kernel) ?_
    refine wq_iadd_ok h0 kd_M_rate_194 ?_
    refine wq_put_ok (wq_putOK h0 hts ki_M ka_M kb_M kn_M hown hK (ci := 9) rfl 10 (Nat.le_of_ble_eq_true rfl) kw_992 rfl (Or.inl rfl) wq_okI) kd_M_rate_195 ?_
    refine wq_aload_n_ok h0 kd_M_rate_198 rfl ?_
    refine wq_get_ok (wq_getOK h0 hts ki_M hown hK (ci := 9) rfl 10 (Nat.le_of_ble_eq_true rfl) kw_992 rfl) kd_M_rate_199 ?_
    refine wq_iconst_ok h0 kd_M_rate_202 (by decide +kernel) ?_
    refine wq_isub_ok h0 kd_M_rate_203 ?_
    exact wq_ireturn_ok h0 hr hlk kd_M_rate_204
  have hb_102 : wq_Snd p l e ({ frames := 1, cells := 0, slots := 0, locals := 22 } : Room) s m args below meth c 9 cs D kz_cl A (wq_G0 ad w) (wq_Q cs D kz_cl A (wq_G0 ad w) rt xt below s 0 0) 102 (kt_M_rate_102 rt xt) := by
    refine wq_put_ok (wq_putOK h0 hts ki_M ka_M kb_M kn_M hown hK (ci := 9) rfl 0 (Nat.le_of_ble_eq_true rfl) kw_982 rfl (Or.inl rfl) wq_okI) kd_M_rate_102 ?_
    refine wq_aload_n_ok h0 kd_M_rate_105 rfl ?_
    refine wq_get_ok (wq_getOK h0 hts ki_M hown hK (ci := 9) rfl 0 (Nat.le_of_ble_eq_true rfl) kw_982 rfl) kd_M_rate_106 ?_
    refine wq_if_le_ok (tgt := 114) h0 kd_M_rate_109 (by decide) ?_ ?_
    · exact hb_114
    refine wq_iconst_ok h0 kd_M_rate_112 (by decide +kernel) ?_
    exact wq_ireturn_ok h0 hr hlk kd_M_rate_113
  have hb_84 : wq_Snd p l e ({ frames := 1, cells := 0, slots := 0, locals := 22 } : Room) s m args below meth c 9 cs D kz_cl A (wq_G0 ad w) (wq_Q cs D kz_cl A (wq_G0 ad w) rt xt below s 0 0) 84 (kt_M_rate_84 rt xt) := by
    refine wq_iconst_ok h0 kd_M_rate_84 (by decide +kernel) ?_
    refine wq_goto_ok (tgt := 102) h0 kd_M_rate_85 (by decide) ?_
    exact hb_102
  have hb_101 : wq_Snd p l e ({ frames := 1, cells := 0, slots := 0, locals := 22 } : Room) s m args below meth c 9 cs D kz_cl A (wq_G0 ad w) (wq_Q cs D kz_cl A (wq_G0 ad w) rt xt below s 0 0) 101 (kt_M_rate_101 rt xt) := by
    refine wq_iconst_ok h0 kd_M_rate_101 (by decide +kernel) ?_
    exact hb_102
  have hb_88 : wq_Snd p l e ({ frames := 1, cells := 0, slots := 0, locals := 22 } : Room) s m args below meth c 9 cs D kz_cl A (wq_G0 ad w) (wq_Q cs D kz_cl A (wq_G0 ad w) rt xt below s 0 0) 88 (kt_M_rate_88 rt xt) := by
    refine wq_aload_n_ok h0 kd_M_rate_88 rfl ?_
    refine wq_get_ok (wq_getOK h0 hts ki_M hown hK (ci := 9) rfl 10 (Nat.le_of_ble_eq_true rfl) kw_992 rfl) kd_M_rate_89 ?_
    refine wq_bipush_ok h0 kd_M_rate_92 (by decide +kernel) ?_
    refine wq_icmp_ne_ok (tgt := 101) h0 kd_M_rate_94 (by decide) ?_ ?_
    · exact hb_101
    refine wq_iconst_ok h0 kd_M_rate_97 (by decide +kernel) ?_
    refine wq_goto_ok (tgt := 102) h0 kd_M_rate_98 (by decide) ?_
    exact hb_102
  have hb_56 : wq_Snd p l e ({ frames := 1, cells := 0, slots := 0, locals := 22 } : Room) s m args below meth c 9 cs D kz_cl A (wq_G0 ad w) (wq_Q cs D kz_cl A (wq_G0 ad w) rt xt below s 0 0) 56 (kt_M_rate_56 rt xt) := by
    refine wq_istore_ok h0 kd_M_rate_56 (Nat.le_of_ble_eq_true rfl) ?_
    refine wq_aload_n_ok h0 kd_M_rate_58 rfl ?_
    refine wq_iload_ok h0 kd_M_rate_59 ?_
    refine wq_if_eq_ok (tgt := 84) h0 kd_M_rate_61 (by decide) ?_ ?_
    · exact hb_84
    refine wq_iload_ok h0 kd_M_rate_64 ?_
    refine wq_if_lt_ok (tgt := 84) h0 kd_M_rate_66 (by decide) ?_ ?_
    · exact hb_84
    refine wq_iload_ok h0 kd_M_rate_69 ?_
    refine wq_iload_ok h0 kd_M_rate_71 ?_
    refine wq_icmp_gt_ok (tgt := 84) h0 kd_M_rate_73 (by decide) ?_ ?_
    · exact hb_84
    refine wq_iload_ok h0 kd_M_rate_76 ?_
    refine wq_sipush_ok h0 kd_M_rate_78 (by decide +kernel) ?_
    refine wq_icmp_le_ok (tgt := 88) h0 kd_M_rate_81 (by decide) ?_ ?_
    · exact hb_88
    exact hb_84
  have hb_55 : wq_Snd p l e ({ frames := 1, cells := 0, slots := 0, locals := 22 } : Room) s m args below meth c 9 cs D kz_cl A (wq_G0 ad w) (wq_Q cs D kz_cl A (wq_G0 ad w) rt xt below s 0 0) 55 (kt_M_rate_55 rt xt) := by
    refine wq_iconst_ok h0 kd_M_rate_55 (by decide +kernel) ?_
    exact hb_56
  have hb_0 : wq_Snd p l e ({ frames := 1, cells := 0, slots := 0, locals := 22 } : Room) s m args below meth c 9 cs D kz_cl A (wq_G0 ad w) (wq_Q cs D kz_cl A (wq_G0 ad w) rt xt below s 0 0) 0 (kt_M_rate_0 rt xt) := by
    refine wq_aload_n_ok h0 kd_M_rate_0 rfl ?_
    refine wq_iload_n_ok h0 kd_M_rate_1 rfl ?_
    refine wq_call_ok hA (wq_runV (ci := 9) ⟨h0.1, h0.2, hml, hown, hts⟩ (kv_M_isHeading hl) ⟨(wq_cB hts kw_G kw_1198 kw_10 kw_1195 ⟨by decide +kernel, by decide +kernel, by decide +kernel⟩ rfl rfl ⟨Nat.le_of_ble_eq_true rfl, Nat.le_of_ble_eq_true rfl⟩), hts _ kw_1197, hts _ kw_s28⟩ rfl rfl hK hZ hN hA kd_M_rate_2) (wq_xout_ok hnt hlk) ?_
    refine wq_if_eq_ok (tgt := 55) h0 kd_M_rate_5 (by decide) ?_ ?_
    · exact hb_55
    refine wq_iload_n_ok h0 kd_M_rate_8 rfl ?_
    refine wq_iconst_ok h0 kd_M_rate_9 (by decide +kernel) ?_
    refine wq_bipush_ok h0 kd_M_rate_10 (by decide +kernel) ?_
    refine wq_call_ok hA (wq_runS ⟨h0.1, h0.2, hml, hown, hts⟩ (kv_M_within hl) ⟨(wq_cB hts kw_G kw_1209 kw_10 kw_1207 ⟨by decide +kernel, by decide +kernel, by decide +kernel⟩ rfl rfl ⟨Nat.le_of_ble_eq_true rfl, Nat.le_of_ble_eq_true rfl⟩), hts _ kw_1208⟩ hK hZ hN hA kd_M_rate_12) (wq_xout_ok hnt hlk) ?_
    refine wq_if_eq_ok (tgt := 55) h0 kd_M_rate_15 (by decide) ?_ ?_
    · exact hb_55
    refine wq_iload_n_ok h0 kd_M_rate_18 rfl ?_
    refine wq_iconst_ok h0 kd_M_rate_19 (by decide +kernel) ?_
    refine wq_iconst_ok h0 kd_M_rate_20 (by decide +kernel) ?_
    refine wq_call_ok hA (wq_runS ⟨h0.1, h0.2, hml, hown, hts⟩ (kv_M_within hl) ⟨(wq_cB hts kw_G kw_1209 kw_10 kw_1207 ⟨by decide +kernel, by decide +kernel, by decide +kernel⟩ rfl rfl ⟨Nat.le_of_ble_eq_true rfl, Nat.le_of_ble_eq_true rfl⟩), hts _ kw_1208⟩ hK hZ hN hA kd_M_rate_21) (wq_xout_ok hnt hlk) ?_
    refine wq_if_eq_ok (tgt := 55) h0 kd_M_rate_24 (by decide) ?_ ?_
    · exact hb_55
    refine wq_iload_ok h0 kd_M_rate_27 ?_
    refine wq_iconst_ok h0 kd_M_rate_29 (by decide +kernel) ?_
    refine wq_sipush_ok h0 kd_M_rate_30 (by decide +kernel) ?_
    refine wq_call_ok hA (wq_runS ⟨h0.1, h0.2, hml, hown, hts⟩ (kv_M_within hl) ⟨(wq_cB hts kw_G kw_1209 kw_10 kw_1207 ⟨by decide +kernel, by decide +kernel, by decide +kernel⟩ rfl rfl ⟨Nat.le_of_ble_eq_true rfl, Nat.le_of_ble_eq_true rfl⟩), hts _ kw_1208⟩ hK hZ hN hA kd_M_rate_33) (wq_xout_ok hnt hlk) ?_
    refine wq_if_eq_ok (tgt := 55) h0 kd_M_rate_36 (by decide) ?_ ?_
    · exact hb_55
    refine wq_iload_ok h0 kd_M_rate_39 ?_
    refine wq_iconst_ok h0 kd_M_rate_41 (by decide +kernel) ?_
    refine wq_sipush_ok h0 kd_M_rate_42 (by decide +kernel) ?_
    refine wq_call_ok hA (wq_runS ⟨h0.1, h0.2, hml, hown, hts⟩ (kv_M_within hl) ⟨(wq_cB hts kw_G kw_1209 kw_10 kw_1207 ⟨by decide +kernel, by decide +kernel, by decide +kernel⟩ rfl rfl ⟨Nat.le_of_ble_eq_true rfl, Nat.le_of_ble_eq_true rfl⟩), hts _ kw_1208⟩ hK hZ hN hA kd_M_rate_45) (wq_xout_ok hnt hlk) ?_
    refine wq_if_eq_ok (tgt := 55) h0 kd_M_rate_48 (by decide) ?_ ?_
    · exact hb_55
    refine wq_iconst_ok h0 kd_M_rate_51 (by decide +kernel) ?_
    refine wq_goto_ok (tgt := 56) h0 kd_M_rate_52 (by decide) ?_
    exact hb_56
  exact hb_0 _ _ _ _ _ (wq_sp_t hsp)
set_option maxRecDepth 100000 in
set_option maxHeartbeats 4000000 in
theorem kv_M_lastRate {l : Launch} (hl : l.stackTraces = false) : wq_Vld l kz_cl ky_M_lastRate kw_T ({ frames := 0, cells := 0, slots := 0, locals := 0 }) wq_G0 ks_M_lastRate 0 0 := by
  refine wq_method (cc := kc_M_lastRate) (maxL := 6) (ret := (some .int)) (by decide) kw_1253 (fun _ _ => rfl) wq_sp_sz ?_
  intro p e s m args below meth c cs D ad as w rt xt hF hnt hsp
  obtain ⟨h0, hr, hts, hown, hlk, hnm, hml, hK, hZ, hN, hA⟩ := hF
  have hown : s.vm.findClass "BorderDeskModel" = some m.cls := hown
  obtain ⟨A, hAe⟩ : ∃ A, A = wq_A ad w s.heap.size := ⟨_, rfl⟩
  rw [← hAe] at hZ hA ⊢
  have hall : ∀ K : Nat → wq_T, (∀ pc, pc ∈ [6] → wq_Snd p l e ({ frames := 0, cells := 0, slots := 0, locals := 0 } : Room) s m args below meth c 6 cs D kz_cl A (wq_G0 ad w) (wq_Q cs D kz_cl A (wq_G0 ad w) rt xt below s 0 0) pc (K pc)) → (∀ pc, pc ∈ [6] → wq_Snd p l e ({ frames := 0, cells := 0, slots := 0, locals := 0 } : Room) s m args below meth c 6 cs D kz_cl A (wq_G0 ad w) (wq_Q cs D kz_cl A (wq_G0 ad w) rt xt below s 0 0) pc (cond (Nat.beq pc 6) (kh_M_lastRate_6 rt xt K) (fun _ _ _ _ _ => False))) ∧ wq_Snd p l e ({ frames := 0, cells := 0, slots := 0, locals := 0 } : Room) s m args below meth c 6 cs D kz_cl A (wq_G0 ad w) (wq_Q cs D kz_cl A (wq_G0 ad w) rt xt below s 0 0) 0 (kt_M_lastRate_0 rt xt K) := by
    intro K hKc
    have hb_74 : wq_Snd p l e ({ frames := 0, cells := 0, slots := 0, locals := 0 } : Room) s m args below meth c 6 cs D kz_cl A (wq_G0 ad w) (wq_Q cs D kz_cl A (wq_G0 ad w) rt xt below s 0 0) 74 (kt_M_lastRate_74 rt xt K) := by
      refine wq_iload_ok h0 kd_M_lastRate_74 ?_
      exact wq_ireturn_ok h0 hr hlk kd_M_lastRate_76
    have hb_66 : wq_Snd p l e ({ frames := 0, cells := 0, slots := 0, locals := 0 } : Room) s m args below meth c 6 cs D kz_cl A (wq_G0 ad w) (wq_Q cs D kz_cl A (wq_G0 ad w) rt xt below s 0 0) 66 (kt_M_lastRate_66 rt xt K) := by
      refine wq_istore_ok h0 kd_M_lastRate_66 (Nat.le_of_ble_eq_true rfl) ?_
      refine wq_iinc_ok h0 kd_M_lastRate_68 (by decide +kernel) (Nat.le_of_ble_eq_true rfl) ?_
      refine wq_goto_ok (tgt := 6) h0 kd_M_lastRate_71 (by decide) ?_
      exact wq_can_ok (hKc 6 (by decide))
    have hb_64 : wq_Snd p l e ({ frames := 0, cells := 0, slots := 0, locals := 0 } : Room) s m args below meth c 6 cs D kz_cl A (wq_G0 ad w) (wq_Q cs D kz_cl A (wq_G0 ad w) rt xt below s 0 0) 64 (kt_M_lastRate_64 rt xt K) := by
      refine wq_iload_ok h0 kd_M_lastRate_64 ?_
      exact hb_66
    have hb_6 : wq_Snd p l e ({ frames := 0, cells := 0, slots := 0, locals := 0 } : Room) s m args below meth c 6 cs D kz_cl A (wq_G0 ad w) (wq_Q cs D kz_cl A (wq_G0 ad w) rt xt below s 0 0) 6 (kh_M_lastRate_6 rt xt K) := by
      refine wq_iload_ok h0 kd_M_lastRate_6 ?_
      refine wq_aload_n_ok h0 kd_M_lastRate_8 rfl ?_
      refine wq_get_ok (wq_getOK h0 hts ki_M hown hK (ci := 9) rfl 10 (Nat.le_of_ble_eq_true rfl) kw_992 rfl) kd_M_lastRate_9 ?_
      refine wq_icmp_ge_ok (tgt := 74) h0 kd_M_lastRate_12 (by decide) ?_ ?_
      · exact hb_74
      refine wq_aload_n_ok h0 kd_M_lastRate_15 rfl ?_
      refine wq_get_ok (wq_getOK h0 hts ki_M hown hK (ci := 9) rfl 11 (Nat.le_of_ble_eq_true rfl) kw_993 rfl) kd_M_lastRate_16 ?_
      refine wq_iload_ok h0 kd_M_lastRate_19 ?_
      refine wq_iald_ok h0 hK kd_M_lastRate_21 ?_
      refine wq_iload_n_ok h0 kd_M_lastRate_22 rfl ?_
      refine wq_icmp_ne_ok (tgt := 64) h0 kd_M_lastRate_23 (by decide) ?_ ?_
      · exact hb_64
      refine wq_aload_n_ok h0 kd_M_lastRate_26 rfl ?_
      refine wq_get_ok (wq_getOK h0 hts ki_M hown hK (ci := 9) rfl 12 (Nat.le_of_ble_eq_true rfl) kw_994 rfl) kd_M_lastRate_27 ?_
      refine wq_iload_ok h0 kd_M_lastRate_30 ?_
      refine wq_iald_ok h0 hK kd_M_lastRate_32 ?_
      refine wq_iload_n_ok h0 kd_M_lastRate_33 rfl ?_
      refine wq_icmp_ne_ok (tgt := 64) h0 kd_M_lastRate_34 (by decide) ?_ ?_
      · exact hb_64
      refine wq_iload_n_ok h0 kd_M_lastRate_37 rfl ?_
      refine wq_aload_n_ok h0 kd_M_lastRate_38 rfl ?_
      refine wq_get_ok (wq_getOK h0 hts ki_M hown hK (ci := 9) rfl 16 (Nat.le_of_ble_eq_true rfl) kw_998 rfl) kd_M_lastRate_39 ?_
      refine wq_iload_ok h0 kd_M_lastRate_42 ?_
      refine wq_iald_ok h0 hK kd_M_lastRate_44 ?_
      refine wq_icmp_lt_ok (tgt := 64) h0 kd_M_lastRate_45 (by decide) ?_ ?_
      · exact hb_64
      refine wq_iload_n_ok h0 kd_M_lastRate_48 rfl ?_
      refine wq_aload_n_ok h0 kd_M_lastRate_49 rfl ?_
      refine wq_get_ok (wq_getOK h0 hts ki_M hown hK (ci := 9) rfl 17 (Nat.le_of_ble_eq_true rfl) kw_999 rfl) kd_M_lastRate_50 ?_
      refine wq_iload_ok h0 kd_M_lastRate_53 ?_
      refine wq_iald_ok h0 hK kd_M_lastRate_55 ?_
      refine wq_icmp_gt_ok (tgt := 64) h0 kd_M_lastRate_56 (by decide) ?_ ?_
      · exact hb_64
      refine wq_iload_ok h0 kd_M_lastRate_59 ?_
      refine wq_goto_ok (tgt := 66) h0 kd_M_lastRate_61 (by decide) ?_
      exact hb_66
    have hb_0 : wq_Snd p l e ({ frames := 0, cells := 0, slots := 0, locals := 0 } : Room) s m args below meth c 6 cs D kz_cl A (wq_G0 ad w) (wq_Q cs D kz_cl A (wq_G0 ad w) rt xt below s 0 0) 0 (kt_M_lastRate_0 rt xt K) := by
      refine wq_iconst_ok h0 kd_M_lastRate_0 (by decide +kernel) ?_
      refine wq_istore_ok h0 kd_M_lastRate_1 (Nat.le_of_ble_eq_true rfl) ?_
      refine wq_iconst_ok h0 kd_M_lastRate_3 (by decide +kernel) ?_
      refine wq_istore_ok h0 kd_M_lastRate_4 (Nat.le_of_ble_eq_true rfl) ?_
      exact wq_can_ok (hKc 6 (by decide))
    refine ⟨?_, hb_0⟩
    exact List.forall_mem_cons.mpr ⟨hb_6, fun _ h => absurd h List.not_mem_nil⟩
  have hun : ∀ (n pc : Nat), pc ∈ [6] → wq_Snd p l e ({ frames := 0, cells := 0, slots := 0, locals := 0 } : Room) s m args below meth c 6 cs D kz_cl A (wq_G0 ad w) (wq_Q cs D kz_cl A (wq_G0 ad w) rt xt below s 0 0) pc (ku_M_lastRate rt xt n pc) := by
    intro n
    induction n with
    | zero => intro pc _ L S w9 n1 n2 h; exact h.elim
    | succ n ih => intro pc hpc; exact (hall (ku_M_lastRate rt xt n) ih).1 pc hpc
  exact (hall (ku_M_lastRate rt xt 1000000000000) (hun 1000000000000)).2 _ _ _ _ _ (wq_sp_t hsp)
set_option maxRecDepth 100000 in
set_option maxHeartbeats 4000000 in
theorem kv_M_rateOf {l : Launch} (hl : l.stackTraces = false) : wq_Vld l kz_cl ky_M_rateOf kw_T ({ frames := 1, cells := 0, slots := 0, locals := 25 }) wq_G0 ks_M_rateOf 0 0 := by
  refine wq_method (cc := kc_M_rateOf) (maxL := 6) (ret := (some .int)) (by decide) kw_1249 (fun _ _ => rfl) wq_sp_sz ?_
  intro p e s m args below meth c cs D ad as w rt xt hF hnt hsp
  obtain ⟨h0, hr, hts, hown, hlk, hnm, hml, hK, hZ, hN, hA⟩ := hF
  have hown : s.vm.findClass "BorderDeskModel" = some m.cls := hown
  obtain ⟨A, hAe⟩ : ∃ A, A = wq_A ad w s.heap.size := ⟨_, rfl⟩
  rw [← hAe] at hZ hA ⊢
  have hall : ∀ K : Nat → wq_T, (∀ pc, pc ∈ [6] → wq_Snd p l e ({ frames := 1, cells := 0, slots := 0, locals := 25 } : Room) s m args below meth c 6 cs D kz_cl A (wq_G0 ad w) (wq_Q cs D kz_cl A (wq_G0 ad w) rt xt below s 0 0) pc (K pc)) → (∀ pc, pc ∈ [6] → wq_Snd p l e ({ frames := 1, cells := 0, slots := 0, locals := 25 } : Room) s m args below meth c 6 cs D kz_cl A (wq_G0 ad w) (wq_Q cs D kz_cl A (wq_G0 ad w) rt xt below s 0 0) pc (cond (Nat.beq pc 6) (kh_M_rateOf_6 rt xt K) (fun _ _ _ _ _ => False))) ∧ wq_Snd p l e ({ frames := 1, cells := 0, slots := 0, locals := 25 } : Room) s m args below meth c 6 cs D kz_cl A (wq_G0 ad w) (wq_Q cs D kz_cl A (wq_G0 ad w) rt xt below s 0 0) 0 (kt_M_rateOf_0 rt xt K) := by
    intro K hKc
    have hb_58 : wq_Snd p l e ({ frames := 1, cells := 0, slots := 0, locals := 25 } : Room) s m args below meth c 6 cs D kz_cl A (wq_G0 ad w) (wq_Q cs D kz_cl A (wq_G0 ad w) rt xt below s 0 0) 58 (kt_M_rateOf_58 rt xt K) := by
      refine wq_iload_ok h0 kd_M_rateOf_58 ?_
      exact wq_ireturn_ok h0 hr hlk kd_M_rateOf_60
    have hb_44 : wq_Snd p l e ({ frames := 1, cells := 0, slots := 0, locals := 25 } : Room) s m args below meth c 6 cs D kz_cl A (wq_G0 ad w) (wq_Q cs D kz_cl A (wq_G0 ad w) rt xt below s 0 0) 44 (kt_M_rateOf_44 rt xt K) := by
      refine wq_istore_ok h0 kd_M_rateOf_44 (Nat.le_of_ble_eq_true rfl) ?_
      refine wq_aload_n_ok h0 kd_M_rateOf_46 rfl ?_
      refine wq_get_ok (wq_getOK h0 hts ki_M hown hK (ci := 9) rfl 2 (Nat.le_of_ble_eq_true rfl) kw_984 rfl) kd_M_rateOf_47 ?_
      refine wq_iload_ok h0 kd_M_rateOf_50 ?_
      refine wq_iald_ok h0 hK kd_M_rateOf_52 ?_
      refine wq_istore_ok h0 kd_M_rateOf_53 (Nat.le_of_ble_eq_true rfl) ?_
      refine wq_goto_ok (tgt := 6) h0 kd_M_rateOf_55 (by decide) ?_
      exact wq_can_ok (hKc 6 (by decide))
    have hb_42 : wq_Snd p l e ({ frames := 1, cells := 0, slots := 0, locals := 25 } : Room) s m args below meth c 6 cs D kz_cl A (wq_G0 ad w) (wq_Q cs D kz_cl A (wq_G0 ad w) rt xt below s 0 0) 42 (kt_M_rateOf_42 rt xt K) := by
      refine wq_iload_ok h0 kd_M_rateOf_42 ?_
      exact hb_44
    have hb_6 : wq_Snd p l e ({ frames := 1, cells := 0, slots := 0, locals := 25 } : Room) s m args below meth c 6 cs D kz_cl A (wq_G0 ad w) (wq_Q cs D kz_cl A (wq_G0 ad w) rt xt below s 0 0) 6 (kh_M_rateOf_6 rt xt K) := by
      refine wq_iload_ok h0 kd_M_rateOf_6 ?_
      refine wq_if_lt_ok (tgt := 58) h0 kd_M_rateOf_8 (by decide) ?_ ?_
      · exact hb_58
      refine wq_iload_ok h0 kd_M_rateOf_11 ?_
      refine wq_if_ge_ok (tgt := 58) h0 kd_M_rateOf_13 (by decide) ?_ ?_
      · exact hb_58
      refine wq_aload_n_ok h0 kd_M_rateOf_16 rfl ?_
      refine wq_iload_ok h0 kd_M_rateOf_17 ?_
      refine wq_iload_n_ok h0 kd_M_rateOf_19 rfl ?_
      refine wq_iload_n_ok h0 kd_M_rateOf_20 rfl ?_
      refine wq_call_ok hA (wq_runV (ci := 9) ⟨h0.1, h0.2, hml, hown, hts⟩ (kv_M_lastRate hl) ⟨(wq_cB hts kw_G kw_1253 kw_10 kw_1250 ⟨by decide +kernel, by decide +kernel, by decide +kernel⟩ rfl rfl ⟨Nat.le_of_ble_eq_true rfl, Nat.le_of_ble_eq_true rfl⟩), hts _ kw_1252, hts _ kw_s36⟩ rfl rfl hK hZ hN hA kd_M_rateOf_21) (wq_xout_ok hnt hlk) ?_
      refine wq_istore_ok h0 kd_M_rateOf_24 (Nat.le_of_ble_eq_true rfl) ?_
      refine wq_iload_ok h0 kd_M_rateOf_26 ?_
      refine wq_if_ge_ok (tgt := 42) h0 kd_M_rateOf_28 (by decide) ?_ ?_
      · exact hb_42
      refine wq_aload_n_ok h0 kd_M_rateOf_31 rfl ?_
      refine wq_iload_ok h0 kd_M_rateOf_32 ?_
      refine wq_iconst_ok h0 kd_M_rateOf_34 (by decide +kernel) ?_
      refine wq_iload_n_ok h0 kd_M_rateOf_35 rfl ?_
      refine wq_call_ok hA (wq_runV (ci := 9) ⟨h0.1, h0.2, hml, hown, hts⟩ (kv_M_lastRate hl) ⟨(wq_cB hts kw_G kw_1253 kw_10 kw_1250 ⟨by decide +kernel, by decide +kernel, by decide +kernel⟩ rfl rfl ⟨Nat.le_of_ble_eq_true rfl, Nat.le_of_ble_eq_true rfl⟩), hts _ kw_1252, hts _ kw_s36⟩ rfl rfl hK hZ hN hA kd_M_rateOf_36) (wq_xout_ok hnt hlk) ?_
      refine wq_goto_ok (tgt := 44) h0 kd_M_rateOf_39 (by decide) ?_
      exact hb_44
    have hb_0 : wq_Snd p l e ({ frames := 1, cells := 0, slots := 0, locals := 25 } : Room) s m args below meth c 6 cs D kz_cl A (wq_G0 ad w) (wq_Q cs D kz_cl A (wq_G0 ad w) rt xt below s 0 0) 0 (kt_M_rateOf_0 rt xt K) := by
      refine wq_iconst_ok h0 kd_M_rateOf_0 (by decide +kernel) ?_
      refine wq_istore_ok h0 kd_M_rateOf_1 (Nat.le_of_ble_eq_true rfl) ?_
      refine wq_iload_n_ok h0 kd_M_rateOf_3 rfl ?_
      refine wq_istore_ok h0 kd_M_rateOf_4 (Nat.le_of_ble_eq_true rfl) ?_
      exact wq_can_ok (hKc 6 (by decide))
    refine ⟨?_, hb_0⟩
    exact List.forall_mem_cons.mpr ⟨hb_6, fun _ h => absurd h List.not_mem_nil⟩
  have hun : ∀ (n pc : Nat), pc ∈ [6] → wq_Snd p l e ({ frames := 1, cells := 0, slots := 0, locals := 25 } : Room) s m args below meth c 6 cs D kz_cl A (wq_G0 ad w) (wq_Q cs D kz_cl A (wq_G0 ad w) rt xt below s 0 0) pc (ku_M_rateOf rt xt n pc) := by
    intro n
    induction n with
    | zero => intro pc _ L S w9 n1 n2 h; exact h.elim
    | succ n ih => intro pc hpc; exact (hall (ku_M_rateOf rt xt n) ih).1 pc hpc
  exact (hall (ku_M_rateOf rt xt 1000000000000) (hun 1000000000000)).2 _ _ _ _ _ (wq_sp_t hsp)
set_option maxRecDepth 100000 in
set_option maxHeartbeats 4000000 in
theorem kv_M_rateFor {l : Launch} (hl : l.stackTraces = false) : wq_Vld l kz_cl ky_M_rateFor kw_T ({ frames := 2, cells := 0, slots := 0, locals := 50 }) wq_G0 ks_M_rateFor 0 0 := by
  refine wq_method (cc := kc_M_rateFor) (maxL := 4) (ret := (some .int)) (by decide) kw_1245 (fun _ _ => rfl) wq_sp_sz ?_
  intro p e s m args below meth c cs D ad as w rt xt hF hnt hsp
  obtain ⟨h0, hr, hts, hown, hlk, hnm, hml, hK, hZ, hN, hA⟩ := hF
  have hown : s.vm.findClass "BorderDeskModel" = some m.cls := hown
  obtain ⟨A, hAe⟩ : ∃ A, A = wq_A ad w s.heap.size := ⟨_, rfl⟩
  rw [← hAe] at hZ hA ⊢
  have hb_56 : wq_Snd p l e ({ frames := 2, cells := 0, slots := 0, locals := 50 } : Room) s m args below meth c 4 cs D kz_cl A (wq_G0 ad w) (wq_Q cs D kz_cl A (wq_G0 ad w) rt xt below s 0 0) 56 (kt_M_rateFor_56 rt xt) := by
    exact wq_ireturn_ok h0 hr hlk kd_M_rateFor_56
  have hb_49 : wq_Snd p l e ({ frames := 2, cells := 0, slots := 0, locals := 50 } : Room) s m args below meth c 4 cs D kz_cl A (wq_G0 ad w) (wq_Q cs D kz_cl A (wq_G0 ad w) rt xt below s 0 0) 49 (kt_M_rateFor_49 rt xt) := by
    refine wq_aload_n_ok h0 kd_M_rateFor_49 rfl ?_
    refine wq_iload_n_ok h0 kd_M_rateFor_50 rfl ?_
    refine wq_iload_n_ok h0 kd_M_rateFor_51 rfl ?_
    refine wq_iload_n_ok h0 kd_M_rateFor_52 rfl ?_
    refine wq_call_ok hA (wq_runV (ci := 9) ⟨h0.1, h0.2, hml, hown, hts⟩ (kv_M_rateOf hl) ⟨(wq_cB hts kw_G kw_1249 kw_10 kw_1246 ⟨by decide +kernel, by decide +kernel, by decide +kernel⟩ rfl rfl ⟨Nat.le_of_ble_eq_true rfl, Nat.le_of_ble_eq_true rfl⟩), hts _ kw_1248, hts _ kw_s35⟩ rfl rfl hK hZ hN hA kd_M_rateFor_53) (wq_xout_ok hnt hlk) ?_
    exact hb_56
  have hb_35 : wq_Snd p l e ({ frames := 2, cells := 0, slots := 0, locals := 50 } : Room) s m args below meth c 4 cs D kz_cl A (wq_G0 ad w) (wq_Q cs D kz_cl A (wq_G0 ad w) rt xt below s 0 0) 35 (kt_M_rateFor_35 rt xt) := by
    refine wq_put_ok (wq_putOK h0 hts ki_M ka_M kb_M kn_M hown hK (ci := 9) rfl 0 (Nat.le_of_ble_eq_true rfl) kw_982 rfl (Or.inl rfl) wq_okI) kd_M_rateFor_35 ?_
    refine wq_aload_n_ok h0 kd_M_rateFor_38 rfl ?_
    refine wq_get_ok (wq_getOK h0 hts ki_M hown hK (ci := 9) rfl 0 (Nat.le_of_ble_eq_true rfl) kw_982 rfl) kd_M_rateFor_39 ?_
    refine wq_if_le_ok (tgt := 49) h0 kd_M_rateFor_42 (by decide) ?_ ?_
    · exact hb_49
    refine wq_iconst_ok h0 kd_M_rateFor_45 (by decide +kernel) ?_
    refine wq_goto_ok (tgt := 56) h0 kd_M_rateFor_46 (by decide) ?_
    exact hb_56
  have hb_34 : wq_Snd p l e ({ frames := 2, cells := 0, slots := 0, locals := 50 } : Room) s m args below meth c 4 cs D kz_cl A (wq_G0 ad w) (wq_Q cs D kz_cl A (wq_G0 ad w) rt xt below s 0 0) 34 (kt_M_rateFor_34 rt xt) := by
    refine wq_iconst_ok h0 kd_M_rateFor_34 (by decide +kernel) ?_
    exact hb_35
  have hb_0 : wq_Snd p l e ({ frames := 2, cells := 0, slots := 0, locals := 50 } : Room) s m args below meth c 4 cs D kz_cl A (wq_G0 ad w) (wq_Q cs D kz_cl A (wq_G0 ad w) rt xt below s 0 0) 0 (kt_M_rateFor_0 rt xt) := by
    refine wq_aload_n_ok h0 kd_M_rateFor_0 rfl ?_
    refine wq_aload_n_ok h0 kd_M_rateFor_1 rfl ?_
    refine wq_iload_n_ok h0 kd_M_rateFor_2 rfl ?_
    refine wq_call_ok hA (wq_runV (ci := 9) ⟨h0.1, h0.2, hml, hown, hts⟩ (kv_M_isHeading hl) ⟨(wq_cB hts kw_G kw_1198 kw_10 kw_1195 ⟨by decide +kernel, by decide +kernel, by decide +kernel⟩ rfl rfl ⟨Nat.le_of_ble_eq_true rfl, Nat.le_of_ble_eq_true rfl⟩), hts _ kw_1197, hts _ kw_s28⟩ rfl rfl hK hZ hN hA kd_M_rateFor_3) (wq_xout_ok hnt hlk) ?_
    refine wq_if_eq_ok (tgt := 34) h0 kd_M_rateFor_6 (by decide) ?_ ?_
    · exact hb_34
    refine wq_iload_n_ok h0 kd_M_rateFor_9 rfl ?_
    refine wq_iconst_ok h0 kd_M_rateFor_10 (by decide +kernel) ?_
    refine wq_bipush_ok h0 kd_M_rateFor_11 (by decide +kernel) ?_
    refine wq_call_ok hA (wq_runS ⟨h0.1, h0.2, hml, hown, hts⟩ (kv_M_within hl) ⟨(wq_cB hts kw_G kw_1209 kw_10 kw_1207 ⟨by decide +kernel, by decide +kernel, by decide +kernel⟩ rfl rfl ⟨Nat.le_of_ble_eq_true rfl, Nat.le_of_ble_eq_true rfl⟩), hts _ kw_1208⟩ hK hZ hN hA kd_M_rateFor_13) (wq_xout_ok hnt hlk) ?_
    refine wq_if_eq_ok (tgt := 34) h0 kd_M_rateFor_16 (by decide) ?_ ?_
    · exact hb_34
    refine wq_iload_n_ok h0 kd_M_rateFor_19 rfl ?_
    refine wq_iconst_ok h0 kd_M_rateFor_20 (by decide +kernel) ?_
    refine wq_sipush_ok h0 kd_M_rateFor_21 (by decide +kernel) ?_
    refine wq_call_ok hA (wq_runS ⟨h0.1, h0.2, hml, hown, hts⟩ (kv_M_within hl) ⟨(wq_cB hts kw_G kw_1209 kw_10 kw_1207 ⟨by decide +kernel, by decide +kernel, by decide +kernel⟩ rfl rfl ⟨Nat.le_of_ble_eq_true rfl, Nat.le_of_ble_eq_true rfl⟩), hts _ kw_1208⟩ hK hZ hN hA kd_M_rateFor_24) (wq_xout_ok hnt hlk) ?_
    refine wq_if_eq_ok (tgt := 34) h0 kd_M_rateFor_27 (by decide) ?_ ?_
    · exact hb_34
    refine wq_iconst_ok h0 kd_M_rateFor_30 (by decide +kernel) ?_
    refine wq_goto_ok (tgt := 35) h0 kd_M_rateFor_31 (by decide) ?_
    exact hb_35
  exact hb_0 _ _ _ _ _ (wq_sp_t hsp)
