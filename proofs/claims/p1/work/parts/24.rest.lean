-- BorderDesk$Origins.has(II)Z
def kt_O_has_14 (rt : Option wq_V → wq_W → Prop) (xt : Nat → wq_W → Prop) : wq_T := (wq_zreturn 0 0 rt)
def kt_O_has_13 (rt : Option wq_V → wq_W → Prop) (xt : Nat → wq_W → Prop) : wq_T := (wq_iconst (nI 0) (kt_O_has_14 rt xt))
def kt_O_has_0 (rt : Option wq_V → wq_W → Prop) (xt : Nat → wq_W → Prop) : wq_T := (wq_iload 0 (wq_iload 1 (wq_i2 (fun x y => x >>> (y &&& 31)) (wq_iconst (nI 1) (wq_i2 (fun x y => x &&& y) (wq_iconst (nI 1) (wq_f2 (fun x y => x = y) (wq_iconst (nI 1) (kt_O_has_14 rt xt)) (kt_O_has_13 rt xt))))))))
def ks_O_has : wq_S := wq_sp 2 (fun rt xt => kt_O_has_0 rt xt)
set_option maxRecDepth 100000 in
set_option maxHeartbeats 4000000 in
theorem kv_O_has {l : Launch} (hl : l.stackTraces = false) : wq_Vld l kz_cl ky_O_has kw_T ({ frames := 0, cells := 0, slots := 0, locals := 0 }) wq_G0 ks_O_has 0 0 := by
  refine wq_method (cc := kc_O_has) (maxL := 2) (ret := (some .boolean)) (by decide) kw_632 (fun _ _ => rfl) wq_sp_sz ?_
  intro p e s m args below meth c cs D ad as w rt xt hF hnt hsp
  obtain ⟨h0, hr, hts, hown, hlk, hnm, hml, hK, hZ, hN, hA⟩ := hF
  have hown : s.vm.findClass "BorderDesk$Origins" = some m.cls := hown
  obtain ⟨A, hAe⟩ : ∃ A, A = wq_A ad w s.heap.size := ⟨_, rfl⟩
  rw [← hAe] at hZ hA ⊢
  have hb_14 : wq_Snd p l e ({ frames := 0, cells := 0, slots := 0, locals := 0 } : Room) s m args below meth c 2 cs D kz_cl A (wq_G0 ad w) (wq_Q cs D kz_cl A (wq_G0 ad w) rt xt below s 0 0) 14 (kt_O_has_14 rt xt) := by
    exact wq_zreturn_ok h0 hr hlk kd_O_has_14
  have hb_13 : wq_Snd p l e ({ frames := 0, cells := 0, slots := 0, locals := 0 } : Room) s m args below meth c 2 cs D kz_cl A (wq_G0 ad w) (wq_Q cs D kz_cl A (wq_G0 ad w) rt xt below s 0 0) 13 (kt_O_has_13 rt xt) := by
    refine wq_iconst_ok h0 kd_O_has_13 (by decide +kernel) ?_
    exact hb_14
  have hb_0 : wq_Snd p l e ({ frames := 0, cells := 0, slots := 0, locals := 0 } : Room) s m args below meth c 2 cs D kz_cl A (wq_G0 ad w) (wq_Q cs D kz_cl A (wq_G0 ad w) rt xt below s 0 0) 0 (kt_O_has_0 rt xt) := by
    refine wq_iload_n_ok h0 kd_O_has_0 rfl ?_
    refine wq_iload_n_ok h0 kd_O_has_1 rfl ?_
    refine wq_ishr_ok h0 kd_O_has_2 ?_
    refine wq_iconst_ok h0 kd_O_has_3 (by decide +kernel) ?_
    refine wq_iand_ok h0 kd_O_has_4 ?_
    refine wq_iconst_ok h0 kd_O_has_5 (by decide +kernel) ?_
    refine wq_icmp_ne_ok (tgt := 13) h0 kd_O_has_6 (by decide) ?_ ?_
    · exact hb_13
    refine wq_iconst_ok h0 kd_O_has_9 (by decide +kernel) ?_
    refine wq_goto_ok (tgt := 14) h0 kd_O_has_10 (by decide) ?_
    exact hb_14
  exact hb_0 _ _ _ _ _ (wq_sp_t hsp)
-- BorderDesk$Origins.wouldComeRound(II)Z
def kt_O_wouldComeRound_23 (rt : Option wq_V → wq_W → Prop) (xt : Nat → wq_W → Prop) : wq_T := (wq_zreturn 0 0 rt)
def kt_O_wouldComeRound_18 (rt : Option wq_V → wq_W → Prop) (xt : Nat → wq_W → Prop) : wq_T := (wq_iconst (nI 1) (kt_O_wouldComeRound_23 rt xt))
def kt_O_wouldComeRound_22 (rt : Option wq_V → wq_W → Prop) (xt : Nat → wq_W → Prop) : wq_T := (wq_iconst (nI 0) (kt_O_wouldComeRound_23 rt xt))
def kt_O_wouldComeRound_0 (rt : Option wq_V → wq_W → Prop) (xt : Nat → wq_W → Prop) : wq_T := (wq_iload 1 (wq_iload 2 (wq_f2 (fun x y => x = y) (kt_O_wouldComeRound_18 rt xt) (wq_aload 0 (wq_get 4 6 (wq_iload 2 (wq_iald (wq_iload 1 (wq_call ks_O_has 2 0 0 0 0 (wq_xout 0 0 xt) (wq_f1 (fun x => x = 0) (kt_O_wouldComeRound_22 rt xt) (kt_O_wouldComeRound_18 rt xt)))))))))))
def ks_O_wouldComeRound : wq_S := wq_sp 3 (fun rt xt => kt_O_wouldComeRound_0 rt xt)
set_option maxRecDepth 100000 in
set_option maxHeartbeats 4000000 in
theorem kv_O_wouldComeRound {l : Launch} (hl : l.stackTraces = false) : wq_Vld l kz_cl ky_O_wouldComeRound kw_T ({ frames := 1, cells := 0, slots := 0, locals := 21 }) wq_G0 ks_O_wouldComeRound 0 0 := by
  refine wq_method (cc := kc_O_wouldComeRound) (maxL := 3) (ret := (some .boolean)) (by decide) kw_629 (fun _ _ => rfl) wq_sp_sz ?_
  intro p e s m args below meth c cs D ad as w rt xt hF hnt hsp
  obtain ⟨h0, hr, hts, hown, hlk, hnm, hml, hK, hZ, hN, hA⟩ := hF
  have hown : s.vm.findClass "BorderDesk$Origins" = some m.cls := hown
  obtain ⟨A, hAe⟩ : ∃ A, A = wq_A ad w s.heap.size := ⟨_, rfl⟩
  rw [← hAe] at hZ hA ⊢
  have hb_23 : wq_Snd p l e ({ frames := 1, cells := 0, slots := 0, locals := 21 } : Room) s m args below meth c 3 cs D kz_cl A (wq_G0 ad w) (wq_Q cs D kz_cl A (wq_G0 ad w) rt xt below s 0 0) 23 (kt_O_wouldComeRound_23 rt xt) := by
    exact wq_zreturn_ok h0 hr hlk kd_O_wouldComeRound_23
  have hb_18 : wq_Snd p l e ({ frames := 1, cells := 0, slots := 0, locals := 21 } : Room) s m args below meth c 3 cs D kz_cl A (wq_G0 ad w) (wq_Q cs D kz_cl A (wq_G0 ad w) rt xt below s 0 0) 18 (kt_O_wouldComeRound_18 rt xt) := by
    refine wq_iconst_ok h0 kd_O_wouldComeRound_18 (by decide +kernel) ?_
    refine wq_goto_ok (tgt := 23) h0 kd_O_wouldComeRound_19 (by decide) ?_
    exact hb_23
  have hb_22 : wq_Snd p l e ({ frames := 1, cells := 0, slots := 0, locals := 21 } : Room) s m args below meth c 3 cs D kz_cl A (wq_G0 ad w) (wq_Q cs D kz_cl A (wq_G0 ad w) rt xt below s 0 0) 22 (kt_O_wouldComeRound_22 rt xt) := by
    refine wq_iconst_ok h0 kd_O_wouldComeRound_22 (by decide +kernel) ?_
    exact hb_23
  have hb_0 : wq_Snd p l e ({ frames := 1, cells := 0, slots := 0, locals := 21 } : Room) s m args below meth c 3 cs D kz_cl A (wq_G0 ad w) (wq_Q cs D kz_cl A (wq_G0 ad w) rt xt below s 0 0) 0 (kt_O_wouldComeRound_0 rt xt) := by
    refine wq_iload_n_ok h0 kd_O_wouldComeRound_0 rfl ?_
    refine wq_iload_n_ok h0 kd_O_wouldComeRound_1 rfl ?_
    refine wq_icmp_eq_ok (tgt := 18) h0 kd_O_wouldComeRound_2 (by decide) ?_ ?_
    · exact hb_18
    refine wq_aload_n_ok h0 kd_O_wouldComeRound_5 rfl ?_
    refine wq_get_ok (wq_getOK h0 hts ki_O hown hK (ci := 4) rfl 6 (Nat.le_of_ble_eq_true rfl) kw_172 rfl) kd_O_wouldComeRound_6 ?_
    refine wq_iload_n_ok h0 kd_O_wouldComeRound_9 rfl ?_
    refine wq_iald_ok h0 hK kd_O_wouldComeRound_10 ?_
    refine wq_iload_n_ok h0 kd_O_wouldComeRound_11 rfl ?_
    refine wq_call_ok hA (wq_runS ⟨h0.1, h0.2, hml, hown, hts⟩ (kv_O_has hl) ⟨(wq_cB hts kw_G kw_632 kw_5 kw_630 ⟨by decide +kernel, by decide +kernel, by decide +kernel⟩ rfl rfl ⟨Nat.le_of_ble_eq_true rfl, Nat.le_of_ble_eq_true rfl⟩), hts _ kw_631⟩ hK hZ hN hA kd_O_wouldComeRound_12) (wq_xout_ok hnt hlk) ?_
    refine wq_if_eq_ok (tgt := 22) h0 kd_O_wouldComeRound_15 (by decide) ?_ ?_
    · exact hb_22
    exact hb_18
  exact hb_0 _ _ _ _ _ (wq_sp_t hsp)
-- BorderDesk$Origins.addPart(IIII)I
def kt_O_addPart_109 (rt : Option wq_V → wq_W → Prop) (xt : Nat → wq_W → Prop) (K : Nat → wq_T) : wq_T := (wq_aload 0 (wq_get 4 2 (wq_iload 1 (wq_iald (wq_ireturn 0 0 rt)))))
def kt_O_addPart_103 (rt : Option wq_V → wq_W → Prop) (xt : Nat → wq_W → Prop) (K : Nat → wq_T) : wq_T := (wq_iinc 7 (nI 1) (K 64))
def kt_O_addPart_91 (rt : Option wq_V → wq_W → Prop) (xt : Nat → wq_W → Prop) (K : Nat → wq_T) : wq_T := (wq_aload 0 (wq_get 4 6 (wq_iload 7 (wq_dup2 (wq_iald (wq_iload 6 (wq_i2 (fun x y => x ||| y) (wq_iast (kt_O_addPart_103 rt xt K)))))))))
def kh_O_addPart_64 (rt : Option wq_V → wq_W → Prop) (xt : Nat → wq_W → Prop) (K : Nat → wq_T) : wq_T := (wq_iload 7 (wq_iconst (nI 16) (wq_f2 (fun x y => y ≤ x) (kt_O_addPart_109 rt xt K) (wq_iload 7 (wq_iload 1 (wq_f2 (fun x y => x = y) (kt_O_addPart_91 rt xt K) (wq_aload 0 (wq_get 4 6 (wq_iload 7 (wq_iald (wq_iload 1 (wq_call ks_O_has 2 0 0 0 0 (wq_xout 0 0 xt) (wq_f1 (fun x => x = 0) (kt_O_addPart_103 rt xt K) (kt_O_addPart_91 rt xt K))))))))))))))
def kt_O_addPart_0 (rt : Option wq_V → wq_W → Prop) (xt : Nat → wq_W → Prop) (K : Nat → wq_T) : wq_T := (wq_aload 0 (wq_get 4 2 (wq_iload 1 (wq_iald (wq_istore 5 (wq_aload 0 (wq_get 4 3 (wq_iload 1 (wq_aald (wq_iload 5 (wq_iload 2 (wq_iast (wq_aload 0 (wq_get 4 4 (wq_iload 1 (wq_aald (wq_iload 5 (wq_iload 3 (wq_iast (wq_aload 0 (wq_get 4 5 (wq_iload 1 (wq_aald (wq_iload 5 (wq_iload 4 (wq_iast (wq_aload 0 (wq_get 4 2 (wq_iload 1 (wq_dup2 (wq_iald (wq_iconst (nI 1) (wq_i2 (fun x y => x + y) (wq_iast (wq_aload 0 (wq_get 4 6 (wq_iload 2 (wq_iald (wq_iconst (nI 1) (wq_iload 2 (wq_i2 (fun x y => x <<< (y &&& 31)) (wq_i2 (fun x y => x ||| y) (wq_istore 6 (wq_iconst (nI 0) (wq_istore 7 (K 64))))))))))))))))))))))))))))))))))))))))))))))
def ku_O_addPart (rt : Option wq_V → wq_W → Prop) (xt : Nat → wq_W → Prop) : Nat → Nat → wq_T
  | 0, _ => fun _ _ _ _ _ => False
  | n + 1, pc => cond (Nat.beq pc 64) (kh_O_addPart_64 rt xt (ku_O_addPart rt xt n)) (fun _ _ _ _ _ => False)
def ks_O_addPart : wq_S := wq_sp 8 (fun rt xt => kt_O_addPart_0 rt xt (ku_O_addPart rt xt 40))
set_option maxRecDepth 100000 in
set_option maxHeartbeats 4000000 in
theorem kv_O_addPart {l : Launch} (hl : l.stackTraces = false) : wq_Vld l kz_cl ky_O_addPart kw_T ({ frames := 1, cells := 0, slots := 0, locals := 21 }) wq_G0 ks_O_addPart 0 0 := by
  refine wq_method (cc := kc_O_addPart) (maxL := 8) (ret := (some .int)) (by decide) kw_636 (fun _ _ => rfl) wq_sp_sz ?_
  intro p e s m args below meth c cs D ad as w rt xt hF hnt hsp
  obtain ⟨h0, hr, hts, hown, hlk, hnm, hml, hK, hZ, hN, hA⟩ := hF
  have hown : s.vm.findClass "BorderDesk$Origins" = some m.cls := hown
  obtain ⟨A, hAe⟩ : ∃ A, A = wq_A ad w s.heap.size := ⟨_, rfl⟩
  rw [← hAe] at hZ hA ⊢
  have hall : ∀ K : Nat → wq_T, (∀ pc, pc ∈ [64] → wq_Snd p l e ({ frames := 1, cells := 0, slots := 0, locals := 21 } : Room) s m args below meth c 8 cs D kz_cl A (wq_G0 ad w) (wq_Q cs D kz_cl A (wq_G0 ad w) rt xt below s 0 0) pc (K pc)) → (∀ pc, pc ∈ [64] → wq_Snd p l e ({ frames := 1, cells := 0, slots := 0, locals := 21 } : Room) s m args below meth c 8 cs D kz_cl A (wq_G0 ad w) (wq_Q cs D kz_cl A (wq_G0 ad w) rt xt below s 0 0) pc (cond (Nat.beq pc 64) (kh_O_addPart_64 rt xt K) (fun _ _ _ _ _ => False))) ∧ wq_Snd p l e ({ frames := 1, cells := 0, slots := 0, locals := 21 } : Room) s m args below meth c 8 cs D kz_cl A (wq_G0 ad w) (wq_Q cs D kz_cl A (wq_G0 ad w) rt xt below s 0 0) 0 (kt_O_addPart_0 rt xt K) := by
    intro K hKc
    have hb_109 : wq_Snd p l e ({ frames := 1, cells := 0, slots := 0, locals := 21 } : Room) s m args below meth c 8 cs D kz_cl A (wq_G0 ad w) (wq_Q cs D kz_cl A (wq_G0 ad w) rt xt below s 0 0) 109 (kt_O_addPart_109 rt xt K) := by
      refine wq_aload_n_ok h0 kd_O_addPart_109 rfl ?_
      refine wq_get_ok (wq_getOK h0 hts ki_O hown hK (ci := 4) rfl 2 (Nat.le_of_ble_eq_true rfl) kw_167 rfl) kd_O_addPart_110 ?_
      refine wq_iload_n_ok h0 kd_O_addPart_113 rfl ?_
      refine wq_iald_ok h0 hK kd_O_addPart_114 ?_
      exact wq_ireturn_ok h0 hr hlk kd_O_addPart_115
    have hb_103 : wq_Snd p l e ({ frames := 1, cells := 0, slots := 0, locals := 21 } : Room) s m args below meth c 8 cs D kz_cl A (wq_G0 ad w) (wq_Q cs D kz_cl A (wq_G0 ad w) rt xt below s 0 0) 103 (kt_O_addPart_103 rt xt K) := by
      refine wq_iinc_ok h0 kd_O_addPart_103 (by decide +kernel) (Nat.le_of_ble_eq_true rfl) ?_
      refine wq_goto_ok (tgt := 64) h0 kd_O_addPart_106 (by decide) ?_
      exact hKc 64 (by decide)
    have hb_91 : wq_Snd p l e ({ frames := 1, cells := 0, slots := 0, locals := 21 } : Room) s m args below meth c 8 cs D kz_cl A (wq_G0 ad w) (wq_Q cs D kz_cl A (wq_G0 ad w) rt xt below s 0 0) 91 (kt_O_addPart_91 rt xt K) := by
      refine wq_aload_n_ok h0 kd_O_addPart_91 rfl ?_
      refine wq_get_ok (wq_getOK h0 hts ki_O hown hK (ci := 4) rfl 6 (Nat.le_of_ble_eq_true rfl) kw_172 rfl) kd_O_addPart_92 ?_
      refine wq_iload_ok h0 kd_O_addPart_95 ?_
      refine wq_dup2_ok h0 kd_O_addPart_97 ?_
      refine wq_iald_ok h0 hK kd_O_addPart_98 ?_
      refine wq_iload_ok h0 kd_O_addPart_99 ?_
      refine wq_ior_ok h0 kd_O_addPart_101 ?_
      refine wq_iast_ok h0 hK kd_O_addPart_102 ?_
      exact hb_103
    have hb_64 : wq_Snd p l e ({ frames := 1, cells := 0, slots := 0, locals := 21 } : Room) s m args below meth c 8 cs D kz_cl A (wq_G0 ad w) (wq_Q cs D kz_cl A (wq_G0 ad w) rt xt below s 0 0) 64 (kh_O_addPart_64 rt xt K) := by
      refine wq_iload_ok h0 kd_O_addPart_64 ?_
      refine wq_bipush_ok h0 kd_O_addPart_66 (by decide +kernel) ?_
      refine wq_icmp_ge_ok (tgt := 109) h0 kd_O_addPart_68 (by decide) ?_ ?_
      · exact hb_109
      refine wq_iload_ok h0 kd_O_addPart_71 ?_
      refine wq_iload_n_ok h0 kd_O_addPart_73 rfl ?_
      refine wq_icmp_eq_ok (tgt := 91) h0 kd_O_addPart_74 (by decide) ?_ ?_
      · exact hb_91
      refine wq_aload_n_ok h0 kd_O_addPart_77 rfl ?_
      refine wq_get_ok (wq_getOK h0 hts ki_O hown hK (ci := 4) rfl 6 (Nat.le_of_ble_eq_true rfl) kw_172 rfl) kd_O_addPart_78 ?_
      refine wq_iload_ok h0 kd_O_addPart_81 ?_
      refine wq_iald_ok h0 hK kd_O_addPart_83 ?_
      refine wq_iload_n_ok h0 kd_O_addPart_84 rfl ?_
      refine wq_call_ok hA (wq_runS ⟨h0.1, h0.2, hml, hown, hts⟩ (kv_O_has hl) ⟨(wq_cB hts kw_G kw_632 kw_5 kw_630 ⟨by decide +kernel, by decide +kernel, by decide +kernel⟩ rfl rfl ⟨Nat.le_of_ble_eq_true rfl, Nat.le_of_ble_eq_true rfl⟩), hts _ kw_631⟩ hK hZ hN hA kd_O_addPart_85) (wq_xout_ok hnt hlk) ?_
      refine wq_if_eq_ok (tgt := 103) h0 kd_O_addPart_88 (by decide) ?_ ?_
      · exact hb_103
      exact hb_91
    have hb_0 : wq_Snd p l e ({ frames := 1, cells := 0, slots := 0, locals := 21 } : Room) s m args below meth c 8 cs D kz_cl A (wq_G0 ad w) (wq_Q cs D kz_cl A (wq_G0 ad w) rt xt below s 0 0) 0 (kt_O_addPart_0 rt xt K) := by
      refine wq_aload_n_ok h0 kd_O_addPart_0 rfl ?_
      refine wq_get_ok (wq_getOK h0 hts ki_O hown hK (ci := 4) rfl 2 (Nat.le_of_ble_eq_true rfl) kw_167 rfl) kd_O_addPart_1 ?_
      refine wq_iload_n_ok h0 kd_O_addPart_4 rfl ?_
      refine wq_iald_ok h0 hK kd_O_addPart_5 ?_
      refine wq_istore_ok h0 kd_O_addPart_6 (Nat.le_of_ble_eq_true rfl) ?_
      refine wq_aload_n_ok h0 kd_O_addPart_8 rfl ?_
      refine wq_get_ok (wq_getOK h0 hts ki_O hown hK (ci := 4) rfl 3 (Nat.le_of_ble_eq_true rfl) kw_169 rfl) kd_O_addPart_9 ?_
      refine wq_iload_n_ok h0 kd_O_addPart_12 rfl ?_
      refine wq_aald_ok h0 hK kd_O_addPart_13 ?_
      refine wq_iload_ok h0 kd_O_addPart_14 ?_
      refine wq_iload_n_ok h0 kd_O_addPart_16 rfl ?_
      refine wq_iast_ok h0 hK kd_O_addPart_17 ?_
      refine wq_aload_n_ok h0 kd_O_addPart_18 rfl ?_
      refine wq_get_ok (wq_getOK h0 hts ki_O hown hK (ci := 4) rfl 4 (Nat.le_of_ble_eq_true rfl) kw_170 rfl) kd_O_addPart_19 ?_
      refine wq_iload_n_ok h0 kd_O_addPart_22 rfl ?_
      refine wq_aald_ok h0 hK kd_O_addPart_23 ?_
      refine wq_iload_ok h0 kd_O_addPart_24 ?_
      refine wq_iload_n_ok h0 kd_O_addPart_26 rfl ?_
      refine wq_iast_ok h0 hK kd_O_addPart_27 ?_
      refine wq_aload_n_ok h0 kd_O_addPart_28 rfl ?_
      refine wq_get_ok (wq_getOK h0 hts ki_O hown hK (ci := 4) rfl 5 (Nat.le_of_ble_eq_true rfl) kw_171 rfl) kd_O_addPart_29 ?_
      refine wq_iload_n_ok h0 kd_O_addPart_32 rfl ?_
      refine wq_aald_ok h0 hK kd_O_addPart_33 ?_
      refine wq_iload_ok h0 kd_O_addPart_34 ?_
      refine wq_iload_ok h0 kd_O_addPart_36 ?_
      refine wq_iast_ok h0 hK kd_O_addPart_38 ?_
      refine wq_aload_n_ok h0 kd_O_addPart_39 rfl ?_
      refine wq_get_ok (wq_getOK h0 hts ki_O hown hK (ci := 4) rfl 2 (Nat.le_of_ble_eq_true rfl) kw_167 rfl) kd_O_addPart_40 ?_
      refine wq_iload_n_ok h0 kd_O_addPart_43 rfl ?_
      refine wq_dup2_ok h0 kd_O_addPart_44 ?_
      refine wq_iald_ok h0 hK kd_O_addPart_45 ?_
      refine wq_iconst_ok h0 kd_O_addPart_46 (by decide +kernel) ?_
      refine wq_iadd_ok h0 kd_O_addPart_47 ?_
      refine wq_iast_ok h0 hK kd_O_addPart_48 ?_
      refine wq_aload_n_ok h0 kd_O_addPart_49 rfl ?_
      refine wq_get_ok (wq_getOK h0 hts ki_O hown hK (ci := 4) rfl 6 (Nat.le_of_ble_eq_true rfl) kw_172 rfl) kd_O_addPart_50 ?_
      refine wq_iload_n_ok h0 kd_O_addPart_53 rfl ?_
      refine wq_iald_ok h0 hK kd_O_addPart_54 ?_
      refine wq_iconst_ok h0 kd_O_addPart_55 (by decide +kernel) ?_
      refine wq_iload_n_ok h0 kd_O_addPart_56 rfl ?_
      refine wq_ishl_ok h0 kd_O_addPart_57 ?_
      refine wq_ior_ok h0 kd_O_addPart_58 ?_
      refine wq_istore_ok h0 kd_O_addPart_59 (Nat.le_of_ble_eq_true rfl) ?_
      refine wq_iconst_ok h0 kd_O_addPart_61 (by decide +kernel) ?_
      refine wq_istore_ok h0 kd_O_addPart_62 (Nat.le_of_ble_eq_true rfl) ?_
      exact hKc 64 (by decide)
    refine ⟨?_, hb_0⟩
    exact List.forall_mem_cons.mpr ⟨hb_64, fun _ h => absurd h List.not_mem_nil⟩
  have hun : ∀ (n pc : Nat), pc ∈ [64] → wq_Snd p l e ({ frames := 1, cells := 0, slots := 0, locals := 21 } : Room) s m args below meth c 8 cs D kz_cl A (wq_G0 ad w) (wq_Q cs D kz_cl A (wq_G0 ad w) rt xt below s 0 0) pc (ku_O_addPart rt xt n pc) := by
    intro n
    induction n with
    | zero => intro pc _ L S w9 n1 n2 h; exact h.elim
    | succ n ih => intro pc hpc; exact (hall (ku_O_addPart rt xt n) ih).1 pc hpc
  exact (hall (ku_O_addPart rt xt 40) (hun 40)).2 _ _ _ _ _ (wq_sp_t hsp)
-- BorderDesk$Origins.meetsRule(III)Z
def kt_O_meetsRule_75 (rt : Option wq_V → wq_W → Prop) (xt : Nat → wq_W → Prop) : wq_T := (wq_aload 0 (wq_iload 1 (wq_iload 2 (wq_iload 3 (wq_aload 0 (wq_get 4 0 (wq_get 1 4 (wq_iload 5 (wq_iald (wq_call (wq_rv 4 wq_no) 5 0 0 0 0 (wq_xout 0 0 xt) (wq_zreturn 0 0 rt)))))))))))
def kt_O_meetsRule_52 (rt : Option wq_V → wq_W → Prop) (xt : Nat → wq_W → Prop) : wq_T := (wq_aload 0 (wq_get 4 0 (wq_get 1 3 (wq_iload 5 (wq_iald (wq_f1 (fun x => x = 0) (wq_aload 0 (wq_iload 1 (wq_iload 2 (wq_iload 3 (wq_iload 4 (wq_call (wq_rv 4 wq_no) 5 0 0 0 0 (wq_xout 0 0 xt) (wq_zreturn 0 0 rt))))))) (kt_O_meetsRule_75 rt xt)))))))
def kt_O_meetsRule_42 (rt : Option wq_V → wq_W → Prop) (xt : Nat → wq_W → Prop) : wq_T := (wq_istore 5 (wq_iload 5 (wq_iconst (-1) (wq_f2 (fun x y => x = y) (wq_iconst (nI 0) (wq_zreturn 0 0 rt)) (kt_O_meetsRule_52 rt xt)))))
def kt_O_meetsRule_33 (rt : Option wq_V → wq_W → Prop) (xt : Nat → wq_W → Prop) : wq_T := (wq_aload 0 (wq_get 4 0 (wq_iload 4 (wq_call (wq_rv 1 ks_T_headingWithRule) 2 0 0 0 0 (wq_xout 0 0 xt) (kt_O_meetsRule_42 rt xt)))))
def kt_O_meetsRule_21 (rt : Option wq_V → wq_W → Prop) (xt : Nat → wq_W → Prop) : wq_T := (wq_istore 4 (wq_iload 4 (wq_iconst (-1) (wq_f2 (fun x y => x = y) (wq_iconst (-1) (kt_O_meetsRule_42 rt xt)) (kt_O_meetsRule_33 rt xt)))))
def kt_O_meetsRule_13 (rt : Option wq_V → wq_W → Prop) (xt : Nat → wq_W → Prop) : wq_T := (wq_aload 0 (wq_get 4 0 (wq_iload 1 (wq_call (wq_rv 1 ks_T_classOf) 2 0 0 0 0 (wq_xout 0 0 xt) (kt_O_meetsRule_21 rt xt)))))
def kt_O_meetsRule_0 (rt : Option wq_V → wq_W → Prop) (xt : Nat → wq_W → Prop) : wq_T := (wq_aload 0 (wq_get 4 2 (wq_iload 1 (wq_iald (wq_f1 (fun x => x = 0) (wq_iconst (-1) (kt_O_meetsRule_21 rt xt)) (kt_O_meetsRule_13 rt xt))))))
def ks_O_meetsRule : wq_S := wq_sp 6 (fun rt xt => kt_O_meetsRule_0 rt xt)
set_option maxRecDepth 100000 in
set_option maxHeartbeats 4000000 in
theorem kv_O_meetsRule {l : Launch} (hl : l.stackTraces = false) : wq_Vld l kz_cl ky_O_meetsRule kw_T ({ frames := 4, cells := 0, slots := 0, locals := 92 }) wq_G0 ks_O_meetsRule 0 0 := by
  refine wq_method (cc := kc_O_meetsRule) (maxL := 6) (ret := (some .boolean)) (by decide) kw_671 (fun _ _ => rfl) wq_sp_sz ?_
  intro p e s m args below meth c cs D ad as w rt xt hF hnt hsp
  obtain ⟨h0, hr, hts, hown, hlk, hnm, hml, hK, hZ, hN, hA⟩ := hF
  have hown : s.vm.findClass "BorderDesk$Origins" = some m.cls := hown
  obtain ⟨A, hAe⟩ : ∃ A, A = wq_A ad w s.heap.size := ⟨_, rfl⟩
  rw [← hAe] at hZ hA ⊢
  have hb_75 : wq_Snd p l e ({ frames := 4, cells := 0, slots := 0, locals := 92 } : Room) s m args below meth c 6 cs D kz_cl A (wq_G0 ad w) (wq_Q cs D kz_cl A (wq_G0 ad w) rt xt below s 0 0) 75 (kt_O_meetsRule_75 rt xt) := by
    refine wq_aload_n_ok h0 kd_O_meetsRule_75 rfl ?_
    refine wq_iload_n_ok h0 kd_O_meetsRule_76 rfl ?_
    refine wq_iload_n_ok h0 kd_O_meetsRule_77 rfl ?_
    refine wq_iload_n_ok h0 kd_O_meetsRule_78 rfl ?_
    refine wq_aload_n_ok h0 kd_O_meetsRule_79 rfl ?_
    refine wq_get_ok (wq_getOK h0 hts ki_O hown hK (ci := 4) rfl 0 (Nat.le_of_ble_eq_true rfl) kw_164 rfl) kd_O_meetsRule_80 ?_
    refine wq_get_ok (wq_getOK h0 hts ki_T hown hK (ci := 1) rfl 4 (Nat.le_of_ble_eq_true rfl) kw_46 rfl) kd_O_meetsRule_83 ?_
    refine wq_iload_ok h0 kd_O_meetsRule_86 ?_
    refine wq_iald_ok h0 hK kd_O_meetsRule_88 ?_
    refine wq_call_ok hA (wq_runV (ci := 4) ⟨h0.1, h0.2, hml, hown, hts⟩ (wq_no_ok (y := ({ cls := "BorderDesk$Origins", name := "meetsShare", desc := "(IIII)Z" } : Jvm.MethodName)) (ws := kw_T) (rm := { frames := 0, cells := 0, slots := 0, locals := 0 }) (mc := 0) (ms := 0)) ⟨(wq_cB hts kw_G kw_688 kw_5 kw_685 ⟨by decide +kernel, by decide +kernel, by decide +kernel⟩ rfl rfl ⟨Nat.le_of_ble_eq_true rfl, Nat.le_of_ble_eq_true rfl⟩), hts _ kw_687, hts _ kw_s11⟩ rfl rfl hK hZ hN hA kd_O_meetsRule_89) (wq_xout_ok hnt hlk) ?_
    exact wq_zreturn_ok h0 hr hlk kd_O_meetsRule_92
  have hb_52 : wq_Snd p l e ({ frames := 4, cells := 0, slots := 0, locals := 92 } : Room) s m args below meth c 6 cs D kz_cl A (wq_G0 ad w) (wq_Q cs D kz_cl A (wq_G0 ad w) rt xt below s 0 0) 52 (kt_O_meetsRule_52 rt xt) := by
    refine wq_aload_n_ok h0 kd_O_meetsRule_52 rfl ?_
    refine wq_get_ok (wq_getOK h0 hts ki_O hown hK (ci := 4) rfl 0 (Nat.le_of_ble_eq_true rfl) kw_164 rfl) kd_O_meetsRule_53 ?_
    refine wq_get_ok (wq_getOK h0 hts ki_T hown hK (ci := 1) rfl 3 (Nat.le_of_ble_eq_true rfl) kw_43 rfl) kd_O_meetsRule_56 ?_
    refine wq_iload_ok h0 kd_O_meetsRule_59 ?_
    refine wq_iald_ok h0 hK kd_O_meetsRule_61 ?_
    refine wq_if_ne_ok (tgt := 75) h0 kd_O_meetsRule_62 (by decide) ?_ ?_
    · exact hb_75
    refine wq_aload_n_ok h0 kd_O_meetsRule_65 rfl ?_
    refine wq_iload_n_ok h0 kd_O_meetsRule_66 rfl ?_
    refine wq_iload_n_ok h0 kd_O_meetsRule_67 rfl ?_
    refine wq_iload_n_ok h0 kd_O_meetsRule_68 rfl ?_
    refine wq_iload_ok h0 kd_O_meetsRule_69 ?_
    refine wq_call_ok hA (wq_runV (ci := 4) ⟨h0.1, h0.2, hml, hown, hts⟩ (wq_no_ok (y := ({ cls := "BorderDesk$Origins", name := "meetsChange", desc := "(IIII)Z" } : Jvm.MethodName)) (ws := kw_T) (rm := { frames := 0, cells := 0, slots := 0, locals := 0 }) (mc := 0) (ms := 0)) ⟨(wq_cB hts kw_G kw_680 kw_5 kw_677 ⟨by decide +kernel, by decide +kernel, by decide +kernel⟩ rfl rfl ⟨Nat.le_of_ble_eq_true rfl, Nat.le_of_ble_eq_true rfl⟩), hts _ kw_679, hts _ kw_s9⟩ rfl rfl hK hZ hN hA kd_O_meetsRule_71) (wq_xout_ok hnt hlk) ?_
    exact wq_zreturn_ok h0 hr hlk kd_O_meetsRule_74
  have hb_42 : wq_Snd p l e ({ frames := 4, cells := 0, slots := 0, locals := 92 } : Room) s m args below meth c 6 cs D kz_cl A (wq_G0 ad w) (wq_Q cs D kz_cl A (wq_G0 ad w) rt xt below s 0 0) 42 (kt_O_meetsRule_42 rt xt) := by
    refine wq_istore_ok h0 kd_O_meetsRule_42 (Nat.le_of_ble_eq_true rfl) ?_
    refine wq_iload_ok h0 kd_O_meetsRule_44 ?_
    refine wq_iconst_ok h0 kd_O_meetsRule_46 (by decide +kernel) ?_
    refine wq_icmp_ne_ok (tgt := 52) h0 kd_O_meetsRule_47 (by decide) ?_ ?_
    · exact hb_52
    refine wq_iconst_ok h0 kd_O_meetsRule_50 (by decide +kernel) ?_
    exact wq_zreturn_ok h0 hr hlk kd_O_meetsRule_51
  have hb_33 : wq_Snd p l e ({ frames := 4, cells := 0, slots := 0, locals := 92 } : Room) s m args below meth c 6 cs D kz_cl A (wq_G0 ad w) (wq_Q cs D kz_cl A (wq_G0 ad w) rt xt below s 0 0) 33 (kt_O_meetsRule_33 rt xt) := by
    refine wq_aload_n_ok h0 kd_O_meetsRule_33 rfl ?_
    refine wq_get_ok (wq_getOK h0 hts ki_O hown hK (ci := 4) rfl 0 (Nat.le_of_ble_eq_true rfl) kw_164 rfl) kd_O_meetsRule_34 ?_
    refine wq_iload_ok h0 kd_O_meetsRule_37 ?_
    refine wq_call_ok hA (wq_runV (ci := 1) ⟨h0.1, h0.2, hml, hown, hts⟩ (kv_T_headingWithRule hl) ⟨(wq_cB hts kw_G kw_676 kw_2 kw_673 ⟨by decide +kernel, by decide +kernel, by decide +kernel⟩ rfl rfl ⟨Nat.le_of_ble_eq_true rfl, Nat.le_of_ble_eq_true rfl⟩), hts _ kw_674, hts _ kw_675⟩ rfl rfl hK hZ hN hA kd_O_meetsRule_39) (wq_xout_ok hnt hlk) ?_
    exact hb_42
  have hb_21 : wq_Snd p l e ({ frames := 4, cells := 0, slots := 0, locals := 92 } : Room) s m args below meth c 6 cs D kz_cl A (wq_G0 ad w) (wq_Q cs D kz_cl A (wq_G0 ad w) rt xt below s 0 0) 21 (kt_O_meetsRule_21 rt xt) := by
    refine wq_istore_ok h0 kd_O_meetsRule_21 (Nat.le_of_ble_eq_true rfl) ?_
    refine wq_iload_ok h0 kd_O_meetsRule_23 ?_
    refine wq_iconst_ok h0 kd_O_meetsRule_25 (by decide +kernel) ?_
    refine wq_icmp_ne_ok (tgt := 33) h0 kd_O_meetsRule_26 (by decide) ?_ ?_
    · exact hb_33
    refine wq_iconst_ok h0 kd_O_meetsRule_29 (by decide +kernel) ?_
    refine wq_goto_ok (tgt := 42) h0 kd_O_meetsRule_30 (by decide) ?_
    exact hb_42
  have hb_13 : wq_Snd p l e ({ frames := 4, cells := 0, slots := 0, locals := 92 } : Room) s m args below meth c 6 cs D kz_cl A (wq_G0 ad w) (wq_Q cs D kz_cl A (wq_G0 ad w) rt xt below s 0 0) 13 (kt_O_meetsRule_13 rt xt) := by
    refine wq_aload_n_ok h0 kd_O_meetsRule_13 rfl ?_
    refine wq_get_ok (wq_getOK h0 hts ki_O hown hK (ci := 4) rfl 0 (Nat.le_of_ble_eq_true rfl) kw_164 rfl) kd_O_meetsRule_14 ?_
    refine wq_iload_n_ok h0 kd_O_meetsRule_17 rfl ?_
    refine wq_call_ok hA (wq_runV (ci := 1) ⟨h0.1, h0.2, hml, hown, hts⟩ (kv_T_classOf hl) ⟨(wq_cB hts kw_G kw_542 kw_2 kw_672 ⟨by decide +kernel, by decide +kernel, by decide +kernel⟩ rfl rfl ⟨Nat.le_of_ble_eq_true rfl, Nat.le_of_ble_eq_true rfl⟩), hts _ kw_540, hts _ kw_541⟩ rfl rfl hK hZ hN hA kd_O_meetsRule_18) (wq_xout_ok hnt hlk) ?_
    exact hb_21
  have hb_0 : wq_Snd p l e ({ frames := 4, cells := 0, slots := 0, locals := 92 } : Room) s m args below meth c 6 cs D kz_cl A (wq_G0 ad w) (wq_Q cs D kz_cl A (wq_G0 ad w) rt xt below s 0 0) 0 (kt_O_meetsRule_0 rt xt) := by
    refine wq_aload_n_ok h0 kd_O_meetsRule_0 rfl ?_
    refine wq_get_ok (wq_getOK h0 hts ki_O hown hK (ci := 4) rfl 2 (Nat.le_of_ble_eq_true rfl) kw_167 rfl) kd_O_meetsRule_1 ?_
    refine wq_iload_n_ok h0 kd_O_meetsRule_4 rfl ?_
    refine wq_iald_ok h0 hK kd_O_meetsRule_5 ?_
    refine wq_if_ne_ok (tgt := 13) h0 kd_O_meetsRule_6 (by decide) ?_ ?_
    · exact hb_13
    refine wq_iconst_ok h0 kd_O_meetsRule_9 (by decide +kernel) ?_
    refine wq_goto_ok (tgt := 21) h0 kd_O_meetsRule_10 (by decide) ?_
    exact hb_21
  exact hb_0 _ _ _ _ _ (wq_sp_t hsp)
-- BorderDesk$Origins.isMadeIn(II)Z
def kt_O_isMadeIn_98 (rt : Option wq_V → wq_W → Prop) (xt : Nat → wq_W → Prop) (K : Nat → wq_T) : wq_T := (wq_iload 4 (wq_iload 1 (wq_call ks_O_has 2 0 0 0 0 (wq_xout 0 0 xt) (wq_zreturn 0 0 rt))))
def kh_O_isMadeIn_17 (rt : Option wq_V → wq_W → Prop) (xt : Nat → wq_W → Prop) (K : Nat → wq_T) : wq_T := (wq_iload 5 (wq_aload 0 (wq_get 4 6 (wq_iload 1 (wq_iald (wq_call ks_I_bitCount 1 0 0 0 0 (wq_xout 0 0 xt) (wq_f2 (fun x y => y < x) (kt_O_isMadeIn_98 rt xt K) (wq_iconst (nI 0) (wq_istore 6 (K 34))))))))))
def kt_O_isMadeIn_92 (rt : Option wq_V → wq_W → Prop) (xt : Nat → wq_W → Prop) (K : Nat → wq_T) : wq_T := (wq_iinc 5 (nI 1) (K 17))
def kt_O_isMadeIn_86 (rt : Option wq_V → wq_W → Prop) (xt : Nat → wq_W → Prop) (K : Nat → wq_T) : wq_T := (wq_iinc 6 (nI 1) (K 34))
def kh_O_isMadeIn_34 (rt : Option wq_V → wq_W → Prop) (xt : Nat → wq_W → Prop) (K : Nat → wq_T) : wq_T := (wq_iload 6 (wq_iconst (nI 16) (wq_f2 (fun x y => y ≤ x) (kt_O_isMadeIn_92 rt xt K) (wq_iload 3 (wq_iload 6 (wq_call ks_O_has 2 0 0 0 0 (wq_xout 0 0 xt) (wq_f1 (fun x => x = 0) (kt_O_isMadeIn_86 rt xt K) (wq_aload 0 (wq_get 4 6 (wq_iload 6 (wq_iald (wq_call ks_I_bitCount 1 0 0 0 0 (wq_xout 0 0 xt) (wq_iload 5 (wq_f2 (fun x y => x = y) (wq_aload 0 (wq_iload 6 (wq_iload 2 (wq_iload 4 (wq_call (wq_rv 4 ks_O_meetsRule) 4 0 0 0 0 (wq_xout 0 0 xt) (wq_f1 (fun x => x = 0) (kt_O_isMadeIn_86 rt xt K) (wq_iload 4 (wq_iconst (nI 1) (wq_iload 6 (wq_i2 (fun x y => x <<< (y &&& 31)) (wq_i2 (fun x y => x ||| y) (wq_istore 4 (kt_O_isMadeIn_86 rt xt K))))))))))))) (kt_O_isMadeIn_86 rt xt K)))))))))))))))
def kt_O_isMadeIn_0 (rt : Option wq_V → wq_W → Prop) (xt : Nat → wq_W → Prop) (K : Nat → wq_T) : wq_T := (wq_aload 0 (wq_get 4 6 (wq_iload 1 (wq_iald (wq_iconst (nI 1) (wq_iload 1 (wq_i2 (fun x y => x <<< (y &&& 31)) (wq_i2 (fun x y => x ||| y) (wq_istore 3 (wq_iconst (nI 0) (wq_istore 4 (wq_iconst (nI 0) (wq_istore 5 (K 17))))))))))))))
def ku_O_isMadeIn (rt : Option wq_V → wq_W → Prop) (xt : Nat → wq_W → Prop) : Nat → Nat → wq_T
  | 0, _ => fun _ _ _ _ _ => False
  | n + 1, pc => cond (Nat.beq pc 17) (kh_O_isMadeIn_17 rt xt (ku_O_isMadeIn rt xt n)) (cond (Nat.beq pc 34) (kh_O_isMadeIn_34 rt xt (ku_O_isMadeIn rt xt n)) (fun _ _ _ _ _ => False))
def ks_O_isMadeIn : wq_S := wq_sp 7 (fun rt xt => kt_O_isMadeIn_0 rt xt (ku_O_isMadeIn rt xt 80))
set_option maxRecDepth 100000 in
set_option maxHeartbeats 4000000 in
theorem kv_O_isMadeIn {l : Launch} (hl : l.stackTraces = false) : wq_Vld l kz_cl ky_O_isMadeIn kw_T ({ frames := 5, cells := 0, slots := 0, locals := 117 }) wq_G0 ks_O_isMadeIn 0 0 := by
  refine wq_method (cc := kc_O_isMadeIn) (maxL := 7) (ret := (some .boolean)) (by decide) kw_661 (fun _ _ => rfl) wq_sp_sz ?_
  intro p e s m args below meth c cs D ad as w rt xt hF hnt hsp
  obtain ⟨h0, hr, hts, hown, hlk, hnm, hml, hK, hZ, hN, hA⟩ := hF
  have hown : s.vm.findClass "BorderDesk$Origins" = some m.cls := hown
  obtain ⟨A, hAe⟩ : ∃ A, A = wq_A ad w s.heap.size := ⟨_, rfl⟩
  rw [← hAe] at hZ hA ⊢
  have hall : ∀ K : Nat → wq_T, (∀ pc, pc ∈ [17, 34] → wq_Snd p l e ({ frames := 5, cells := 0, slots := 0, locals := 117 } : Room) s m args below meth c 7 cs D kz_cl A (wq_G0 ad w) (wq_Q cs D kz_cl A (wq_G0 ad w) rt xt below s 0 0) pc (K pc)) → (∀ pc, pc ∈ [17, 34] → wq_Snd p l e ({ frames := 5, cells := 0, slots := 0, locals := 117 } : Room) s m args below meth c 7 cs D kz_cl A (wq_G0 ad w) (wq_Q cs D kz_cl A (wq_G0 ad w) rt xt below s 0 0) pc (cond (Nat.beq pc 17) (kh_O_isMadeIn_17 rt xt K) (cond (Nat.beq pc 34) (kh_O_isMadeIn_34 rt xt K) (fun _ _ _ _ _ => False)))) ∧ wq_Snd p l e ({ frames := 5, cells := 0, slots := 0, locals := 117 } : Room) s m args below meth c 7 cs D kz_cl A (wq_G0 ad w) (wq_Q cs D kz_cl A (wq_G0 ad w) rt xt below s 0 0) 0 (kt_O_isMadeIn_0 rt xt K) := by
    intro K hKc
    have hb_98 : wq_Snd p l e ({ frames := 5, cells := 0, slots := 0, locals := 117 } : Room) s m args below meth c 7 cs D kz_cl A (wq_G0 ad w) (wq_Q cs D kz_cl A (wq_G0 ad w) rt xt below s 0 0) 98 (kt_O_isMadeIn_98 rt xt K) := by
      refine wq_iload_ok h0 kd_O_isMadeIn_98 ?_
      refine wq_iload_n_ok h0 kd_O_isMadeIn_100 rfl ?_
      refine wq_call_ok hA (wq_runS ⟨h0.1, h0.2, hml, hown, hts⟩ (kv_O_has hl) ⟨(wq_cB hts kw_G kw_632 kw_5 kw_630 ⟨by decide +kernel, by decide +kernel, by decide +kernel⟩ rfl rfl ⟨Nat.le_of_ble_eq_true rfl, Nat.le_of_ble_eq_true rfl⟩), hts _ kw_631⟩ hK hZ hN hA kd_O_isMadeIn_101) (wq_xout_ok hnt hlk) ?_
      exact wq_zreturn_ok h0 hr hlk kd_O_isMadeIn_104
    have hb_17 : wq_Snd p l e ({ frames := 5, cells := 0, slots := 0, locals := 117 } : Room) s m args below meth c 7 cs D kz_cl A (wq_G0 ad w) (wq_Q cs D kz_cl A (wq_G0 ad w) rt xt below s 0 0) 17 (kh_O_isMadeIn_17 rt xt K) := by
      refine wq_iload_ok h0 kd_O_isMadeIn_17 ?_
      refine wq_aload_n_ok h0 kd_O_isMadeIn_19 rfl ?_
      refine wq_get_ok (wq_getOK h0 hts ki_O hown hK (ci := 4) rfl 6 (Nat.le_of_ble_eq_true rfl) kw_172 rfl) kd_O_isMadeIn_20 ?_
      refine wq_iload_n_ok h0 kd_O_isMadeIn_23 rfl ?_
      refine wq_iald_ok h0 hK kd_O_isMadeIn_24 ?_
      refine wq_call_ok hA (wq_runS ⟨h0.1, h0.2, hml, hown, hts⟩ (kv_I_bitCount hl) ⟨(wq_cB hts kw_G kw_664 kw_17 kw_662 ⟨by decide +kernel, by decide +kernel, by decide +kernel⟩ rfl rfl ⟨Nat.le_of_ble_eq_true rfl, Nat.le_of_ble_eq_true rfl⟩), hts _ kw_663⟩ hK hZ hN hA kd_O_isMadeIn_25) (wq_xout_ok hnt hlk) ?_
      refine wq_icmp_gt_ok (tgt := 98) h0 kd_O_isMadeIn_28 (by decide) ?_ ?_
      · exact hb_98
      refine wq_iconst_ok h0 kd_O_isMadeIn_31 (by decide +kernel) ?_
      refine wq_istore_ok h0 kd_O_isMadeIn_32 (Nat.le_of_ble_eq_true rfl) ?_
      exact hKc 34 (by decide)
    have hb_92 : wq_Snd p l e ({ frames := 5, cells := 0, slots := 0, locals := 117 } : Room) s m args below meth c 7 cs D kz_cl A (wq_G0 ad w) (wq_Q cs D kz_cl A (wq_G0 ad w) rt xt below s 0 0) 92 (kt_O_isMadeIn_92 rt xt K) := by
      refine wq_iinc_ok h0 kd_O_isMadeIn_92 (by decide +kernel) (Nat.le_of_ble_eq_true rfl) ?_
      refine wq_goto_ok (tgt := 17) h0 kd_O_isMadeIn_95 (by decide) ?_
      exact hKc 17 (by decide)
    have hb_86 : wq_Snd p l e ({ frames := 5, cells := 0, slots := 0, locals := 117 } : Room) s m args below meth c 7 cs D kz_cl A (wq_G0 ad w) (wq_Q cs D kz_cl A (wq_G0 ad w) rt xt below s 0 0) 86 (kt_O_isMadeIn_86 rt xt K) := by
      refine wq_iinc_ok h0 kd_O_isMadeIn_86 (by decide +kernel) (Nat.le_of_ble_eq_true rfl) ?_
      refine wq_goto_ok (tgt := 34) h0 kd_O_isMadeIn_89 (by decide) ?_
      exact hKc 34 (by decide)
    have hb_34 : wq_Snd p l e ({ frames := 5, cells := 0, slots := 0, locals := 117 } : Room) s m args below meth c 7 cs D kz_cl A (wq_G0 ad w) (wq_Q cs D kz_cl A (wq_G0 ad w) rt xt below s 0 0) 34 (kh_O_isMadeIn_34 rt xt K) := by
      refine wq_iload_ok h0 kd_O_isMadeIn_34 ?_
      refine wq_bipush_ok h0 kd_O_isMadeIn_36 (by decide +kernel) ?_
      refine wq_icmp_ge_ok (tgt := 92) h0 kd_O_isMadeIn_38 (by decide) ?_ ?_
      · exact hb_92
      refine wq_iload_n_ok h0 kd_O_isMadeIn_41 rfl ?_
      refine wq_iload_ok h0 kd_O_isMadeIn_42 ?_
      refine wq_call_ok hA (wq_runS ⟨h0.1, h0.2, hml, hown, hts⟩ (kv_O_has hl) ⟨(wq_cB hts kw_G kw_632 kw_5 kw_630 ⟨by decide +kernel, by decide +kernel, by decide +kernel⟩ rfl rfl ⟨Nat.le_of_ble_eq_true rfl, Nat.le_of_ble_eq_true rfl⟩), hts _ kw_631⟩ hK hZ hN hA kd_O_isMadeIn_44) (wq_xout_ok hnt hlk) ?_
      refine wq_if_eq_ok (tgt := 86) h0 kd_O_isMadeIn_47 (by decide) ?_ ?_
      · exact hb_86
      refine wq_aload_n_ok h0 kd_O_isMadeIn_50 rfl ?_
      refine wq_get_ok (wq_getOK h0 hts ki_O hown hK (ci := 4) rfl 6 (Nat.le_of_ble_eq_true rfl) kw_172 rfl) kd_O_isMadeIn_51 ?_
      refine wq_iload_ok h0 kd_O_isMadeIn_54 ?_
      refine wq_iald_ok h0 hK kd_O_isMadeIn_56 ?_
      refine wq_call_ok hA (wq_runS ⟨h0.1, h0.2, hml, hown, hts⟩ (kv_I_bitCount hl) ⟨(wq_cB hts kw_G kw_664 kw_17 kw_662 ⟨by decide +kernel, by decide +kernel, by decide +kernel⟩ rfl rfl ⟨Nat.le_of_ble_eq_true rfl, Nat.le_of_ble_eq_true rfl⟩), hts _ kw_663⟩ hK hZ hN hA kd_O_isMadeIn_57) (wq_xout_ok hnt hlk) ?_
      refine wq_iload_ok h0 kd_O_isMadeIn_60 ?_
      refine wq_icmp_ne_ok (tgt := 86) h0 kd_O_isMadeIn_62 (by decide) ?_ ?_
      · exact hb_86
      refine wq_aload_n_ok h0 kd_O_isMadeIn_65 rfl ?_
      refine wq_iload_ok h0 kd_O_isMadeIn_66 ?_
      refine wq_iload_n_ok h0 kd_O_isMadeIn_68 rfl ?_
      refine wq_iload_ok h0 kd_O_isMadeIn_69 ?_
      refine wq_call_ok hA (wq_runV (ci := 4) ⟨h0.1, h0.2, hml, hown, hts⟩ (kv_O_meetsRule hl) ⟨(wq_cB hts kw_G kw_671 kw_5 kw_668 ⟨by decide +kernel, by decide +kernel, by decide +kernel⟩ rfl rfl ⟨Nat.le_of_ble_eq_true rfl, Nat.le_of_ble_eq_true rfl⟩), hts _ kw_670, hts _ kw_s8⟩ rfl rfl hK hZ hN hA kd_O_isMadeIn_71) (wq_xout_ok hnt hlk) ?_
      refine wq_if_eq_ok (tgt := 86) h0 kd_O_isMadeIn_74 (by decide) ?_ ?_
      · exact hb_86
      refine wq_iload_ok h0 kd_O_isMadeIn_77 ?_
      refine wq_iconst_ok h0 kd_O_isMadeIn_79 (by decide +kernel) ?_
      refine wq_iload_ok h0 kd_O_isMadeIn_80 ?_
      refine wq_ishl_ok h0 kd_O_isMadeIn_82 ?_
      refine wq_ior_ok h0 kd_O_isMadeIn_83 ?_
      refine wq_istore_ok h0 kd_O_isMadeIn_84 (Nat.le_of_ble_eq_true rfl) ?_
      exact hb_86
    have hb_0 : wq_Snd p l e ({ frames := 5, cells := 0, slots := 0, locals := 117 } : Room) s m args below meth c 7 cs D kz_cl A (wq_G0 ad w) (wq_Q cs D kz_cl A (wq_G0 ad w) rt xt below s 0 0) 0 (kt_O_isMadeIn_0 rt xt K) := by
      refine wq_aload_n_ok h0 kd_O_isMadeIn_0 rfl ?_
      refine wq_get_ok (wq_getOK h0 hts ki_O hown hK (ci := 4) rfl 6 (Nat.le_of_ble_eq_true rfl) kw_172 rfl) kd_O_isMadeIn_1 ?_
      refine wq_iload_n_ok h0 kd_O_isMadeIn_4 rfl ?_
      refine wq_iald_ok h0 hK kd_O_isMadeIn_5 ?_
      refine wq_iconst_ok h0 kd_O_isMadeIn_6 (by decide +kernel) ?_
      refine wq_iload_n_ok h0 kd_O_isMadeIn_7 rfl ?_
      refine wq_ishl_ok h0 kd_O_isMadeIn_8 ?_
      refine wq_ior_ok h0 kd_O_isMadeIn_9 ?_
      refine wq_istore_n_ok h0 kd_O_isMadeIn_10 rfl (Nat.le_of_ble_eq_true rfl) ?_
      refine wq_iconst_ok h0 kd_O_isMadeIn_11 (by decide +kernel) ?_
      refine wq_istore_ok h0 kd_O_isMadeIn_12 (Nat.le_of_ble_eq_true rfl) ?_
      refine wq_iconst_ok h0 kd_O_isMadeIn_14 (by decide +kernel) ?_
      refine wq_istore_ok h0 kd_O_isMadeIn_15 (Nat.le_of_ble_eq_true rfl) ?_
      exact hKc 17 (by decide)
    refine ⟨?_, hb_0⟩
    exact List.forall_mem_cons.mpr ⟨hb_17, List.forall_mem_cons.mpr ⟨hb_34, fun _ h => absurd h List.not_mem_nil⟩⟩
  have hun : ∀ (n pc : Nat), pc ∈ [17, 34] → wq_Snd p l e ({ frames := 5, cells := 0, slots := 0, locals := 117 } : Room) s m args below meth c 7 cs D kz_cl A (wq_G0 ad w) (wq_Q cs D kz_cl A (wq_G0 ad w) rt xt below s 0 0) pc (ku_O_isMadeIn rt xt n pc) := by
    intro n
    induction n with
    | zero => intro pc _ L S w9 n1 n2 h; exact h.elim
    | succ n ih => intro pc hpc; exact (hall (ku_O_isMadeIn rt xt n) ih).1 pc hpc
  exact (hall (ku_O_isMadeIn rt xt 80) (hun 80)).2 _ _ _ _ _ (wq_sp_t hsp)
-- BorderDesk$Declarations.add(II)I
def kt_D_add_0 (rt : Option wq_V → wq_W → Prop) (xt : Nat → wq_W → Prop) : wq_T := (wq_aload 0 (wq_get 5 0 (wq_istore 3 (wq_aload 0 (wq_get 5 1 (wq_iload 3 (wq_iload 1 (wq_iast (wq_aload 0 (wq_get 5 2 (wq_iload 3 (wq_iload 2 (wq_iast (wq_aload 0 (wq_dup (wq_get 5 0 (wq_iconst (nI 1) (wq_i2 (fun x y => x + y) (wq_put 5 0 wq_isI (wq_iload 3 (wq_ireturn 0 0 rt)))))))))))))))))))))
def ks_D_add : wq_S := wq_sp 4 (fun rt xt => kt_D_add_0 rt xt)
set_option maxRecDepth 100000 in
set_option maxHeartbeats 4000000 in
theorem kv_D_add {l : Launch} (hl : l.stackTraces = false) : wq_Vld l kz_cl ky_D_add kw_T ({ frames := 0, cells := 0, slots := 0, locals := 0 }) wq_G0 ks_D_add 0 0 := by
  refine wq_method (cc := kc_D_add) (maxL := 4) (ret := (some .int)) (by decide) kw_700 (fun _ _ => rfl) wq_sp_sz ?_
  intro p e s m args below meth c cs D ad as w rt xt hF hnt hsp
  obtain ⟨h0, hr, hts, hown, hlk, hnm, hml, hK, hZ, hN, hA⟩ := hF
  have hown : s.vm.findClass "BorderDesk$Declarations" = some m.cls := hown
  obtain ⟨A, hAe⟩ : ∃ A, A = wq_A ad w s.heap.size := ⟨_, rfl⟩
  rw [← hAe] at hZ hA ⊢
  have hb_0 : wq_Snd p l e ({ frames := 0, cells := 0, slots := 0, locals := 0 } : Room) s m args below meth c 4 cs D kz_cl A (wq_G0 ad w) (wq_Q cs D kz_cl A (wq_G0 ad w) rt xt below s 0 0) 0 (kt_D_add_0 rt xt) := by
    refine wq_aload_n_ok h0 kd_D_add_0 rfl ?_
    refine wq_get_ok (wq_getOK h0 hts ki_D hown hK (ci := 5) rfl 0 (Nat.le_of_ble_eq_true rfl) kw_195 rfl) kd_D_add_1 ?_
    refine wq_istore_n_ok h0 kd_D_add_4 rfl (Nat.le_of_ble_eq_true rfl) ?_
    refine wq_aload_n_ok h0 kd_D_add_5 rfl ?_
    refine wq_get_ok (wq_getOK h0 hts ki_D hown hK (ci := 5) rfl 1 (Nat.le_of_ble_eq_true rfl) kw_197 rfl) kd_D_add_6 ?_
    refine wq_iload_n_ok h0 kd_D_add_9 rfl ?_
    refine wq_iload_n_ok h0 kd_D_add_10 rfl ?_
    refine wq_iast_ok h0 hK kd_D_add_11 ?_
    refine wq_aload_n_ok h0 kd_D_add_12 rfl ?_
    refine wq_get_ok (wq_getOK h0 hts ki_D hown hK (ci := 5) rfl 2 (Nat.le_of_ble_eq_true rfl) kw_199 rfl) kd_D_add_13 ?_
    refine wq_iload_n_ok h0 kd_D_add_16 rfl ?_
    refine wq_iload_n_ok h0 kd_D_add_17 rfl ?_
    refine wq_iast_ok h0 hK kd_D_add_18 ?_
    refine wq_aload_n_ok h0 kd_D_add_19 rfl ?_
    refine wq_dup_ok h0 kd_D_add_20 ?_
    refine wq_get_ok (wq_getOK h0 hts ki_D hown hK (ci := 5) rfl 0 (Nat.le_of_ble_eq_true rfl) kw_195 rfl) kd_D_add_21 ?_
    refine wq_iconst_ok h0 kd_D_add_24 (by decide +kernel) ?_
    refine wq_iadd_ok h0 kd_D_add_25 ?_
    refine wq_put_ok (wq_putOK h0 hts ki_D ka_D kb_D kn_D hown hK (ci := 5) rfl 0 (Nat.le_of_ble_eq_true rfl) kw_195 rfl (Or.inl rfl) wq_okI) kd_D_add_26 ?_
    refine wq_iload_n_ok h0 kd_D_add_29 rfl ?_
    exact wq_ireturn_ok h0 hr hlk kd_D_add_30
  exact hb_0 _ _ _ _ _ (wq_sp_t hsp)
-- BorderDesk$Declarations.rowOf(II)I
def kt_D_rowOf_0 (rt : Option wq_V → wq_W → Prop) (xt : Nat → wq_W → Prop) : wq_T := (wq_iload 0 (wq_iconst (nI 4) (wq_i2 (fun x y => x * y) (wq_iload 1 (wq_i2 (fun x y => x + y) (wq_ireturn 0 0 rt))))))
def ks_D_rowOf : wq_S := wq_sp 2 (fun rt xt => kt_D_rowOf_0 rt xt)
set_option maxRecDepth 100000 in
set_option maxHeartbeats 4000000 in
theorem kv_D_rowOf {l : Launch} (hl : l.stackTraces = false) : wq_Vld l kz_cl ky_D_rowOf kw_T ({ frames := 0, cells := 0, slots := 0, locals := 0 }) wq_G0 ks_D_rowOf 0 0 := by
  refine wq_method (cc := kc_D_rowOf) (maxL := 2) (ret := (some .int)) (by decide) kw_724 (fun _ _ => rfl) wq_sp_sz ?_
  intro p e s m args below meth c cs D ad as w rt xt hF hnt hsp
  obtain ⟨h0, hr, hts, hown, hlk, hnm, hml, hK, hZ, hN, hA⟩ := hF
  have hown : s.vm.findClass "BorderDesk$Declarations" = some m.cls := hown
  obtain ⟨A, hAe⟩ : ∃ A, A = wq_A ad w s.heap.size := ⟨_, rfl⟩
  rw [← hAe] at hZ hA ⊢
  have hb_0 : wq_Snd p l e ({ frames := 0, cells := 0, slots := 0, locals := 0 } : Room) s m args below meth c 2 cs D kz_cl A (wq_G0 ad w) (wq_Q cs D kz_cl A (wq_G0 ad w) rt xt below s 0 0) 0 (kt_D_rowOf_0 rt xt) := by
    refine wq_iload_n_ok h0 kd_D_rowOf_0 rfl ?_
    refine wq_iconst_ok h0 kd_D_rowOf_1 (by decide +kernel) ?_
    refine wq_imul_ok h0 kd_D_rowOf_2 ?_
    refine wq_iload_n_ok h0 kd_D_rowOf_3 rfl ?_
    refine wq_iadd_ok h0 kd_D_rowOf_4 ?_
    exact wq_ireturn_ok h0 hr hlk kd_D_rowOf_5
  exact hb_0 _ _ _ _ _ (wq_sp_t hsp)
-- BorderDesk$Declarations.isInBounds(II)Z
def kt_D_isInBounds_28 (rt : Option wq_V → wq_W → Prop) (xt : Nat → wq_W → Prop) : wq_T := (wq_iload 1 (wq_iconst (nI 1) (wq_iconst (nI 1000) (wq_call ks_B_isWithin 3 0 0 0 0 (wq_xout 0 0 xt) (wq_zreturn 0 0 rt)))))
def kt_D_isInBounds_37 (rt : Option wq_V → wq_W → Prop) (xt : Nat → wq_W → Prop) : wq_T := (wq_iload 1 (wq_iconst (nI 0) (wq_iconst (1000000) (wq_call ks_B_isWithin 3 0 0 0 0 (wq_xout 0 0 xt) (wq_zreturn 0 0 rt)))))
def kt_D_isInBounds_45 (rt : Option wq_V → wq_W → Prop) (xt : Nat → wq_W → Prop) : wq_T := (wq_iload 1 (wq_iconst (nI 0) (wq_iconst (100000000) (wq_call ks_B_isWithin 3 0 0 0 0 (wq_xout 0 0 xt) (wq_zreturn 0 0 rt)))))
def kt_D_isInBounds_53 (rt : Option wq_V → wq_W → Prop) (xt : Nat → wq_W → Prop) : wq_T := (wq_iconst (nI 0) (wq_zreturn 0 0 rt))
def kt_D_isInBounds_0 (rt : Option wq_V → wq_W → Prop) (xt : Nat → wq_W → Prop) : wq_T := (wq_iload 0 (wq_sw [((nI 0), (kt_D_isInBounds_28 rt xt)), ((nI 1), (kt_D_isInBounds_37 rt xt)), ((nI 2), (kt_D_isInBounds_45 rt xt))] (kt_D_isInBounds_53 rt xt)))
def ks_D_isInBounds : wq_S := wq_sp 2 (fun rt xt => kt_D_isInBounds_0 rt xt)
set_option maxRecDepth 100000 in
set_option maxHeartbeats 4000000 in
theorem kv_D_isInBounds {l : Launch} (hl : l.stackTraces = false) : wq_Vld l kz_cl ky_D_isInBounds kw_T ({ frames := 1, cells := 0, slots := 0, locals := 22 }) wq_G0 ks_D_isInBounds 0 0 := by
  refine wq_method (cc := kc_D_isInBounds) (maxL := 2) (ret := (some .boolean)) (by decide) kw_714 (fun _ _ => rfl) wq_sp_sz ?_
  intro p e s m args below meth c cs D ad as w rt xt hF hnt hsp
  obtain ⟨h0, hr, hts, hown, hlk, hnm, hml, hK, hZ, hN, hA⟩ := hF
  have hown : s.vm.findClass "BorderDesk$Declarations" = some m.cls := hown
  obtain ⟨A, hAe⟩ : ∃ A, A = wq_A ad w s.heap.size := ⟨_, rfl⟩
  rw [← hAe] at hZ hA ⊢
  have hb_28 : wq_Snd p l e ({ frames := 1, cells := 0, slots := 0, locals := 22 } : Room) s m args below meth c 2 cs D kz_cl A (wq_G0 ad w) (wq_Q cs D kz_cl A (wq_G0 ad w) rt xt below s 0 0) 28 (kt_D_isInBounds_28 rt xt) := by
    refine wq_iload_n_ok h0 kd_D_isInBounds_28 rfl ?_
    refine wq_iconst_ok h0 kd_D_isInBounds_29 (by decide +kernel) ?_
    refine wq_sipush_ok h0 kd_D_isInBounds_30 (by decide +kernel) ?_
    refine wq_call_ok hA (wq_runSN ⟨h0.1, h0.2, hml, hown, hts⟩ (kv_B_isWithin hl) ⟨(wq_cN hts kw_G kw_517 kw_1 (va_Nw.use rfl (hN.2.2.1 _ (List.mem_of_getElem? (i := 5) rfl))) ⟨by decide +kernel, by decide +kernel, by decide +kernel⟩ rfl rfl ⟨Nat.le_of_ble_eq_true rfl, Nat.le_of_ble_eq_true rfl⟩), hts _ kw_516⟩ hK hZ hN hA kd_D_isInBounds_33) (wq_xout_ok hnt hlk) ?_
    exact wq_zreturn_ok h0 hr hlk kd_D_isInBounds_36
  have hb_37 : wq_Snd p l e ({ frames := 1, cells := 0, slots := 0, locals := 22 } : Room) s m args below meth c 2 cs D kz_cl A (wq_G0 ad w) (wq_Q cs D kz_cl A (wq_G0 ad w) rt xt below s 0 0) 37 (kt_D_isInBounds_37 rt xt) := by
    refine wq_iload_n_ok h0 kd_D_isInBounds_37 rfl ?_
    refine wq_iconst_ok h0 kd_D_isInBounds_38 (by decide +kernel) ?_
    refine wq_ldc_ok (v := 1000000) h0 hown (hts _ kw_716) kd_D_isInBounds_39 ?_
    refine wq_call_ok hA (wq_runSN ⟨h0.1, h0.2, hml, hown, hts⟩ (kv_B_isWithin hl) ⟨(wq_cN hts kw_G kw_517 kw_1 (va_Nw.use rfl (hN.2.2.1 _ (List.mem_of_getElem? (i := 5) rfl))) ⟨by decide +kernel, by decide +kernel, by decide +kernel⟩ rfl rfl ⟨Nat.le_of_ble_eq_true rfl, Nat.le_of_ble_eq_true rfl⟩), hts _ kw_516⟩ hK hZ hN hA kd_D_isInBounds_41) (wq_xout_ok hnt hlk) ?_
    exact wq_zreturn_ok h0 hr hlk kd_D_isInBounds_44
  have hb_45 : wq_Snd p l e ({ frames := 1, cells := 0, slots := 0, locals := 22 } : Room) s m args below meth c 2 cs D kz_cl A (wq_G0 ad w) (wq_Q cs D kz_cl A (wq_G0 ad w) rt xt below s 0 0) 45 (kt_D_isInBounds_45 rt xt) := by
    refine wq_iload_n_ok h0 kd_D_isInBounds_45 rfl ?_
    refine wq_iconst_ok h0 kd_D_isInBounds_46 (by decide +kernel) ?_
    refine wq_ldc_ok (v := 100000000) h0 hown (hts _ kw_717) kd_D_isInBounds_47 ?_
    refine wq_call_ok hA (wq_runSN ⟨h0.1, h0.2, hml, hown, hts⟩ (kv_B_isWithin hl) ⟨(wq_cN hts kw_G kw_517 kw_1 (va_Nw.use rfl (hN.2.2.1 _ (List.mem_of_getElem? (i := 5) rfl))) ⟨by decide +kernel, by decide +kernel, by decide +kernel⟩ rfl rfl ⟨Nat.le_of_ble_eq_true rfl, Nat.le_of_ble_eq_true rfl⟩), hts _ kw_516⟩ hK hZ hN hA kd_D_isInBounds_49) (wq_xout_ok hnt hlk) ?_
    exact wq_zreturn_ok h0 hr hlk kd_D_isInBounds_52
  have hb_53 : wq_Snd p l e ({ frames := 1, cells := 0, slots := 0, locals := 22 } : Room) s m args below meth c 2 cs D kz_cl A (wq_G0 ad w) (wq_Q cs D kz_cl A (wq_G0 ad w) rt xt below s 0 0) 53 (kt_D_isInBounds_53 rt xt) := by
    refine wq_iconst_ok h0 kd_D_isInBounds_53 (by decide +kernel) ?_
    exact wq_zreturn_ok h0 hr hlk kd_D_isInBounds_54
  have hb_0 : wq_Snd p l e ({ frames := 1, cells := 0, slots := 0, locals := 22 } : Room) s m args below meth c 2 cs D kz_cl A (wq_G0 ad w) (wq_Q cs D kz_cl A (wq_G0 ad w) rt xt below s 0 0) 0 (kt_D_isInBounds_0 rt xt) := by
    refine wq_iload_n_ok h0 kd_D_isInBounds_0 rfl ?_
    refine wq_sw_ok ?_ ?_
    · exact List.forall_mem_cons.mpr ⟨⟨28, (by exact hb_28), fun H locs n1 n2 ls rest hw => lv_tableIn (tgt := 28) (off := 27) h0.1 h0.2 kd_D_isInBounds_1 (show ¬ (nI 0).toInt < 0 by decide +kernel) (show ¬ 2 < (nI 0).toInt by decide +kernel) (show (#[27, 36, 44] : Array Int)[((nI 0).toInt - 0).toNat]? = some 27 by decide +kernel) (by decide) hw⟩, List.forall_mem_cons.mpr ⟨⟨37, (by exact hb_37), fun H locs n1 n2 ls rest hw => lv_tableIn (tgt := 37) (off := 36) h0.1 h0.2 kd_D_isInBounds_1 (show ¬ (nI 1).toInt < 0 by decide +kernel) (show ¬ 2 < (nI 1).toInt by decide +kernel) (show (#[27, 36, 44] : Array Int)[((nI 1).toInt - 0).toNat]? = some 36 by decide +kernel) (by decide) hw⟩, List.forall_mem_cons.mpr ⟨⟨45, (by exact hb_45), fun H locs n1 n2 ls rest hw => lv_tableIn (tgt := 45) (off := 44) h0.1 h0.2 kd_D_isInBounds_1 (show ¬ (nI 2).toInt < 0 by decide +kernel) (show ¬ 2 < (nI 2).toInt by decide +kernel) (show (#[27, 36, 44] : Array Int)[((nI 2).toInt - 0).toNat]? = some 44 by decide +kernel) (by decide) hw⟩, fun _ h => absurd h List.not_mem_nil⟩⟩⟩
    · exact ⟨53, (by exact hb_53), fun H locs n1 n2 ls rest x hq hw => lv_tableOut (tgt := 53) h0.1 h0.2 kd_D_isInBounds_1 (wq_tabO 0 2 (by decide) (fun k h1 h2 => by rcases (show k = 0 ∨ k = 1 ∨ k = 2 by omega) with rfl | rfl | rfl <;> first | exact hq _ List.mem_cons_self | exact hq _ (List.mem_cons_of_mem _ List.mem_cons_self) | exact hq _ (List.mem_cons_of_mem _ (List.mem_cons_of_mem _ List.mem_cons_self)))) (by decide) hw⟩
  exact hb_0 _ _ _ _ _ (wq_sp_t hsp)
-- BorderDesk$Lots.unitsLeft(IZ)I
def kt_L_unitsLeft_60 (rt : Option wq_V → wq_W → Prop) (xt : Nat → wq_W → Prop) (K : Nat → wq_T) : wq_T := (wq_iload 3 (wq_ireturn 0 0 rt))
def kt_L_unitsLeft_54 (rt : Option wq_V → wq_W → Prop) (xt : Nat → wq_W → Prop) (K : Nat → wq_T) : wq_T := (wq_iinc 4 (nI 1) (K 5))
def kh_L_unitsLeft_5 (rt : Option wq_V → wq_W → Prop) (xt : Nat → wq_W → Prop) (K : Nat → wq_T) : wq_T := (wq_iload 4 (wq_aload 0 (wq_get 7 0 (wq_f2 (fun x y => y ≤ x) (kt_L_unitsLeft_60 rt xt K) (wq_aload 0 (wq_get 7 1 (wq_iload 4 (wq_iald (wq_iload 1 (wq_f2 (fun x y => x = y) (wq_aload 0 (wq_get 7 5 (wq_iload 4 (wq_zald (wq_iload 2 (wq_f2 (fun x y => x = y) (wq_iload 3 (wq_aload 0 (wq_get 7 2 (wq_iload 4 (wq_iald (wq_aload 0 (wq_get 7 3 (wq_iload 4 (wq_iald (wq_i2 (fun x y => x - y) (wq_i2 (fun x y => x + y) (wq_istore 3 (kt_L_unitsLeft_54 rt xt K))))))))))))) (kt_L_unitsLeft_54 rt xt K))))))) (kt_L_unitsLeft_54 rt xt K)))))))))))
def kt_L_unitsLeft_0 (rt : Option wq_V → wq_W → Prop) (xt : Nat → wq_W → Prop) (K : Nat → wq_T) : wq_T := (wq_iconst (nI 0) (wq_istore 3 (wq_iconst (nI 0) (wq_istore 4 (K 5)))))
def ku_L_unitsLeft (rt : Option wq_V → wq_W → Prop) (xt : Nat → wq_W → Prop) : Nat → Nat → wq_T
  | 0, _ => fun _ _ _ _ _ => False
  | n + 1, pc => cond (Nat.beq pc 5) (kh_L_unitsLeft_5 rt xt (ku_L_unitsLeft rt xt n)) (fun _ _ _ _ _ => False)
def ks_L_unitsLeft : wq_S := wq_sp 5 (fun rt xt => kt_L_unitsLeft_0 rt xt (ku_L_unitsLeft rt xt 40))
set_option maxRecDepth 100000 in
set_option maxHeartbeats 4000000 in
theorem kv_L_unitsLeft {l : Launch} (hl : l.stackTraces = false) : wq_Vld l kz_cl ky_L_unitsLeft kw_T ({ frames := 0, cells := 0, slots := 0, locals := 0 }) wq_G0 ks_L_unitsLeft 0 0 := by
  refine wq_method (cc := kc_L_unitsLeft) (maxL := 5) (ret := (some .int)) (by decide) kw_927 (fun _ _ => rfl) wq_sp_sz ?_
  intro p e s m args below meth c cs D ad as w rt xt hF hnt hsp
  obtain ⟨h0, hr, hts, hown, hlk, hnm, hml, hK, hZ, hN, hA⟩ := hF
  have hown : s.vm.findClass "BorderDesk$Lots" = some m.cls := hown
  obtain ⟨A, hAe⟩ : ∃ A, A = wq_A ad w s.heap.size := ⟨_, rfl⟩
  rw [← hAe] at hZ hA ⊢
  have hall : ∀ K : Nat → wq_T, (∀ pc, pc ∈ [5] → wq_Snd p l e ({ frames := 0, cells := 0, slots := 0, locals := 0 } : Room) s m args below meth c 5 cs D kz_cl A (wq_G0 ad w) (wq_Q cs D kz_cl A (wq_G0 ad w) rt xt below s 0 0) pc (K pc)) → (∀ pc, pc ∈ [5] → wq_Snd p l e ({ frames := 0, cells := 0, slots := 0, locals := 0 } : Room) s m args below meth c 5 cs D kz_cl A (wq_G0 ad w) (wq_Q cs D kz_cl A (wq_G0 ad w) rt xt below s 0 0) pc (cond (Nat.beq pc 5) (kh_L_unitsLeft_5 rt xt K) (fun _ _ _ _ _ => False))) ∧ wq_Snd p l e ({ frames := 0, cells := 0, slots := 0, locals := 0 } : Room) s m args below meth c 5 cs D kz_cl A (wq_G0 ad w) (wq_Q cs D kz_cl A (wq_G0 ad w) rt xt below s 0 0) 0 (kt_L_unitsLeft_0 rt xt K) := by
    intro K hKc
    have hb_60 : wq_Snd p l e ({ frames := 0, cells := 0, slots := 0, locals := 0 } : Room) s m args below meth c 5 cs D kz_cl A (wq_G0 ad w) (wq_Q cs D kz_cl A (wq_G0 ad w) rt xt below s 0 0) 60 (kt_L_unitsLeft_60 rt xt K) := by
      refine wq_iload_n_ok h0 kd_L_unitsLeft_60 rfl ?_
      exact wq_ireturn_ok h0 hr hlk kd_L_unitsLeft_61
    have hb_54 : wq_Snd p l e ({ frames := 0, cells := 0, slots := 0, locals := 0 } : Room) s m args below meth c 5 cs D kz_cl A (wq_G0 ad w) (wq_Q cs D kz_cl A (wq_G0 ad w) rt xt below s 0 0) 54 (kt_L_unitsLeft_54 rt xt K) := by
      refine wq_iinc_ok h0 kd_L_unitsLeft_54 (by decide +kernel) (Nat.le_of_ble_eq_true rfl) ?_
      refine wq_goto_ok (tgt := 5) h0 kd_L_unitsLeft_57 (by decide) ?_
      exact hKc 5 (by decide)
    have hb_5 : wq_Snd p l e ({ frames := 0, cells := 0, slots := 0, locals := 0 } : Room) s m args below meth c 5 cs D kz_cl A (wq_G0 ad w) (wq_Q cs D kz_cl A (wq_G0 ad w) rt xt below s 0 0) 5 (kh_L_unitsLeft_5 rt xt K) := by
      refine wq_iload_ok h0 kd_L_unitsLeft_5 ?_
      refine wq_aload_n_ok h0 kd_L_unitsLeft_7 rfl ?_
      refine wq_get_ok (wq_getOK h0 hts ki_L hown hK (ci := 7) rfl 0 (Nat.le_of_ble_eq_true rfl) kw_317 rfl) kd_L_unitsLeft_8 ?_
      refine wq_icmp_ge_ok (tgt := 60) h0 kd_L_unitsLeft_11 (by decide) ?_ ?_
      · exact hb_60
      refine wq_aload_n_ok h0 kd_L_unitsLeft_14 rfl ?_
      refine wq_get_ok (wq_getOK h0 hts ki_L hown hK (ci := 7) rfl 1 (Nat.le_of_ble_eq_true rfl) kw_319 rfl) kd_L_unitsLeft_15 ?_
      refine wq_iload_ok h0 kd_L_unitsLeft_18 ?_
      refine wq_iald_ok h0 hK kd_L_unitsLeft_20 ?_
      refine wq_iload_n_ok h0 kd_L_unitsLeft_21 rfl ?_
      refine wq_icmp_ne_ok (tgt := 54) h0 kd_L_unitsLeft_22 (by decide) ?_ ?_
      · exact hb_54
      refine wq_aload_n_ok h0 kd_L_unitsLeft_25 rfl ?_
      refine wq_get_ok (wq_getOK h0 hts ki_L hown hK (ci := 7) rfl 5 (Nat.le_of_ble_eq_true rfl) kw_327 rfl) kd_L_unitsLeft_26 ?_
      refine wq_iload_ok h0 kd_L_unitsLeft_29 ?_
      refine wq_zald_ok h0 hK kd_L_unitsLeft_31 ?_
      refine wq_iload_n_ok h0 kd_L_unitsLeft_32 rfl ?_
      refine wq_icmp_ne_ok (tgt := 54) h0 kd_L_unitsLeft_33 (by decide) ?_ ?_
      · exact hb_54
      refine wq_iload_n_ok h0 kd_L_unitsLeft_36 rfl ?_
      refine wq_aload_n_ok h0 kd_L_unitsLeft_37 rfl ?_
      refine wq_get_ok (wq_getOK h0 hts ki_L hown hK (ci := 7) rfl 2 (Nat.le_of_ble_eq_true rfl) kw_321 rfl) kd_L_unitsLeft_38 ?_
      refine wq_iload_ok h0 kd_L_unitsLeft_41 ?_
      refine wq_iald_ok h0 hK kd_L_unitsLeft_43 ?_
      refine wq_aload_n_ok h0 kd_L_unitsLeft_44 rfl ?_
      refine wq_get_ok (wq_getOK h0 hts ki_L hown hK (ci := 7) rfl 3 (Nat.le_of_ble_eq_true rfl) kw_323 rfl) kd_L_unitsLeft_45 ?_
      refine wq_iload_ok h0 kd_L_unitsLeft_48 ?_
      refine wq_iald_ok h0 hK kd_L_unitsLeft_50 ?_
      refine wq_isub_ok h0 kd_L_unitsLeft_51 ?_
      refine wq_iadd_ok h0 kd_L_unitsLeft_52 ?_
      refine wq_istore_n_ok h0 kd_L_unitsLeft_53 rfl (Nat.le_of_ble_eq_true rfl) ?_
      exact hb_54
    have hb_0 : wq_Snd p l e ({ frames := 0, cells := 0, slots := 0, locals := 0 } : Room) s m args below meth c 5 cs D kz_cl A (wq_G0 ad w) (wq_Q cs D kz_cl A (wq_G0 ad w) rt xt below s 0 0) 0 (kt_L_unitsLeft_0 rt xt K) := by
      refine wq_iconst_ok h0 kd_L_unitsLeft_0 (by decide +kernel) ?_
      refine wq_istore_n_ok h0 kd_L_unitsLeft_1 rfl (Nat.le_of_ble_eq_true rfl) ?_
      refine wq_iconst_ok h0 kd_L_unitsLeft_2 (by decide +kernel) ?_
      refine wq_istore_ok h0 kd_L_unitsLeft_3 (Nat.le_of_ble_eq_true rfl) ?_
      exact hKc 5 (by decide)
    refine ⟨?_, hb_0⟩
    exact List.forall_mem_cons.mpr ⟨hb_5, fun _ h => absurd h List.not_mem_nil⟩
  have hun : ∀ (n pc : Nat), pc ∈ [5] → wq_Snd p l e ({ frames := 0, cells := 0, slots := 0, locals := 0 } : Room) s m args below meth c 5 cs D kz_cl A (wq_G0 ad w) (wq_Q cs D kz_cl A (wq_G0 ad w) rt xt below s 0 0) pc (ku_L_unitsLeft rt xt n pc) := by
    intro n
    induction n with
    | zero => intro pc _ L S w9 n1 n2 h; exact h.elim
    | succ n ih => intro pc hpc; exact (hall (ku_L_unitsLeft rt xt n) ih).1 pc hpc
  exact (hall (ku_L_unitsLeft rt xt 40) (hun 40)).2 _ _ _ _ _ (wq_sp_t hsp)
-- BorderDesk$Lots.heldUnitsThatCame(IZ)I
def kt_L_heldUnitsThatCame_62 (rt : Option wq_V → wq_W → Prop) (xt : Nat → wq_W → Prop) (K : Nat → wq_T) : wq_T := (wq_iload 3 (wq_ireturn 0 0 rt))
def kt_L_heldUnitsThatCame_56 (rt : Option wq_V → wq_W → Prop) (xt : Nat → wq_W → Prop) (K : Nat → wq_T) : wq_T := (wq_iinc 4 (nI 1) (K 5))
def kh_L_heldUnitsThatCame_5 (rt : Option wq_V → wq_W → Prop) (xt : Nat → wq_W → Prop) (K : Nat → wq_T) : wq_T := (wq_iload 4 (wq_aload 0 (wq_get 7 0 (wq_f2 (fun x y => y ≤ x) (kt_L_heldUnitsThatCame_62 rt xt K) (wq_aload 0 (wq_get 7 1 (wq_iload 4 (wq_iald (wq_iload 1 (wq_f2 (fun x y => x = y) (wq_aload 0 (wq_get 7 5 (wq_iload 4 (wq_zald (wq_f1 (fun x => x = 0) (kt_L_heldUnitsThatCame_56 rt xt K) (wq_aload 0 (wq_get 7 6 (wq_iload 4 (wq_zald (wq_iload 2 (wq_f2 (fun x y => x = y) (wq_iload 3 (wq_aload 0 (wq_get 7 2 (wq_iload 4 (wq_iald (wq_i2 (fun x y => x + y) (wq_istore 3 (kt_L_heldUnitsThatCame_56 rt xt K)))))))) (kt_L_heldUnitsThatCame_56 rt xt K)))))))))))) (kt_L_heldUnitsThatCame_56 rt xt K)))))))))))
def kt_L_heldUnitsThatCame_0 (rt : Option wq_V → wq_W → Prop) (xt : Nat → wq_W → Prop) (K : Nat → wq_T) : wq_T := (wq_iconst (nI 0) (wq_istore 3 (wq_iconst (nI 0) (wq_istore 4 (K 5)))))
def ku_L_heldUnitsThatCame (rt : Option wq_V → wq_W → Prop) (xt : Nat → wq_W → Prop) : Nat → Nat → wq_T
  | 0, _ => fun _ _ _ _ _ => False
  | n + 1, pc => cond (Nat.beq pc 5) (kh_L_heldUnitsThatCame_5 rt xt (ku_L_heldUnitsThatCame rt xt n)) (fun _ _ _ _ _ => False)
def ks_L_heldUnitsThatCame : wq_S := wq_sp 5 (fun rt xt => kt_L_heldUnitsThatCame_0 rt xt (ku_L_heldUnitsThatCame rt xt 40))
set_option maxRecDepth 100000 in
set_option maxHeartbeats 4000000 in
theorem kv_L_heldUnitsThatCame {l : Launch} (hl : l.stackTraces = false) : wq_Vld l kz_cl ky_L_heldUnitsThatCame kw_T ({ frames := 0, cells := 0, slots := 0, locals := 0 }) wq_G0 ks_L_heldUnitsThatCame 0 0 := by
  refine wq_method (cc := kc_L_heldUnitsThatCame) (maxL := 5) (ret := (some .int)) (by decide) kw_968 (fun _ _ => rfl) wq_sp_sz ?_
  intro p e s m args below meth c cs D ad as w rt xt hF hnt hsp
  obtain ⟨h0, hr, hts, hown, hlk, hnm, hml, hK, hZ, hN, hA⟩ := hF
  have hown : s.vm.findClass "BorderDesk$Lots" = some m.cls := hown
  obtain ⟨A, hAe⟩ : ∃ A, A = wq_A ad w s.heap.size := ⟨_, rfl⟩
  rw [← hAe] at hZ hA ⊢
  have hall : ∀ K : Nat → wq_T, (∀ pc, pc ∈ [5] → wq_Snd p l e ({ frames := 0, cells := 0, slots := 0, locals := 0 } : Room) s m args below meth c 5 cs D kz_cl A (wq_G0 ad w) (wq_Q cs D kz_cl A (wq_G0 ad w) rt xt below s 0 0) pc (K pc)) → (∀ pc, pc ∈ [5] → wq_Snd p l e ({ frames := 0, cells := 0, slots := 0, locals := 0 } : Room) s m args below meth c 5 cs D kz_cl A (wq_G0 ad w) (wq_Q cs D kz_cl A (wq_G0 ad w) rt xt below s 0 0) pc (cond (Nat.beq pc 5) (kh_L_heldUnitsThatCame_5 rt xt K) (fun _ _ _ _ _ => False))) ∧ wq_Snd p l e ({ frames := 0, cells := 0, slots := 0, locals := 0 } : Room) s m args below meth c 5 cs D kz_cl A (wq_G0 ad w) (wq_Q cs D kz_cl A (wq_G0 ad w) rt xt below s 0 0) 0 (kt_L_heldUnitsThatCame_0 rt xt K) := by
    intro K hKc
    have hb_62 : wq_Snd p l e ({ frames := 0, cells := 0, slots := 0, locals := 0 } : Room) s m args below meth c 5 cs D kz_cl A (wq_G0 ad w) (wq_Q cs D kz_cl A (wq_G0 ad w) rt xt below s 0 0) 62 (kt_L_heldUnitsThatCame_62 rt xt K) := by
      refine wq_iload_n_ok h0 kd_L_heldUnitsThatCame_62 rfl ?_
      exact wq_ireturn_ok h0 hr hlk kd_L_heldUnitsThatCame_63
    have hb_56 : wq_Snd p l e ({ frames := 0, cells := 0, slots := 0, locals := 0 } : Room) s m args below meth c 5 cs D kz_cl A (wq_G0 ad w) (wq_Q cs D kz_cl A (wq_G0 ad w) rt xt below s 0 0) 56 (kt_L_heldUnitsThatCame_56 rt xt K) := by
      refine wq_iinc_ok h0 kd_L_heldUnitsThatCame_56 (by decide +kernel) (Nat.le_of_ble_eq_true rfl) ?_
      refine wq_goto_ok (tgt := 5) h0 kd_L_heldUnitsThatCame_59 (by decide) ?_
      exact hKc 5 (by decide)
    have hb_5 : wq_Snd p l e ({ frames := 0, cells := 0, slots := 0, locals := 0 } : Room) s m args below meth c 5 cs D kz_cl A (wq_G0 ad w) (wq_Q cs D kz_cl A (wq_G0 ad w) rt xt below s 0 0) 5 (kh_L_heldUnitsThatCame_5 rt xt K) := by
      refine wq_iload_ok h0 kd_L_heldUnitsThatCame_5 ?_
      refine wq_aload_n_ok h0 kd_L_heldUnitsThatCame_7 rfl ?_
      refine wq_get_ok (wq_getOK h0 hts ki_L hown hK (ci := 7) rfl 0 (Nat.le_of_ble_eq_true rfl) kw_317 rfl) kd_L_heldUnitsThatCame_8 ?_
      refine wq_icmp_ge_ok (tgt := 62) h0 kd_L_heldUnitsThatCame_11 (by decide) ?_ ?_
      · exact hb_62
      refine wq_aload_n_ok h0 kd_L_heldUnitsThatCame_14 rfl ?_
      refine wq_get_ok (wq_getOK h0 hts ki_L hown hK (ci := 7) rfl 1 (Nat.le_of_ble_eq_true rfl) kw_319 rfl) kd_L_heldUnitsThatCame_15 ?_
      refine wq_iload_ok h0 kd_L_heldUnitsThatCame_18 ?_
      refine wq_iald_ok h0 hK kd_L_heldUnitsThatCame_20 ?_
      refine wq_iload_n_ok h0 kd_L_heldUnitsThatCame_21 rfl ?_
      refine wq_icmp_ne_ok (tgt := 56) h0 kd_L_heldUnitsThatCame_22 (by decide) ?_ ?_
      · exact hb_56
      refine wq_aload_n_ok h0 kd_L_heldUnitsThatCame_25 rfl ?_
      refine wq_get_ok (wq_getOK h0 hts ki_L hown hK (ci := 7) rfl 5 (Nat.le_of_ble_eq_true rfl) kw_327 rfl) kd_L_heldUnitsThatCame_26 ?_
      refine wq_iload_ok h0 kd_L_heldUnitsThatCame_29 ?_
      refine wq_zald_ok h0 hK kd_L_heldUnitsThatCame_31 ?_
      refine wq_if_eq_ok (tgt := 56) h0 kd_L_heldUnitsThatCame_32 (by decide) ?_ ?_
      · exact hb_56
      refine wq_aload_n_ok h0 kd_L_heldUnitsThatCame_35 rfl ?_
      refine wq_get_ok (wq_getOK h0 hts ki_L hown hK (ci := 7) rfl 6 (Nat.le_of_ble_eq_true rfl) kw_329 rfl) kd_L_heldUnitsThatCame_36 ?_
      refine wq_iload_ok h0 kd_L_heldUnitsThatCame_39 ?_
      refine wq_zald_ok h0 hK kd_L_heldUnitsThatCame_41 ?_
      refine wq_iload_n_ok h0 kd_L_heldUnitsThatCame_42 rfl ?_
      refine wq_icmp_ne_ok (tgt := 56) h0 kd_L_heldUnitsThatCame_43 (by decide) ?_ ?_
      · exact hb_56
      refine wq_iload_n_ok h0 kd_L_heldUnitsThatCame_46 rfl ?_
      refine wq_aload_n_ok h0 kd_L_heldUnitsThatCame_47 rfl ?_
      refine wq_get_ok (wq_getOK h0 hts ki_L hown hK (ci := 7) rfl 2 (Nat.le_of_ble_eq_true rfl) kw_321 rfl) kd_L_heldUnitsThatCame_48 ?_
      refine wq_iload_ok h0 kd_L_heldUnitsThatCame_51 ?_
      refine wq_iald_ok h0 hK kd_L_heldUnitsThatCame_53 ?_
      refine wq_iadd_ok h0 kd_L_heldUnitsThatCame_54 ?_
      refine wq_istore_n_ok h0 kd_L_heldUnitsThatCame_55 rfl (Nat.le_of_ble_eq_true rfl) ?_
      exact hb_56
    have hb_0 : wq_Snd p l e ({ frames := 0, cells := 0, slots := 0, locals := 0 } : Room) s m args below meth c 5 cs D kz_cl A (wq_G0 ad w) (wq_Q cs D kz_cl A (wq_G0 ad w) rt xt below s 0 0) 0 (kt_L_heldUnitsThatCame_0 rt xt K) := by
      refine wq_iconst_ok h0 kd_L_heldUnitsThatCame_0 (by decide +kernel) ?_
      refine wq_istore_n_ok h0 kd_L_heldUnitsThatCame_1 rfl (Nat.le_of_ble_eq_true rfl) ?_
      refine wq_iconst_ok h0 kd_L_heldUnitsThatCame_2 (by decide +kernel) ?_
      refine wq_istore_ok h0 kd_L_heldUnitsThatCame_3 (Nat.le_of_ble_eq_true rfl) ?_
      exact hKc 5 (by decide)
    refine ⟨?_, hb_0⟩
    exact List.forall_mem_cons.mpr ⟨hb_5, fun _ h => absurd h List.not_mem_nil⟩
  have hun : ∀ (n pc : Nat), pc ∈ [5] → wq_Snd p l e ({ frames := 0, cells := 0, slots := 0, locals := 0 } : Room) s m args below meth c 5 cs D kz_cl A (wq_G0 ad w) (wq_Q cs D kz_cl A (wq_G0 ad w) rt xt below s 0 0) pc (ku_L_heldUnitsThatCame rt xt n pc) := by
    intro n
    induction n with
    | zero => intro pc _ L S w9 n1 n2 h; exact h.elim
    | succ n ih => intro pc hpc; exact (hall (ku_L_heldUnitsThatCame rt xt n) ih).1 pc hpc
  exact (hall (ku_L_heldUnitsThatCame rt xt 40) (hun 40)).2 _ _ _ _ _ (wq_sp_t hsp)
